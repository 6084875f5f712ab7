/-! the words -/
def lw_good : List Cond := lw_tbl.filter goodWord
theorem pz_in {w : Cond} (h : w ∈ tables_1) (g : goodWord w = true) : w ∈ lw_good := List.mem_filter.mpr ⟨List.mem_append_right _ h, g⟩
theorem pz_inS {w : Cond} (h : w ∈ k2_sels lw_privs) (g : goodWord w = true) : w ∈ lw_good := List.mem_filter.mpr ⟨List.mem_append_left _ h, g⟩
theorem wq_0 : (Jvm.Cond.initialized "SourcewrightLaw") ∈ lw_good := pz_in (List.mem_of_getElem? (i := 0) (by decide +kernel)) rfl
theorem wq_1 : (Jvm.Cond.initialized "Sourcewright") ∈ lw_good := pz_in (List.mem_of_getElem? (i := 1) (by decide +kernel)) rfl
theorem wq_2 : (Jvm.Cond.initialized "Sourcewright$Code") ∈ lw_good := pz_in (List.mem_of_getElem? (i := 2) (by decide +kernel)) rfl
theorem wq_3 : (Jvm.Cond.initialized "Sourcewright$Reading") ∈ lw_good := pz_in (List.mem_of_getElem? (i := 3) (by decide +kernel)) rfl
theorem wq_4 : (Jvm.Cond.initialized "Sourcewright$Sets") ∈ lw_good := pz_in (List.mem_of_getElem? (i := 4) (by decide +kernel)) rfl
theorem wq_5 : (Jvm.Cond.initialized "Sourcewright$Blocks") ∈ lw_good := pz_in (List.mem_of_getElem? (i := 5) (by decide +kernel)) rfl
theorem wq_6 : (Jvm.Cond.initialized "Sourcewright$Ways") ∈ lw_good := pz_in (List.mem_of_getElem? (i := 6) (by decide +kernel)) rfl
theorem wq_7 : (Jvm.Cond.initialized "Sourcewright$Life") ∈ lw_good := pz_in (List.mem_of_getElem? (i := 7) (by decide +kernel)) rfl
theorem wq_8 : (Jvm.Cond.initialized "Sourcewright$Scribe") ∈ lw_good := pz_in (List.mem_of_getElem? (i := 8) (by decide +kernel)) rfl
theorem wq_9 : (Jvm.Cond.initialized "Sourcewright$Tour") ∈ lw_good := pz_in (List.mem_of_getElem? (i := 9) (by decide +kernel)) rfl
theorem wq_10 : (Jvm.Cond.initialized "Sourcewright$Builder") ∈ lw_good := pz_in (List.mem_of_getElem? (i := 10) (by decide +kernel)) rfl
theorem wq_11 : (Jvm.Cond.initialized "Sourcewright$Shelf") ∈ lw_good := pz_in (List.mem_of_getElem? (i := 11) (by decide +kernel)) rfl
theorem wq_12 : (Jvm.Cond.initialized "Sourcewright$Machine") ∈ lw_good := pz_in (List.mem_of_getElem? (i := 12) (by decide +kernel)) rfl
theorem wq_13 : (Jvm.Cond.initialized "SourcewrightModel") ∈ lw_good := pz_in (List.mem_of_getElem? (i := 13) (by decide +kernel)) rfl
theorem wq_14 : (Jvm.Cond.initialized "java/util/AbstractCollection") ∈ lw_good := pz_in (List.mem_of_getElem? (i := 14) (by decide +kernel)) rfl
theorem wq_15 : (Jvm.Cond.initialized "java/util/AbstractList") ∈ lw_good := pz_in (List.mem_of_getElem? (i := 15) (by decide +kernel)) rfl
theorem wq_16 : (Jvm.Cond.initialized "java/util/ArrayList") ∈ lw_good := pz_in (List.mem_of_getElem? (i := 16) (by decide +kernel)) rfl
theorem wq_20 : (Jvm.Cond.initialized "java/lang/IllegalArgumentException") ∈ lw_good := pz_in (List.mem_of_getElem? (i := 20) (by decide +kernel)) rfl
theorem wq_22 : (Jvm.Cond.initialized "java/lang/Math") ∈ lw_good := pz_in (List.mem_of_getElem? (i := 22) (by decide +kernel)) rfl
theorem wq_23 : (Jvm.Cond.initialized "java/lang/Number") ∈ lw_good := pz_in (List.mem_of_getElem? (i := 23) (by decide +kernel)) rfl
theorem wq_24 : (Jvm.Cond.initialized "java/lang/Integer") ∈ lw_good := pz_in (List.mem_of_getElem? (i := 24) (by decide +kernel)) rfl
theorem wq_27 : (Jvm.Cond.initialized "java/util/Arrays") ∈ lw_good := pz_in (List.mem_of_getElem? (i := 27) (by decide +kernel)) rfl
theorem wq_28 : (Jvm.Cond.initialized "java/lang/System") ∈ lw_good := pz_in (List.mem_of_getElem? (i := 28) (by decide +kernel)) rfl
theorem wq_29 : (Jvm.Cond.initialized "java/lang/IndexOutOfBoundsException") ∈ lw_good := pz_in (List.mem_of_getElem? (i := 29) (by decide +kernel)) rfl
theorem wq_32 : (Jvm.Cond.initialized "java/util/Objects") ∈ lw_good := pz_in (List.mem_of_getElem? (i := 32) (by decide +kernel)) rfl
theorem wq_33 : (Jvm.Cond.initialized "jdk/internal/util/Preconditions") ∈ lw_good := pz_in (List.mem_of_getElem? (i := 33) (by decide +kernel)) rfl
theorem wq_36 : (Jvm.Cond.initialized "SourcewrightModel$Reading") ∈ lw_good := pz_in (List.mem_of_getElem? (i := 36) (by decide +kernel)) rfl
theorem wq_37 : (Jvm.Cond.initialized "java/util/ArrayList$Itr") ∈ lw_good := pz_in (List.mem_of_getElem? (i := 37) (by decide +kernel)) rfl
theorem wq_38 : (Jvm.Cond.initialized "java/util/NoSuchElementException") ∈ lw_good := pz_in (List.mem_of_getElem? (i := 38) (by decide +kernel)) rfl
theorem wq_44 : (Jvm.Cond.initialized "SourcewrightModel$Writer") ∈ lw_good := pz_in (List.mem_of_getElem? (i := 44) (by decide +kernel)) rfl
theorem wq_45 : (Jvm.Cond.initialized "SourcewrightModel$Run") ∈ lw_good := pz_in (List.mem_of_getElem? (i := 45) (by decide +kernel)) rfl
theorem wq_47 : (Jvm.Cond.initialized "java/lang/ArithmeticException") ∈ lw_good := pz_in (List.mem_of_getElem? (i := 47) (by decide +kernel)) rfl
theorem wq_53 : (Jvm.Cond.methodLink "Sourcewright" (1 : Nat) ({ cls := "java/lang/Object", name := "<init>", desc := "()V" } : Jvm.MethodName)) ∈ lw_good := pz_in (List.mem_of_getElem? (i := 53) (by decide +kernel)) rfl
theorem wq_54 : (Jvm.Cond.instanceMethod ({ cls := "java/lang/Object", name := "<init>", desc := "()V" } : Jvm.MethodName)) ∈ lw_good := pz_in (List.mem_of_getElem? (i := 54) (by decide +kernel)) rfl
theorem wq_55 : (Jvm.Cond.code ({ cls := "java/lang/Object", name := "<init>", desc := "()V" } : Jvm.MethodName) object_method_1_code (1 : Nat) (Option.none : Option Jvm.ClassFile.FieldType)) ∈ lw_good := pz_in (List.mem_of_getElem? (i := 55) (by decide +kernel)) rfl
theorem wq_56 : (Jvm.Cond.classLink "Sourcewright" (7 : Nat) "Sourcewright$Code") ∈ lw_good := pz_in (List.mem_of_getElem? (i := 56) (by decide +kernel)) rfl
theorem wq_57 : (Jvm.Cond.instantiable "Sourcewright$Code" (3 : Nat)) ∈ lw_good := pz_in (List.mem_of_getElem? (i := 57) (by decide +kernel)) rfl
theorem wq_59 : (Jvm.Cond.instanceMethod ({ cls := "Sourcewright$Code", name := "<init>", desc := "()V" } : Jvm.MethodName)) ∈ lw_good := pz_in (List.mem_of_getElem? (i := 59) (by decide +kernel)) rfl
theorem wq_60 : (Jvm.Cond.code ({ cls := "Sourcewright$Code", name := "<init>", desc := "()V" } : Jvm.MethodName) prog_4_method_1_code (1 : Nat) (Option.none : Option Jvm.ClassFile.FieldType)) ∈ lw_good := pz_in (List.mem_of_getElem? (i := 60) (by decide +kernel)) rfl
theorem wq_61 : (Jvm.Cond.methodLink "Sourcewright$Code" (3 : Nat) ({ cls := "java/lang/Object", name := "<init>", desc := "()V" } : Jvm.MethodName)) ∈ lw_good := pz_in (List.mem_of_getElem? (i := 61) (by decide +kernel)) rfl
theorem wq_62 : (Jvm.Cond.fieldLink "Sourcewright$Code" (9 : Nat) "Sourcewright$Code" "row" "[I") ∈ lw_good := pz_in (List.mem_of_getElem? (i := 62) (by decide +kernel)) rfl
theorem wq_63 : (Jvm.Cond.fieldLink "Sourcewright$Code" (15 : Nat) "Sourcewright$Code" "ops" "[I") ∈ lw_good := pz_in (List.mem_of_getElem? (i := 63) (by decide +kernel)) rfl
theorem wq_64 : (Jvm.Cond.fieldLink "Sourcewright$Code" (18 : Nat) "Sourcewright$Code" "count" "I") ∈ lw_good := pz_in (List.mem_of_getElem? (i := 64) (by decide +kernel)) rfl
theorem wq_65 : (Jvm.Cond.laysFinal "Sourcewright$Code" "Sourcewright$Code" "row" "[I") ∈ lw_good := pz_in (List.mem_of_getElem? (i := 65) (by decide +kernel)) rfl
theorem wq_67 : (Jvm.Cond.laysFinal "Sourcewright$Code" "Sourcewright$Code" "ops" "[I") ∈ lw_good := pz_in (List.mem_of_getElem? (i := 67) (by decide +kernel)) rfl
theorem wq_69 : (Jvm.Cond.lays "Sourcewright$Code" "Sourcewright$Code" "count" "I") ∈ lw_good := pz_in (List.mem_of_getElem? (i := 69) (by decide +kernel)) rfl
theorem wq_72 : (Jvm.Cond.arrayClass Jvm.ClassFile.FieldType.int) ∈ lw_good := pz_in (List.mem_of_getElem? (i := 72) (by decide +kernel)) rfl
theorem wq_73 : (Jvm.Cond.classLink "Sourcewright" (34 : Nat) "Sourcewright$Reading") ∈ lw_good := pz_in (List.mem_of_getElem? (i := 73) (by decide +kernel)) rfl
theorem wq_74 : (Jvm.Cond.instantiable "Sourcewright$Reading" (10 : Nat)) ∈ lw_good := pz_in (List.mem_of_getElem? (i := 74) (by decide +kernel)) rfl
theorem wq_75 : (Jvm.Cond.methodLink "Sourcewright" (36 : Nat) ({ cls := "Sourcewright$Reading", name := "<init>", desc := "(LSourcewright$Code;)V" } : Jvm.MethodName)) ∈ lw_good := pz_in (List.mem_of_getElem? (i := 75) (by decide +kernel)) rfl
theorem wq_76 : (Jvm.Cond.instanceMethod ({ cls := "Sourcewright$Reading", name := "<init>", desc := "(LSourcewright$Code;)V" } : Jvm.MethodName)) ∈ lw_good := pz_in (List.mem_of_getElem? (i := 76) (by decide +kernel)) rfl
theorem wq_77 : (Jvm.Cond.code ({ cls := "Sourcewright$Reading", name := "<init>", desc := "(LSourcewright$Code;)V" } : Jvm.MethodName) prog_7_method_1_code (2 : Nat) (Option.none : Option Jvm.ClassFile.FieldType)) ∈ lw_good := pz_in (List.mem_of_getElem? (i := 77) (by decide +kernel)) rfl
theorem wq_78 : (Jvm.Cond.methodLink "Sourcewright$Reading" (3 : Nat) ({ cls := "java/lang/Object", name := "<init>", desc := "()V" } : Jvm.MethodName)) ∈ lw_good := pz_in (List.mem_of_getElem? (i := 78) (by decide +kernel)) rfl
theorem wq_79 : (Jvm.Cond.classLink "Sourcewright$Reading" (9 : Nat) "Sourcewright$Sets") ∈ lw_good := pz_in (List.mem_of_getElem? (i := 79) (by decide +kernel)) rfl
theorem wq_80 : (Jvm.Cond.instantiable "Sourcewright$Sets" (2 : Nat)) ∈ lw_good := pz_in (List.mem_of_getElem? (i := 80) (by decide +kernel)) rfl
theorem wq_82 : (Jvm.Cond.instanceMethod ({ cls := "Sourcewright$Sets", name := "<init>", desc := "()V" } : Jvm.MethodName)) ∈ lw_good := pz_in (List.mem_of_getElem? (i := 82) (by decide +kernel)) rfl
theorem wq_83 : (Jvm.Cond.code ({ cls := "Sourcewright$Sets", name := "<init>", desc := "()V" } : Jvm.MethodName) prog_9_method_1_code (1 : Nat) (Option.none : Option Jvm.ClassFile.FieldType)) ∈ lw_good := pz_in (List.mem_of_getElem? (i := 83) (by decide +kernel)) rfl
theorem wq_84 : (Jvm.Cond.methodLink "Sourcewright$Sets" (3 : Nat) ({ cls := "java/lang/Object", name := "<init>", desc := "()V" } : Jvm.MethodName)) ∈ lw_good := pz_in (List.mem_of_getElem? (i := 84) (by decide +kernel)) rfl
theorem wq_85 : (Jvm.Cond.fieldLink "Sourcewright$Sets" (9 : Nat) "Sourcewright$Sets" "low" "[J") ∈ lw_good := pz_in (List.mem_of_getElem? (i := 85) (by decide +kernel)) rfl
theorem wq_86 : (Jvm.Cond.fieldLink "Sourcewright$Sets" (15 : Nat) "Sourcewright$Sets" "high" "[J") ∈ lw_good := pz_in (List.mem_of_getElem? (i := 86) (by decide +kernel)) rfl
theorem wq_87 : (Jvm.Cond.laysFinal "Sourcewright$Sets" "Sourcewright$Sets" "low" "[J") ∈ lw_good := pz_in (List.mem_of_getElem? (i := 87) (by decide +kernel)) rfl
theorem wq_89 : (Jvm.Cond.laysFinal "Sourcewright$Sets" "Sourcewright$Sets" "high" "[J") ∈ lw_good := pz_in (List.mem_of_getElem? (i := 89) (by decide +kernel)) rfl
theorem wq_92 : (Jvm.Cond.arrayClass Jvm.ClassFile.FieldType.long) ∈ lw_good := pz_in (List.mem_of_getElem? (i := 92) (by decide +kernel)) rfl
theorem wq_93 : (Jvm.Cond.fieldLink "Sourcewright$Reading" (45 : Nat) "Sourcewright$Reading" "code" "LSourcewright$Code;") ∈ lw_good := pz_in (List.mem_of_getElem? (i := 93) (by decide +kernel)) rfl
theorem wq_94 : (Jvm.Cond.fieldLink "Sourcewright$Reading" (12 : Nat) "Sourcewright$Reading" "walked" "LSourcewright$Sets;") ∈ lw_good := pz_in (List.mem_of_getElem? (i := 94) (by decide +kernel)) rfl
theorem wq_95 : (Jvm.Cond.fieldLink "Sourcewright$Reading" (18 : Nat) "Sourcewright$Reading" "returns" "[Z") ∈ lw_good := pz_in (List.mem_of_getElem? (i := 95) (by decide +kernel)) rfl
theorem wq_96 : (Jvm.Cond.fieldLink "Sourcewright$Reading" (22 : Nat) "Sourcewright$Reading" "isEntry" "[Z") ∈ lw_good := pz_in (List.mem_of_getElem? (i := 96) (by decide +kernel)) rfl
theorem wq_97 : (Jvm.Cond.fieldLink "Sourcewright$Reading" (25 : Nat) "Sourcewright$Reading" "marks" "[I") ∈ lw_good := pz_in (List.mem_of_getElem? (i := 97) (by decide +kernel)) rfl
theorem wq_98 : (Jvm.Cond.fieldLink "Sourcewright$Reading" (29 : Nat) "Sourcewright$Reading" "entries" "[I") ∈ lw_good := pz_in (List.mem_of_getElem? (i := 98) (by decide +kernel)) rfl
theorem wq_99 : (Jvm.Cond.fieldLink "Sourcewright$Reading" (32 : Nat) "Sourcewright$Reading" "stack" "[I") ∈ lw_good := pz_in (List.mem_of_getElem? (i := 99) (by decide +kernel)) rfl
theorem wq_100 : (Jvm.Cond.fieldLink "Sourcewright$Reading" (35 : Nat) "Sourcewright$Reading" "stackCount" "I") ∈ lw_good := pz_in (List.mem_of_getElem? (i := 100) (by decide +kernel)) rfl
theorem wq_101 : (Jvm.Cond.fieldLink "Sourcewright$Reading" (39 : Nat) "Sourcewright$Reading" "length" "I") ∈ lw_good := pz_in (List.mem_of_getElem? (i := 101) (by decide +kernel)) rfl
theorem wq_102 : (Jvm.Cond.fieldLink "Sourcewright$Reading" (42 : Nat) "Sourcewright$Reading" "count" "I") ∈ lw_good := pz_in (List.mem_of_getElem? (i := 102) (by decide +kernel)) rfl
theorem wq_103 : (Jvm.Cond.laysFinal "Sourcewright$Reading" "Sourcewright$Reading" "code" "LSourcewright$Code;") ∈ lw_good := pz_in (List.mem_of_getElem? (i := 103) (by decide +kernel)) rfl
theorem wq_105 : (Jvm.Cond.laysFinal "Sourcewright$Reading" "Sourcewright$Reading" "walked" "LSourcewright$Sets;") ∈ lw_good := pz_in (List.mem_of_getElem? (i := 105) (by decide +kernel)) rfl
theorem wq_107 : (Jvm.Cond.laysFinal "Sourcewright$Reading" "Sourcewright$Reading" "returns" "[Z") ∈ lw_good := pz_in (List.mem_of_getElem? (i := 107) (by decide +kernel)) rfl
theorem wq_109 : (Jvm.Cond.laysFinal "Sourcewright$Reading" "Sourcewright$Reading" "isEntry" "[Z") ∈ lw_good := pz_in (List.mem_of_getElem? (i := 109) (by decide +kernel)) rfl
theorem wq_111 : (Jvm.Cond.laysFinal "Sourcewright$Reading" "Sourcewright$Reading" "marks" "[I") ∈ lw_good := pz_in (List.mem_of_getElem? (i := 111) (by decide +kernel)) rfl
theorem wq_113 : (Jvm.Cond.laysFinal "Sourcewright$Reading" "Sourcewright$Reading" "entries" "[I") ∈ lw_good := pz_in (List.mem_of_getElem? (i := 113) (by decide +kernel)) rfl
theorem wq_115 : (Jvm.Cond.laysFinal "Sourcewright$Reading" "Sourcewright$Reading" "stack" "[I") ∈ lw_good := pz_in (List.mem_of_getElem? (i := 115) (by decide +kernel)) rfl
theorem wq_117 : (Jvm.Cond.lays "Sourcewright$Reading" "Sourcewright$Reading" "stackCount" "I") ∈ lw_good := pz_in (List.mem_of_getElem? (i := 117) (by decide +kernel)) rfl
theorem wq_119 : (Jvm.Cond.lays "Sourcewright$Reading" "Sourcewright$Reading" "length" "I") ∈ lw_good := pz_in (List.mem_of_getElem? (i := 119) (by decide +kernel)) rfl
theorem wq_121 : (Jvm.Cond.lays "Sourcewright$Reading" "Sourcewright$Reading" "count" "I") ∈ lw_good := pz_in (List.mem_of_getElem? (i := 121) (by decide +kernel)) rfl
theorem wq_124 : (Jvm.Cond.arrayClass Jvm.ClassFile.FieldType.boolean) ∈ lw_good := pz_in (List.mem_of_getElem? (i := 124) (by decide +kernel)) rfl
theorem wq_125 : (Jvm.Cond.classLink "Sourcewright" (43 : Nat) "Sourcewright$Blocks") ∈ lw_good := pz_in (List.mem_of_getElem? (i := 125) (by decide +kernel)) rfl
theorem wq_126 : (Jvm.Cond.instantiable "Sourcewright$Blocks" (15 : Nat)) ∈ lw_good := pz_in (List.mem_of_getElem? (i := 126) (by decide +kernel)) rfl
theorem wq_127 : (Jvm.Cond.methodLink "Sourcewright" (45 : Nat) ({ cls := "Sourcewright$Blocks", name := "<init>", desc := "(LSourcewright$Code;LSourcewright$Reading;)V" } : Jvm.MethodName)) ∈ lw_good := pz_in (List.mem_of_getElem? (i := 127) (by decide +kernel)) rfl
theorem wq_128 : (Jvm.Cond.instanceMethod ({ cls := "Sourcewright$Blocks", name := "<init>", desc := "(LSourcewright$Code;LSourcewright$Reading;)V" } : Jvm.MethodName)) ∈ lw_good := pz_in (List.mem_of_getElem? (i := 128) (by decide +kernel)) rfl
theorem wq_129 : (Jvm.Cond.code ({ cls := "Sourcewright$Blocks", name := "<init>", desc := "(LSourcewright$Code;LSourcewright$Reading;)V" } : Jvm.MethodName) prog_2_method_1_code (3 : Nat) (Option.none : Option Jvm.ClassFile.FieldType)) ∈ lw_good := pz_in (List.mem_of_getElem? (i := 129) (by decide +kernel)) rfl
theorem wq_130 : (Jvm.Cond.methodLink "Sourcewright$Blocks" (3 : Nat) ({ cls := "java/lang/Object", name := "<init>", desc := "()V" } : Jvm.MethodName)) ∈ lw_good := pz_in (List.mem_of_getElem? (i := 130) (by decide +kernel)) rfl
theorem wq_131 : (Jvm.Cond.fieldLink "Sourcewright$Blocks" (53 : Nat) "Sourcewright$Blocks" "code" "LSourcewright$Code;") ∈ lw_good := pz_in (List.mem_of_getElem? (i := 131) (by decide +kernel)) rfl
theorem wq_132 : (Jvm.Cond.fieldLink "Sourcewright$Blocks" (57 : Nat) "Sourcewright$Blocks" "reading" "LSourcewright$Reading;") ∈ lw_good := pz_in (List.mem_of_getElem? (i := 132) (by decide +kernel)) rfl
theorem wq_133 : (Jvm.Cond.fieldLink "Sourcewright$Blocks" (9 : Nat) "Sourcewright$Blocks" "isFirst" "[Z") ∈ lw_good := pz_in (List.mem_of_getElem? (i := 133) (by decide +kernel)) rfl
theorem wq_134 : (Jvm.Cond.fieldLink "Sourcewright$Blocks" (15 : Nat) "Sourcewright$Blocks" "isWalkedTo" "[Z") ∈ lw_good := pz_in (List.mem_of_getElem? (i := 134) (by decide +kernel)) rfl
theorem wq_135 : (Jvm.Cond.fieldLink "Sourcewright$Blocks" (18 : Nat) "Sourcewright$Blocks" "blockAt" "[I") ∈ lw_good := pz_in (List.mem_of_getElem? (i := 135) (by decide +kernel)) rfl
theorem wq_136 : (Jvm.Cond.fieldLink "Sourcewright$Blocks" (22 : Nat) "Sourcewright$Blocks" "firsts" "[I") ∈ lw_good := pz_in (List.mem_of_getElem? (i := 136) (by decide +kernel)) rfl
theorem wq_137 : (Jvm.Cond.fieldLink "Sourcewright$Blocks" (25 : Nat) "Sourcewright$Blocks" "lasts" "[I") ∈ lw_good := pz_in (List.mem_of_getElem? (i := 137) (by decide +kernel)) rfl
theorem wq_138 : (Jvm.Cond.fieldLink "Sourcewright$Blocks" (28 : Nat) "Sourcewright$Blocks" "many" "[I") ∈ lw_good := pz_in (List.mem_of_getElem? (i := 138) (by decide +kernel)) rfl
theorem wq_139 : (Jvm.Cond.fieldLink "Sourcewright$Blocks" (31 : Nat) "Sourcewright$Blocks" "stepCounts" "[I") ∈ lw_good := pz_in (List.mem_of_getElem? (i := 139) (by decide +kernel)) rfl
theorem wq_140 : (Jvm.Cond.fieldLink "Sourcewright$Blocks" (34 : Nat) "Sourcewright$Blocks" "goes" "[I") ∈ lw_good := pz_in (List.mem_of_getElem? (i := 140) (by decide +kernel)) rfl
theorem wq_141 : (Jvm.Cond.fieldLink "Sourcewright$Blocks" (37 : Nat) "Sourcewright$Blocks" "passes" "[I") ∈ lw_good := pz_in (List.mem_of_getElem? (i := 141) (by decide +kernel)) rfl
theorem wq_142 : (Jvm.Cond.fieldLink "Sourcewright$Blocks" (40 : Nat) "Sourcewright$Blocks" "tables" "[I") ∈ lw_good := pz_in (List.mem_of_getElem? (i := 142) (by decide +kernel)) rfl
theorem wq_143 : (Jvm.Cond.fieldLink "Sourcewright$Blocks" (43 : Nat) "Sourcewright$Blocks" "length" "I") ∈ lw_good := pz_in (List.mem_of_getElem? (i := 143) (by decide +kernel)) rfl
theorem wq_144 : (Jvm.Cond.fieldLink "Sourcewright$Blocks" (47 : Nat) "Sourcewright$Blocks" "count" "I") ∈ lw_good := pz_in (List.mem_of_getElem? (i := 144) (by decide +kernel)) rfl
theorem wq_145 : (Jvm.Cond.fieldLink "Sourcewright$Blocks" (50 : Nat) "Sourcewright$Blocks" "entryBlock" "I") ∈ lw_good := pz_in (List.mem_of_getElem? (i := 145) (by decide +kernel)) rfl
theorem wq_146 : (Jvm.Cond.laysFinal "Sourcewright$Blocks" "Sourcewright$Blocks" "code" "LSourcewright$Code;") ∈ lw_good := pz_in (List.mem_of_getElem? (i := 146) (by decide +kernel)) rfl
theorem wq_148 : (Jvm.Cond.laysFinal "Sourcewright$Blocks" "Sourcewright$Blocks" "reading" "LSourcewright$Reading;") ∈ lw_good := pz_in (List.mem_of_getElem? (i := 148) (by decide +kernel)) rfl
theorem wq_150 : (Jvm.Cond.laysFinal "Sourcewright$Blocks" "Sourcewright$Blocks" "isFirst" "[Z") ∈ lw_good := pz_in (List.mem_of_getElem? (i := 150) (by decide +kernel)) rfl
theorem wq_152 : (Jvm.Cond.laysFinal "Sourcewright$Blocks" "Sourcewright$Blocks" "isWalkedTo" "[Z") ∈ lw_good := pz_in (List.mem_of_getElem? (i := 152) (by decide +kernel)) rfl
theorem wq_154 : (Jvm.Cond.laysFinal "Sourcewright$Blocks" "Sourcewright$Blocks" "blockAt" "[I") ∈ lw_good := pz_in (List.mem_of_getElem? (i := 154) (by decide +kernel)) rfl
theorem wq_156 : (Jvm.Cond.laysFinal "Sourcewright$Blocks" "Sourcewright$Blocks" "firsts" "[I") ∈ lw_good := pz_in (List.mem_of_getElem? (i := 156) (by decide +kernel)) rfl
theorem wq_158 : (Jvm.Cond.laysFinal "Sourcewright$Blocks" "Sourcewright$Blocks" "lasts" "[I") ∈ lw_good := pz_in (List.mem_of_getElem? (i := 158) (by decide +kernel)) rfl
theorem wq_160 : (Jvm.Cond.laysFinal "Sourcewright$Blocks" "Sourcewright$Blocks" "many" "[I") ∈ lw_good := pz_in (List.mem_of_getElem? (i := 160) (by decide +kernel)) rfl
theorem wq_162 : (Jvm.Cond.laysFinal "Sourcewright$Blocks" "Sourcewright$Blocks" "stepCounts" "[I") ∈ lw_good := pz_in (List.mem_of_getElem? (i := 162) (by decide +kernel)) rfl
theorem wq_164 : (Jvm.Cond.laysFinal "Sourcewright$Blocks" "Sourcewright$Blocks" "goes" "[I") ∈ lw_good := pz_in (List.mem_of_getElem? (i := 164) (by decide +kernel)) rfl
theorem wq_166 : (Jvm.Cond.laysFinal "Sourcewright$Blocks" "Sourcewright$Blocks" "passes" "[I") ∈ lw_good := pz_in (List.mem_of_getElem? (i := 166) (by decide +kernel)) rfl
theorem wq_168 : (Jvm.Cond.laysFinal "Sourcewright$Blocks" "Sourcewright$Blocks" "tables" "[I") ∈ lw_good := pz_in (List.mem_of_getElem? (i := 168) (by decide +kernel)) rfl
theorem wq_170 : (Jvm.Cond.lays "Sourcewright$Blocks" "Sourcewright$Blocks" "length" "I") ∈ lw_good := pz_in (List.mem_of_getElem? (i := 170) (by decide +kernel)) rfl
theorem wq_172 : (Jvm.Cond.lays "Sourcewright$Blocks" "Sourcewright$Blocks" "count" "I") ∈ lw_good := pz_in (List.mem_of_getElem? (i := 172) (by decide +kernel)) rfl
theorem wq_174 : (Jvm.Cond.lays "Sourcewright$Blocks" "Sourcewright$Blocks" "entryBlock" "I") ∈ lw_good := pz_in (List.mem_of_getElem? (i := 174) (by decide +kernel)) rfl
theorem wq_177 : (Jvm.Cond.classLink "Sourcewright" (52 : Nat) "Sourcewright$Ways") ∈ lw_good := pz_in (List.mem_of_getElem? (i := 177) (by decide +kernel)) rfl
theorem wq_178 : (Jvm.Cond.instantiable "Sourcewright$Ways" (16 : Nat)) ∈ lw_good := pz_in (List.mem_of_getElem? (i := 178) (by decide +kernel)) rfl
theorem wq_179 : (Jvm.Cond.methodLink "Sourcewright" (54 : Nat) ({ cls := "Sourcewright$Ways", name := "<init>", desc := "(LSourcewright$Blocks;)V" } : Jvm.MethodName)) ∈ lw_good := pz_in (List.mem_of_getElem? (i := 179) (by decide +kernel)) rfl
theorem wq_180 : (Jvm.Cond.instanceMethod ({ cls := "Sourcewright$Ways", name := "<init>", desc := "(LSourcewright$Blocks;)V" } : Jvm.MethodName)) ∈ lw_good := pz_in (List.mem_of_getElem? (i := 180) (by decide +kernel)) rfl
theorem wq_181 : (Jvm.Cond.code ({ cls := "Sourcewright$Ways", name := "<init>", desc := "(LSourcewright$Blocks;)V" } : Jvm.MethodName) prog_12_method_1_code (2 : Nat) (Option.none : Option Jvm.ClassFile.FieldType)) ∈ lw_good := pz_in (List.mem_of_getElem? (i := 181) (by decide +kernel)) rfl
theorem wq_182 : (Jvm.Cond.methodLink "Sourcewright$Ways" (3 : Nat) ({ cls := "java/lang/Object", name := "<init>", desc := "()V" } : Jvm.MethodName)) ∈ lw_good := pz_in (List.mem_of_getElem? (i := 182) (by decide +kernel)) rfl
theorem wq_183 : (Jvm.Cond.classLink "Sourcewright$Ways" (9 : Nat) "Sourcewright$Sets") ∈ lw_good := pz_in (List.mem_of_getElem? (i := 183) (by decide +kernel)) rfl
theorem wq_185 : (Jvm.Cond.fieldLink "Sourcewright$Ways" (63 : Nat) "Sourcewright$Ways" "blocks" "LSourcewright$Blocks;") ∈ lw_good := pz_in (List.mem_of_getElem? (i := 185) (by decide +kernel)) rfl
theorem wq_186 : (Jvm.Cond.fieldLink "Sourcewright$Ways" (12 : Nat) "Sourcewright$Ways" "ahead" "LSourcewright$Sets;") ∈ lw_good := pz_in (List.mem_of_getElem? (i := 186) (by decide +kernel)) rfl
theorem wq_187 : (Jvm.Cond.fieldLink "Sourcewright$Ways" (18 : Nat) "Sourcewright$Ways" "without" "LSourcewright$Sets;") ∈ lw_good := pz_in (List.mem_of_getElem? (i := 187) (by decide +kernel)) rfl
theorem wq_188 : (Jvm.Cond.fieldLink "Sourcewright$Ways" (21 : Nat) "Sourcewright$Ways" "orders" "[I") ∈ lw_good := pz_in (List.mem_of_getElem? (i := 188) (by decide +kernel)) rfl
theorem wq_189 : (Jvm.Cond.fieldLink "Sourcewright$Ways" (25 : Nat) "Sourcewright$Ways" "inOrder" "[I") ∈ lw_good := pz_in (List.mem_of_getElem? (i := 189) (by decide +kernel)) rfl
theorem wq_190 : (Jvm.Cond.fieldLink "Sourcewright$Ways" (28 : Nat) "Sourcewright$Ways" "cursor" "[I") ∈ lw_good := pz_in (List.mem_of_getElem? (i := 190) (by decide +kernel)) rfl
theorem wq_191 : (Jvm.Cond.fieldLink "Sourcewright$Ways" (31 : Nat) "Sourcewright$Ways" "stack" "[I") ∈ lw_good := pz_in (List.mem_of_getElem? (i := 191) (by decide +kernel)) rfl
theorem wq_192 : (Jvm.Cond.fieldLink "Sourcewright$Ways" (34 : Nat) "Sourcewright$Ways" "nearests" "[I") ∈ lw_good := pz_in (List.mem_of_getElem? (i := 192) (by decide +kernel)) rfl
theorem wq_193 : (Jvm.Cond.fieldLink "Sourcewright$Ways" (37 : Nat) "Sourcewright$Ways" "arrivals" "[I") ∈ lw_good := pz_in (List.mem_of_getElem? (i := 193) (by decide +kernel)) rfl
theorem wq_194 : (Jvm.Cond.fieldLink "Sourcewright$Ways" (40 : Nat) "Sourcewright$Ways" "loops" "[I") ∈ lw_good := pz_in (List.mem_of_getElem? (i := 194) (by decide +kernel)) rfl
theorem wq_195 : (Jvm.Cond.fieldLink "Sourcewright$Ways" (43 : Nat) "Sourcewright$Ways" "isLoopHead" "[Z") ∈ lw_good := pz_in (List.mem_of_getElem? (i := 195) (by decide +kernel)) rfl
theorem wq_196 : (Jvm.Cond.fieldLink "Sourcewright$Ways" (47 : Nat) "Sourcewright$Ways" "isSeen" "[Z") ∈ lw_good := pz_in (List.mem_of_getElem? (i := 196) (by decide +kernel)) rfl
theorem wq_197 : (Jvm.Cond.fieldLink "Sourcewright$Ways" (50 : Nat) "Sourcewright$Ways" "firstMeet" "[I") ∈ lw_good := pz_in (List.mem_of_getElem? (i := 197) (by decide +kernel)) rfl
theorem wq_198 : (Jvm.Cond.fieldLink "Sourcewright$Ways" (53 : Nat) "Sourcewright$Ways" "afterMeet" "[I") ∈ lw_good := pz_in (List.mem_of_getElem? (i := 198) (by decide +kernel)) rfl
theorem wq_199 : (Jvm.Cond.fieldLink "Sourcewright$Ways" (56 : Nat) "Sourcewright$Ways" "leapCount" "I") ∈ lw_good := pz_in (List.mem_of_getElem? (i := 199) (by decide +kernel)) rfl
theorem wq_200 : (Jvm.Cond.fieldLink "Sourcewright$Ways" (60 : Nat) "Sourcewright$Ways" "count" "I") ∈ lw_good := pz_in (List.mem_of_getElem? (i := 200) (by decide +kernel)) rfl
theorem wq_201 : (Jvm.Cond.laysFinal "Sourcewright$Ways" "Sourcewright$Ways" "blocks" "LSourcewright$Blocks;") ∈ lw_good := pz_in (List.mem_of_getElem? (i := 201) (by decide +kernel)) rfl
theorem wq_203 : (Jvm.Cond.laysFinal "Sourcewright$Ways" "Sourcewright$Ways" "ahead" "LSourcewright$Sets;") ∈ lw_good := pz_in (List.mem_of_getElem? (i := 203) (by decide +kernel)) rfl
theorem wq_205 : (Jvm.Cond.laysFinal "Sourcewright$Ways" "Sourcewright$Ways" "without" "LSourcewright$Sets;") ∈ lw_good := pz_in (List.mem_of_getElem? (i := 205) (by decide +kernel)) rfl
theorem wq_207 : (Jvm.Cond.laysFinal "Sourcewright$Ways" "Sourcewright$Ways" "orders" "[I") ∈ lw_good := pz_in (List.mem_of_getElem? (i := 207) (by decide +kernel)) rfl
theorem wq_209 : (Jvm.Cond.laysFinal "Sourcewright$Ways" "Sourcewright$Ways" "inOrder" "[I") ∈ lw_good := pz_in (List.mem_of_getElem? (i := 209) (by decide +kernel)) rfl
theorem wq_211 : (Jvm.Cond.laysFinal "Sourcewright$Ways" "Sourcewright$Ways" "cursor" "[I") ∈ lw_good := pz_in (List.mem_of_getElem? (i := 211) (by decide +kernel)) rfl
theorem wq_213 : (Jvm.Cond.laysFinal "Sourcewright$Ways" "Sourcewright$Ways" "stack" "[I") ∈ lw_good := pz_in (List.mem_of_getElem? (i := 213) (by decide +kernel)) rfl
theorem wq_215 : (Jvm.Cond.laysFinal "Sourcewright$Ways" "Sourcewright$Ways" "nearests" "[I") ∈ lw_good := pz_in (List.mem_of_getElem? (i := 215) (by decide +kernel)) rfl
theorem wq_217 : (Jvm.Cond.laysFinal "Sourcewright$Ways" "Sourcewright$Ways" "arrivals" "[I") ∈ lw_good := pz_in (List.mem_of_getElem? (i := 217) (by decide +kernel)) rfl
theorem wq_219 : (Jvm.Cond.laysFinal "Sourcewright$Ways" "Sourcewright$Ways" "loops" "[I") ∈ lw_good := pz_in (List.mem_of_getElem? (i := 219) (by decide +kernel)) rfl
theorem wq_221 : (Jvm.Cond.laysFinal "Sourcewright$Ways" "Sourcewright$Ways" "isLoopHead" "[Z") ∈ lw_good := pz_in (List.mem_of_getElem? (i := 221) (by decide +kernel)) rfl
theorem wq_223 : (Jvm.Cond.laysFinal "Sourcewright$Ways" "Sourcewright$Ways" "isSeen" "[Z") ∈ lw_good := pz_in (List.mem_of_getElem? (i := 223) (by decide +kernel)) rfl
theorem wq_225 : (Jvm.Cond.laysFinal "Sourcewright$Ways" "Sourcewright$Ways" "firstMeet" "[I") ∈ lw_good := pz_in (List.mem_of_getElem? (i := 225) (by decide +kernel)) rfl
theorem wq_227 : (Jvm.Cond.laysFinal "Sourcewright$Ways" "Sourcewright$Ways" "afterMeet" "[I") ∈ lw_good := pz_in (List.mem_of_getElem? (i := 227) (by decide +kernel)) rfl
theorem wq_229 : (Jvm.Cond.lays "Sourcewright$Ways" "Sourcewright$Ways" "leapCount" "I") ∈ lw_good := pz_in (List.mem_of_getElem? (i := 229) (by decide +kernel)) rfl
theorem wq_231 : (Jvm.Cond.lays "Sourcewright$Ways" "Sourcewright$Ways" "count" "I") ∈ lw_good := pz_in (List.mem_of_getElem? (i := 231) (by decide +kernel)) rfl
theorem wq_234 : (Jvm.Cond.classLink "Sourcewright" (61 : Nat) "Sourcewright$Life") ∈ lw_good := pz_in (List.mem_of_getElem? (i := 234) (by decide +kernel)) rfl
theorem wq_235 : (Jvm.Cond.instantiable "Sourcewright$Life" (3 : Nat)) ∈ lw_good := pz_in (List.mem_of_getElem? (i := 235) (by decide +kernel)) rfl
theorem wq_236 : (Jvm.Cond.methodLink "Sourcewright" (63 : Nat) ({ cls := "Sourcewright$Life", name := "<init>", desc := "(LSourcewright$Code;LSourcewright$Reading;)V" } : Jvm.MethodName)) ∈ lw_good := pz_in (List.mem_of_getElem? (i := 236) (by decide +kernel)) rfl
theorem wq_237 : (Jvm.Cond.instanceMethod ({ cls := "Sourcewright$Life", name := "<init>", desc := "(LSourcewright$Code;LSourcewright$Reading;)V" } : Jvm.MethodName)) ∈ lw_good := pz_in (List.mem_of_getElem? (i := 237) (by decide +kernel)) rfl
theorem wq_238 : (Jvm.Cond.code ({ cls := "Sourcewright$Life", name := "<init>", desc := "(LSourcewright$Code;LSourcewright$Reading;)V" } : Jvm.MethodName) prog_5_method_1_code (3 : Nat) (Option.none : Option Jvm.ClassFile.FieldType)) ∈ lw_good := pz_in (List.mem_of_getElem? (i := 238) (by decide +kernel)) rfl
theorem wq_239 : (Jvm.Cond.methodLink "Sourcewright$Life" (3 : Nat) ({ cls := "java/lang/Object", name := "<init>", desc := "()V" } : Jvm.MethodName)) ∈ lw_good := pz_in (List.mem_of_getElem? (i := 239) (by decide +kernel)) rfl
theorem wq_240 : (Jvm.Cond.fieldLink "Sourcewright$Life" (15 : Nat) "Sourcewright$Life" "code" "LSourcewright$Code;") ∈ lw_good := pz_in (List.mem_of_getElem? (i := 240) (by decide +kernel)) rfl
theorem wq_241 : (Jvm.Cond.fieldLink "Sourcewright$Life" (19 : Nat) "Sourcewright$Life" "reading" "LSourcewright$Reading;") ∈ lw_good := pz_in (List.mem_of_getElem? (i := 241) (by decide +kernel)) rfl
theorem wq_242 : (Jvm.Cond.fieldLink "Sourcewright$Life" (9 : Nat) "Sourcewright$Life" "ahead" "[I") ∈ lw_good := pz_in (List.mem_of_getElem? (i := 242) (by decide +kernel)) rfl
theorem wq_243 : (Jvm.Cond.laysFinal "Sourcewright$Life" "Sourcewright$Life" "code" "LSourcewright$Code;") ∈ lw_good := pz_in (List.mem_of_getElem? (i := 243) (by decide +kernel)) rfl
theorem wq_245 : (Jvm.Cond.laysFinal "Sourcewright$Life" "Sourcewright$Life" "reading" "LSourcewright$Reading;") ∈ lw_good := pz_in (List.mem_of_getElem? (i := 245) (by decide +kernel)) rfl
theorem wq_247 : (Jvm.Cond.laysFinal "Sourcewright$Life" "Sourcewright$Life" "ahead" "[I") ∈ lw_good := pz_in (List.mem_of_getElem? (i := 247) (by decide +kernel)) rfl
theorem wq_250 : (Jvm.Cond.classLink "Sourcewright" (68 : Nat) "Sourcewright$Scribe") ∈ lw_good := pz_in (List.mem_of_getElem? (i := 250) (by decide +kernel)) rfl
theorem wq_251 : (Jvm.Cond.instantiable "Sourcewright$Scribe" (8 : Nat)) ∈ lw_good := pz_in (List.mem_of_getElem? (i := 251) (by decide +kernel)) rfl
theorem wq_252 : (Jvm.Cond.methodLink "Sourcewright" (70 : Nat) ({ cls := "Sourcewright$Scribe", name := "<init>", desc := "(LSourcewright$Code;LSourcewright$Blocks;LSourcewright$Ways;LSourcewright$Life;)V" } : Jvm.MethodName)) ∈ lw_good := pz_in (List.mem_of_getElem? (i := 252) (by decide +kernel)) rfl
theorem wq_253 : (Jvm.Cond.instanceMethod ({ cls := "Sourcewright$Scribe", name := "<init>", desc := "(LSourcewright$Code;LSourcewright$Blocks;LSourcewright$Ways;LSourcewright$Life;)V" } : Jvm.MethodName)) ∈ lw_good := pz_in (List.mem_of_getElem? (i := 253) (by decide +kernel)) rfl
theorem wq_254 : (Jvm.Cond.code ({ cls := "Sourcewright$Scribe", name := "<init>", desc := "(LSourcewright$Code;LSourcewright$Blocks;LSourcewright$Ways;LSourcewright$Life;)V" } : Jvm.MethodName) prog_8_method_1_code (5 : Nat) (Option.none : Option Jvm.ClassFile.FieldType)) ∈ lw_good := pz_in (List.mem_of_getElem? (i := 254) (by decide +kernel)) rfl
theorem wq_255 : (Jvm.Cond.methodLink "Sourcewright$Scribe" (3 : Nat) ({ cls := "java/lang/Object", name := "<init>", desc := "()V" } : Jvm.MethodName)) ∈ lw_good := pz_in (List.mem_of_getElem? (i := 255) (by decide +kernel)) rfl
theorem wq_256 : (Jvm.Cond.classLink "Sourcewright$Scribe" (39 : Nat) "Sourcewright$Tour") ∈ lw_good := pz_in (List.mem_of_getElem? (i := 256) (by decide +kernel)) rfl
theorem wq_257 : (Jvm.Cond.instantiable "Sourcewright$Tour" (14 : Nat)) ∈ lw_good := pz_in (List.mem_of_getElem? (i := 257) (by decide +kernel)) rfl
theorem wq_258 : (Jvm.Cond.methodLink "Sourcewright$Scribe" (41 : Nat) ({ cls := "Sourcewright$Tour", name := "<init>", desc := "(LSourcewright$Code;LSourcewright$Blocks;LSourcewright$Ways;Z)V" } : Jvm.MethodName)) ∈ lw_good := pz_in (List.mem_of_getElem? (i := 258) (by decide +kernel)) rfl
theorem wq_259 : (Jvm.Cond.instanceMethod ({ cls := "Sourcewright$Tour", name := "<init>", desc := "(LSourcewright$Code;LSourcewright$Blocks;LSourcewright$Ways;Z)V" } : Jvm.MethodName)) ∈ lw_good := pz_in (List.mem_of_getElem? (i := 259) (by decide +kernel)) rfl
theorem wq_260 : (Jvm.Cond.code ({ cls := "Sourcewright$Tour", name := "<init>", desc := "(LSourcewright$Code;LSourcewright$Blocks;LSourcewright$Ways;Z)V" } : Jvm.MethodName) prog_11_method_1_code (5 : Nat) (Option.none : Option Jvm.ClassFile.FieldType)) ∈ lw_good := pz_in (List.mem_of_getElem? (i := 260) (by decide +kernel)) rfl
theorem wq_261 : (Jvm.Cond.methodLink "Sourcewright$Tour" (3 : Nat) ({ cls := "java/lang/Object", name := "<init>", desc := "()V" } : Jvm.MethodName)) ∈ lw_good := pz_in (List.mem_of_getElem? (i := 261) (by decide +kernel)) rfl
theorem wq_262 : (Jvm.Cond.fieldLink "Sourcewright$Tour" (44 : Nat) "Sourcewright$Tour" "code" "LSourcewright$Code;") ∈ lw_good := pz_in (List.mem_of_getElem? (i := 262) (by decide +kernel)) rfl
theorem wq_263 : (Jvm.Cond.fieldLink "Sourcewright$Tour" (48 : Nat) "Sourcewright$Tour" "blocks" "LSourcewright$Blocks;") ∈ lw_good := pz_in (List.mem_of_getElem? (i := 263) (by decide +kernel)) rfl
theorem wq_264 : (Jvm.Cond.fieldLink "Sourcewright$Tour" (52 : Nat) "Sourcewright$Tour" "ways" "LSourcewright$Ways;") ∈ lw_good := pz_in (List.mem_of_getElem? (i := 264) (by decide +kernel)) rfl
theorem wq_265 : (Jvm.Cond.fieldLink "Sourcewright$Tour" (56 : Nat) "Sourcewright$Tour" "isNextFirst" "Z") ∈ lw_good := pz_in (List.mem_of_getElem? (i := 265) (by decide +kernel)) rfl
theorem wq_266 : (Jvm.Cond.fieldLink "Sourcewright$Tour" (9 : Nat) "Sourcewright$Tour" "stack" "[I") ∈ lw_good := pz_in (List.mem_of_getElem? (i := 266) (by decide +kernel)) rfl
theorem wq_267 : (Jvm.Cond.fieldLink "Sourcewright$Tour" (15 : Nat) "Sourcewright$Tour" "stage" "[I") ∈ lw_good := pz_in (List.mem_of_getElem? (i := 267) (by decide +kernel)) rfl
theorem wq_268 : (Jvm.Cond.fieldLink "Sourcewright$Tour" (18 : Nat) "Sourcewright$Tour" "meeting" "[I") ∈ lw_good := pz_in (List.mem_of_getElem? (i := 268) (by decide +kernel)) rfl
theorem wq_269 : (Jvm.Cond.fieldLink "Sourcewright$Tour" (21 : Nat) "Sourcewright$Tour" "times" "[I") ∈ lw_good := pz_in (List.mem_of_getElem? (i := 269) (by decide +kernel)) rfl
theorem wq_270 : (Jvm.Cond.fieldLink "Sourcewright$Tour" (24 : Nat) "Sourcewright$Tour" "top" "I") ∈ lw_good := pz_in (List.mem_of_getElem? (i := 270) (by decide +kernel)) rfl
theorem wq_271 : (Jvm.Cond.fieldLink "Sourcewright$Tour" (28 : Nat) "Sourcewright$Tour" "opening" "I") ∈ lw_good := pz_in (List.mem_of_getElem? (i := 271) (by decide +kernel)) rfl
theorem wq_272 : (Jvm.Cond.fieldLink "Sourcewright$Tour" (31 : Nat) "Sourcewright$Tour" "block" "I") ∈ lw_good := pz_in (List.mem_of_getElem? (i := 272) (by decide +kernel)) rfl
theorem wq_273 : (Jvm.Cond.fieldLink "Sourcewright$Tour" (34 : Nat) "Sourcewright$Tour" "index" "I") ∈ lw_good := pz_in (List.mem_of_getElem? (i := 273) (by decide +kernel)) rfl
theorem wq_274 : (Jvm.Cond.fieldLink "Sourcewright$Tour" (37 : Nat) "Sourcewright$Tour" "to" "I") ∈ lw_good := pz_in (List.mem_of_getElem? (i := 274) (by decide +kernel)) rfl
theorem wq_275 : (Jvm.Cond.fieldLink "Sourcewright$Tour" (40 : Nat) "Sourcewright$Tour" "sign" "C") ∈ lw_good := pz_in (List.mem_of_getElem? (i := 275) (by decide +kernel)) rfl
theorem wq_276 : (Jvm.Cond.laysFinal "Sourcewright$Tour" "Sourcewright$Tour" "code" "LSourcewright$Code;") ∈ lw_good := pz_in (List.mem_of_getElem? (i := 276) (by decide +kernel)) rfl
theorem wq_278 : (Jvm.Cond.laysFinal "Sourcewright$Tour" "Sourcewright$Tour" "blocks" "LSourcewright$Blocks;") ∈ lw_good := pz_in (List.mem_of_getElem? (i := 278) (by decide +kernel)) rfl
theorem wq_280 : (Jvm.Cond.laysFinal "Sourcewright$Tour" "Sourcewright$Tour" "ways" "LSourcewright$Ways;") ∈ lw_good := pz_in (List.mem_of_getElem? (i := 280) (by decide +kernel)) rfl
theorem wq_282 : (Jvm.Cond.laysFinal "Sourcewright$Tour" "Sourcewright$Tour" "isNextFirst" "Z") ∈ lw_good := pz_in (List.mem_of_getElem? (i := 282) (by decide +kernel)) rfl
theorem wq_284 : (Jvm.Cond.laysFinal "Sourcewright$Tour" "Sourcewright$Tour" "stack" "[I") ∈ lw_good := pz_in (List.mem_of_getElem? (i := 284) (by decide +kernel)) rfl
theorem wq_286 : (Jvm.Cond.laysFinal "Sourcewright$Tour" "Sourcewright$Tour" "stage" "[I") ∈ lw_good := pz_in (List.mem_of_getElem? (i := 286) (by decide +kernel)) rfl
theorem wq_288 : (Jvm.Cond.laysFinal "Sourcewright$Tour" "Sourcewright$Tour" "meeting" "[I") ∈ lw_good := pz_in (List.mem_of_getElem? (i := 288) (by decide +kernel)) rfl
theorem wq_290 : (Jvm.Cond.laysFinal "Sourcewright$Tour" "Sourcewright$Tour" "times" "[I") ∈ lw_good := pz_in (List.mem_of_getElem? (i := 290) (by decide +kernel)) rfl
theorem wq_292 : (Jvm.Cond.lays "Sourcewright$Tour" "Sourcewright$Tour" "top" "I") ∈ lw_good := pz_in (List.mem_of_getElem? (i := 292) (by decide +kernel)) rfl
theorem wq_294 : (Jvm.Cond.lays "Sourcewright$Tour" "Sourcewright$Tour" "opening" "I") ∈ lw_good := pz_in (List.mem_of_getElem? (i := 294) (by decide +kernel)) rfl
theorem wq_296 : (Jvm.Cond.lays "Sourcewright$Tour" "Sourcewright$Tour" "block" "I") ∈ lw_good := pz_in (List.mem_of_getElem? (i := 296) (by decide +kernel)) rfl
theorem wq_298 : (Jvm.Cond.lays "Sourcewright$Tour" "Sourcewright$Tour" "index" "I") ∈ lw_good := pz_in (List.mem_of_getElem? (i := 298) (by decide +kernel)) rfl
theorem wq_300 : (Jvm.Cond.lays "Sourcewright$Tour" "Sourcewright$Tour" "to" "I") ∈ lw_good := pz_in (List.mem_of_getElem? (i := 300) (by decide +kernel)) rfl
theorem wq_302 : (Jvm.Cond.lays "Sourcewright$Tour" "Sourcewright$Tour" "sign" "C") ∈ lw_good := pz_in (List.mem_of_getElem? (i := 302) (by decide +kernel)) rfl
theorem wq_305 : (Jvm.Cond.arrayClass Jvm.ClassFile.FieldType.char) ∈ lw_good := pz_in (List.mem_of_getElem? (i := 305) (by decide +kernel)) rfl
theorem wq_306 : (Jvm.Cond.fieldLink "Sourcewright$Scribe" (23 : Nat) "Sourcewright$Scribe" "code" "LSourcewright$Code;") ∈ lw_good := pz_in (List.mem_of_getElem? (i := 306) (by decide +kernel)) rfl
theorem wq_307 : (Jvm.Cond.fieldLink "Sourcewright$Scribe" (27 : Nat) "Sourcewright$Scribe" "blocks" "LSourcewright$Blocks;") ∈ lw_good := pz_in (List.mem_of_getElem? (i := 307) (by decide +kernel)) rfl
theorem wq_308 : (Jvm.Cond.fieldLink "Sourcewright$Scribe" (31 : Nat) "Sourcewright$Scribe" "ways" "LSourcewright$Ways;") ∈ lw_good := pz_in (List.mem_of_getElem? (i := 308) (by decide +kernel)) rfl
theorem wq_309 : (Jvm.Cond.fieldLink "Sourcewright$Scribe" (35 : Nat) "Sourcewright$Scribe" "life" "LSourcewright$Life;") ∈ lw_good := pz_in (List.mem_of_getElem? (i := 309) (by decide +kernel)) rfl
theorem wq_310 : (Jvm.Cond.fieldLink "Sourcewright$Scribe" (44 : Nat) "Sourcewright$Scribe" "tour" "LSourcewright$Tour;") ∈ lw_good := pz_in (List.mem_of_getElem? (i := 310) (by decide +kernel)) rfl
theorem wq_311 : (Jvm.Cond.fieldLink "Sourcewright$Scribe" (9 : Nat) "Sourcewright$Scribe" "text" "[C") ∈ lw_good := pz_in (List.mem_of_getElem? (i := 311) (by decide +kernel)) rfl
theorem wq_312 : (Jvm.Cond.fieldLink "Sourcewright$Scribe" (15 : Nat) "Sourcewright$Scribe" "count" "I") ∈ lw_good := pz_in (List.mem_of_getElem? (i := 312) (by decide +kernel)) rfl
theorem wq_313 : (Jvm.Cond.fieldLink "Sourcewright$Scribe" (19 : Nat) "Sourcewright$Scribe" "isTidied" "Z") ∈ lw_good := pz_in (List.mem_of_getElem? (i := 313) (by decide +kernel)) rfl
theorem wq_314 : (Jvm.Cond.laysFinal "Sourcewright$Scribe" "Sourcewright$Scribe" "code" "LSourcewright$Code;") ∈ lw_good := pz_in (List.mem_of_getElem? (i := 314) (by decide +kernel)) rfl
theorem wq_316 : (Jvm.Cond.laysFinal "Sourcewright$Scribe" "Sourcewright$Scribe" "blocks" "LSourcewright$Blocks;") ∈ lw_good := pz_in (List.mem_of_getElem? (i := 316) (by decide +kernel)) rfl
theorem wq_318 : (Jvm.Cond.laysFinal "Sourcewright$Scribe" "Sourcewright$Scribe" "ways" "LSourcewright$Ways;") ∈ lw_good := pz_in (List.mem_of_getElem? (i := 318) (by decide +kernel)) rfl
theorem wq_320 : (Jvm.Cond.laysFinal "Sourcewright$Scribe" "Sourcewright$Scribe" "life" "LSourcewright$Life;") ∈ lw_good := pz_in (List.mem_of_getElem? (i := 320) (by decide +kernel)) rfl
theorem wq_322 : (Jvm.Cond.laysFinal "Sourcewright$Scribe" "Sourcewright$Scribe" "tour" "LSourcewright$Tour;") ∈ lw_good := pz_in (List.mem_of_getElem? (i := 322) (by decide +kernel)) rfl
theorem wq_324 : (Jvm.Cond.lays "Sourcewright$Scribe" "Sourcewright$Scribe" "text" "[C") ∈ lw_good := pz_in (List.mem_of_getElem? (i := 324) (by decide +kernel)) rfl
theorem wq_326 : (Jvm.Cond.lays "Sourcewright$Scribe" "Sourcewright$Scribe" "count" "I") ∈ lw_good := pz_in (List.mem_of_getElem? (i := 326) (by decide +kernel)) rfl
theorem wq_328 : (Jvm.Cond.lays "Sourcewright$Scribe" "Sourcewright$Scribe" "isTidied" "Z") ∈ lw_good := pz_in (List.mem_of_getElem? (i := 328) (by decide +kernel)) rfl
theorem wq_331 : (Jvm.Cond.classLink "Sourcewright" (77 : Nat) "Sourcewright$Builder") ∈ lw_good := pz_in (List.mem_of_getElem? (i := 331) (by decide +kernel)) rfl
theorem wq_332 : (Jvm.Cond.instantiable "Sourcewright$Builder" (16 : Nat)) ∈ lw_good := pz_in (List.mem_of_getElem? (i := 332) (by decide +kernel)) rfl
theorem wq_333 : (Jvm.Cond.methodLink "Sourcewright" (79 : Nat) ({ cls := "Sourcewright$Builder", name := "<init>", desc := "(LSourcewright$Code;LSourcewright$Blocks;LSourcewright$Ways;LSourcewright$Life;)V" } : Jvm.MethodName)) ∈ lw_good := pz_in (List.mem_of_getElem? (i := 333) (by decide +kernel)) rfl
theorem wq_334 : (Jvm.Cond.instanceMethod ({ cls := "Sourcewright$Builder", name := "<init>", desc := "(LSourcewright$Code;LSourcewright$Blocks;LSourcewright$Ways;LSourcewright$Life;)V" } : Jvm.MethodName)) ∈ lw_good := pz_in (List.mem_of_getElem? (i := 334) (by decide +kernel)) rfl
theorem wq_335 : (Jvm.Cond.code ({ cls := "Sourcewright$Builder", name := "<init>", desc := "(LSourcewright$Code;LSourcewright$Blocks;LSourcewright$Ways;LSourcewright$Life;)V" } : Jvm.MethodName) prog_3_method_1_code (5 : Nat) (Option.none : Option Jvm.ClassFile.FieldType)) ∈ lw_good := pz_in (List.mem_of_getElem? (i := 335) (by decide +kernel)) rfl
theorem wq_336 : (Jvm.Cond.methodLink "Sourcewright$Builder" (3 : Nat) ({ cls := "java/lang/Object", name := "<init>", desc := "()V" } : Jvm.MethodName)) ∈ lw_good := pz_in (List.mem_of_getElem? (i := 336) (by decide +kernel)) rfl
theorem wq_337 : (Jvm.Cond.classLink "Sourcewright$Builder" (9 : Nat) "Sourcewright$Code") ∈ lw_good := pz_in (List.mem_of_getElem? (i := 337) (by decide +kernel)) rfl
theorem wq_339 : (Jvm.Cond.classLink "Sourcewright$Builder" (65 : Nat) "Sourcewright$Tour") ∈ lw_good := pz_in (List.mem_of_getElem? (i := 339) (by decide +kernel)) rfl
theorem wq_340 : (Jvm.Cond.methodLink "Sourcewright$Builder" (67 : Nat) ({ cls := "Sourcewright$Tour", name := "<init>", desc := "(LSourcewright$Code;LSourcewright$Blocks;LSourcewright$Ways;Z)V" } : Jvm.MethodName)) ∈ lw_good := pz_in (List.mem_of_getElem? (i := 340) (by decide +kernel)) rfl
theorem wq_341 : (Jvm.Cond.fieldLink "Sourcewright$Builder" (54 : Nat) "Sourcewright$Builder" "code" "LSourcewright$Code;") ∈ lw_good := pz_in (List.mem_of_getElem? (i := 341) (by decide +kernel)) rfl
theorem wq_342 : (Jvm.Cond.fieldLink "Sourcewright$Builder" (57 : Nat) "Sourcewright$Builder" "blocks" "LSourcewright$Blocks;") ∈ lw_good := pz_in (List.mem_of_getElem? (i := 342) (by decide +kernel)) rfl
theorem wq_343 : (Jvm.Cond.fieldLink "Sourcewright$Builder" (61 : Nat) "Sourcewright$Builder" "life" "LSourcewright$Life;") ∈ lw_good := pz_in (List.mem_of_getElem? (i := 343) (by decide +kernel)) rfl
theorem wq_344 : (Jvm.Cond.fieldLink "Sourcewright$Builder" (70 : Nat) "Sourcewright$Builder" "tour" "LSourcewright$Tour;") ∈ lw_good := pz_in (List.mem_of_getElem? (i := 344) (by decide +kernel)) rfl
theorem wq_345 : (Jvm.Cond.fieldLink "Sourcewright$Builder" (12 : Nat) "Sourcewright$Builder" "result" "LSourcewright$Code;") ∈ lw_good := pz_in (List.mem_of_getElem? (i := 345) (by decide +kernel)) rfl
theorem wq_346 : (Jvm.Cond.fieldLink "Sourcewright$Builder" (18 : Nat) "Sourcewright$Builder" "blockPlace" "[I") ∈ lw_good := pz_in (List.mem_of_getElem? (i := 346) (by decide +kernel)) rfl
theorem wq_347 : (Jvm.Cond.fieldLink "Sourcewright$Builder" (22 : Nat) "Sourcewright$Builder" "slot" "[I") ∈ lw_good := pz_in (List.mem_of_getElem? (i := 347) (by decide +kernel)) rfl
theorem wq_348 : (Jvm.Cond.fieldLink "Sourcewright$Builder" (25 : Nat) "Sourcewright$Builder" "farAt" "[I") ∈ lw_good := pz_in (List.mem_of_getElem? (i := 348) (by decide +kernel)) rfl
theorem wq_349 : (Jvm.Cond.fieldLink "Sourcewright$Builder" (28 : Nat) "Sourcewright$Builder" "farTo" "[I") ∈ lw_good := pz_in (List.mem_of_getElem? (i := 349) (by decide +kernel)) rfl
theorem wq_350 : (Jvm.Cond.fieldLink "Sourcewright$Builder" (31 : Nat) "Sourcewright$Builder" "callAt" "[I") ∈ lw_good := pz_in (List.mem_of_getElem? (i := 350) (by decide +kernel)) rfl
theorem wq_351 : (Jvm.Cond.fieldLink "Sourcewright$Builder" (34 : Nat) "Sourcewright$Builder" "callTo" "[I") ∈ lw_good := pz_in (List.mem_of_getElem? (i := 351) (by decide +kernel)) rfl
theorem wq_352 : (Jvm.Cond.fieldLink "Sourcewright$Builder" (37 : Nat) "Sourcewright$Builder" "functionPlace" "[I") ∈ lw_good := pz_in (List.mem_of_getElem? (i := 352) (by decide +kernel)) rfl
theorem wq_353 : (Jvm.Cond.fieldLink "Sourcewright$Builder" (40 : Nat) "Sourcewright$Builder" "farCount" "I") ∈ lw_good := pz_in (List.mem_of_getElem? (i := 353) (by decide +kernel)) rfl
theorem wq_354 : (Jvm.Cond.fieldLink "Sourcewright$Builder" (44 : Nat) "Sourcewright$Builder" "callCount" "I") ∈ lw_good := pz_in (List.mem_of_getElem? (i := 354) (by decide +kernel)) rfl
theorem wq_355 : (Jvm.Cond.fieldLink "Sourcewright$Builder" (47 : Nat) "Sourcewright$Builder" "length" "I") ∈ lw_good := pz_in (List.mem_of_getElem? (i := 355) (by decide +kernel)) rfl
theorem wq_356 : (Jvm.Cond.fieldLink "Sourcewright$Builder" (50 : Nat) "Sourcewright$Builder" "isTidied" "Z") ∈ lw_good := pz_in (List.mem_of_getElem? (i := 356) (by decide +kernel)) rfl
theorem wq_357 : (Jvm.Cond.laysFinal "Sourcewright$Builder" "Sourcewright$Builder" "code" "LSourcewright$Code;") ∈ lw_good := pz_in (List.mem_of_getElem? (i := 357) (by decide +kernel)) rfl
theorem wq_359 : (Jvm.Cond.laysFinal "Sourcewright$Builder" "Sourcewright$Builder" "blocks" "LSourcewright$Blocks;") ∈ lw_good := pz_in (List.mem_of_getElem? (i := 359) (by decide +kernel)) rfl
theorem wq_361 : (Jvm.Cond.laysFinal "Sourcewright$Builder" "Sourcewright$Builder" "life" "LSourcewright$Life;") ∈ lw_good := pz_in (List.mem_of_getElem? (i := 361) (by decide +kernel)) rfl
theorem wq_363 : (Jvm.Cond.laysFinal "Sourcewright$Builder" "Sourcewright$Builder" "tour" "LSourcewright$Tour;") ∈ lw_good := pz_in (List.mem_of_getElem? (i := 363) (by decide +kernel)) rfl
theorem wq_365 : (Jvm.Cond.laysFinal "Sourcewright$Builder" "Sourcewright$Builder" "result" "LSourcewright$Code;") ∈ lw_good := pz_in (List.mem_of_getElem? (i := 365) (by decide +kernel)) rfl
theorem wq_367 : (Jvm.Cond.laysFinal "Sourcewright$Builder" "Sourcewright$Builder" "blockPlace" "[I") ∈ lw_good := pz_in (List.mem_of_getElem? (i := 367) (by decide +kernel)) rfl
theorem wq_369 : (Jvm.Cond.laysFinal "Sourcewright$Builder" "Sourcewright$Builder" "slot" "[I") ∈ lw_good := pz_in (List.mem_of_getElem? (i := 369) (by decide +kernel)) rfl
theorem wq_371 : (Jvm.Cond.laysFinal "Sourcewright$Builder" "Sourcewright$Builder" "farAt" "[I") ∈ lw_good := pz_in (List.mem_of_getElem? (i := 371) (by decide +kernel)) rfl
theorem wq_373 : (Jvm.Cond.laysFinal "Sourcewright$Builder" "Sourcewright$Builder" "farTo" "[I") ∈ lw_good := pz_in (List.mem_of_getElem? (i := 373) (by decide +kernel)) rfl
theorem wq_375 : (Jvm.Cond.laysFinal "Sourcewright$Builder" "Sourcewright$Builder" "callAt" "[I") ∈ lw_good := pz_in (List.mem_of_getElem? (i := 375) (by decide +kernel)) rfl
theorem wq_377 : (Jvm.Cond.laysFinal "Sourcewright$Builder" "Sourcewright$Builder" "callTo" "[I") ∈ lw_good := pz_in (List.mem_of_getElem? (i := 377) (by decide +kernel)) rfl
theorem wq_379 : (Jvm.Cond.laysFinal "Sourcewright$Builder" "Sourcewright$Builder" "functionPlace" "[I") ∈ lw_good := pz_in (List.mem_of_getElem? (i := 379) (by decide +kernel)) rfl
theorem wq_381 : (Jvm.Cond.lays "Sourcewright$Builder" "Sourcewright$Builder" "farCount" "I") ∈ lw_good := pz_in (List.mem_of_getElem? (i := 381) (by decide +kernel)) rfl
theorem wq_383 : (Jvm.Cond.lays "Sourcewright$Builder" "Sourcewright$Builder" "callCount" "I") ∈ lw_good := pz_in (List.mem_of_getElem? (i := 383) (by decide +kernel)) rfl
theorem wq_385 : (Jvm.Cond.lays "Sourcewright$Builder" "Sourcewright$Builder" "length" "I") ∈ lw_good := pz_in (List.mem_of_getElem? (i := 385) (by decide +kernel)) rfl
theorem wq_387 : (Jvm.Cond.lays "Sourcewright$Builder" "Sourcewright$Builder" "isTidied" "Z") ∈ lw_good := pz_in (List.mem_of_getElem? (i := 387) (by decide +kernel)) rfl
theorem wq_390 : (Jvm.Cond.classLink "Sourcewright" (84 : Nat) "Sourcewright$Shelf") ∈ lw_good := pz_in (List.mem_of_getElem? (i := 390) (by decide +kernel)) rfl
theorem wq_391 : (Jvm.Cond.instantiable "Sourcewright$Shelf" (3 : Nat)) ∈ lw_good := pz_in (List.mem_of_getElem? (i := 391) (by decide +kernel)) rfl
theorem wq_393 : (Jvm.Cond.instanceMethod ({ cls := "Sourcewright$Shelf", name := "<init>", desc := "()V" } : Jvm.MethodName)) ∈ lw_good := pz_in (List.mem_of_getElem? (i := 393) (by decide +kernel)) rfl
theorem wq_394 : (Jvm.Cond.code ({ cls := "Sourcewright$Shelf", name := "<init>", desc := "()V" } : Jvm.MethodName) prog_10_method_1_code (1 : Nat) (Option.none : Option Jvm.ClassFile.FieldType)) ∈ lw_good := pz_in (List.mem_of_getElem? (i := 394) (by decide +kernel)) rfl
theorem wq_395 : (Jvm.Cond.methodLink "Sourcewright$Shelf" (3 : Nat) ({ cls := "java/lang/Object", name := "<init>", desc := "()V" } : Jvm.MethodName)) ∈ lw_good := pz_in (List.mem_of_getElem? (i := 395) (by decide +kernel)) rfl
theorem wq_396 : (Jvm.Cond.fieldLink "Sourcewright$Shelf" (9 : Nat) "Sourcewright$Shelf" "row" "[C") ∈ lw_good := pz_in (List.mem_of_getElem? (i := 396) (by decide +kernel)) rfl
theorem wq_397 : (Jvm.Cond.fieldLink "Sourcewright$Shelf" (15 : Nat) "Sourcewright$Shelf" "starts" "[I") ∈ lw_good := pz_in (List.mem_of_getElem? (i := 397) (by decide +kernel)) rfl
theorem wq_398 : (Jvm.Cond.fieldLink "Sourcewright$Shelf" (19 : Nat) "Sourcewright$Shelf" "count" "I") ∈ lw_good := pz_in (List.mem_of_getElem? (i := 398) (by decide +kernel)) rfl
theorem wq_399 : (Jvm.Cond.lays "Sourcewright$Shelf" "Sourcewright$Shelf" "row" "[C") ∈ lw_good := pz_in (List.mem_of_getElem? (i := 399) (by decide +kernel)) rfl
theorem wq_401 : (Jvm.Cond.laysFinal "Sourcewright$Shelf" "Sourcewright$Shelf" "starts" "[I") ∈ lw_good := pz_in (List.mem_of_getElem? (i := 401) (by decide +kernel)) rfl
theorem wq_403 : (Jvm.Cond.lays "Sourcewright$Shelf" "Sourcewright$Shelf" "count" "I") ∈ lw_good := pz_in (List.mem_of_getElem? (i := 403) (by decide +kernel)) rfl
theorem wq_406 : (Jvm.Cond.classLink "Sourcewright" (91 : Nat) "Sourcewright$Machine") ∈ lw_good := pz_in (List.mem_of_getElem? (i := 406) (by decide +kernel)) rfl
theorem wq_407 : (Jvm.Cond.instantiable "Sourcewright$Machine" (10 : Nat)) ∈ lw_good := pz_in (List.mem_of_getElem? (i := 407) (by decide +kernel)) rfl
theorem wq_409 : (Jvm.Cond.instanceMethod ({ cls := "Sourcewright$Machine", name := "<init>", desc := "()V" } : Jvm.MethodName)) ∈ lw_good := pz_in (List.mem_of_getElem? (i := 409) (by decide +kernel)) rfl
theorem wq_410 : (Jvm.Cond.code ({ cls := "Sourcewright$Machine", name := "<init>", desc := "()V" } : Jvm.MethodName) prog_6_method_1_code (1 : Nat) (Option.none : Option Jvm.ClassFile.FieldType)) ∈ lw_good := pz_in (List.mem_of_getElem? (i := 410) (by decide +kernel)) rfl
theorem wq_411 : (Jvm.Cond.methodLink "Sourcewright$Machine" (3 : Nat) ({ cls := "java/lang/Object", name := "<init>", desc := "()V" } : Jvm.MethodName)) ∈ lw_good := pz_in (List.mem_of_getElem? (i := 411) (by decide +kernel)) rfl
theorem wq_412 : (Jvm.Cond.fieldLink "Sourcewright$Machine" (9 : Nat) "Sourcewright$Machine" "registers" "[I") ∈ lw_good := pz_in (List.mem_of_getElem? (i := 412) (by decide +kernel)) rfl
theorem wq_413 : (Jvm.Cond.fieldLink "Sourcewright$Machine" (15 : Nat) "Sourcewright$Machine" "cells" "[I") ∈ lw_good := pz_in (List.mem_of_getElem? (i := 413) (by decide +kernel)) rfl
theorem wq_414 : (Jvm.Cond.fieldLink "Sourcewright$Machine" (18 : Nat) "Sourcewright$Machine" "kept" "[I") ∈ lw_good := pz_in (List.mem_of_getElem? (i := 414) (by decide +kernel)) rfl
theorem wq_415 : (Jvm.Cond.fieldLink "Sourcewright$Machine" (21 : Nat) "Sourcewright$Machine" "outs" "[I") ∈ lw_good := pz_in (List.mem_of_getElem? (i := 415) (by decide +kernel)) rfl
theorem wq_416 : (Jvm.Cond.fieldLink "Sourcewright$Machine" (24 : Nat) "Sourcewright$Machine" "keptCount" "I") ∈ lw_good := pz_in (List.mem_of_getElem? (i := 416) (by decide +kernel)) rfl
theorem wq_417 : (Jvm.Cond.fieldLink "Sourcewright$Machine" (28 : Nat) "Sourcewright$Machine" "outCount" "I") ∈ lw_good := pz_in (List.mem_of_getElem? (i := 417) (by decide +kernel)) rfl
theorem wq_418 : (Jvm.Cond.fieldLink "Sourcewright$Machine" (31 : Nat) "Sourcewright$Machine" "stepCount" "I") ∈ lw_good := pz_in (List.mem_of_getElem? (i := 418) (by decide +kernel)) rfl
theorem wq_419 : (Jvm.Cond.fieldLink "Sourcewright$Machine" (34 : Nat) "Sourcewright$Machine" "inCount" "I") ∈ lw_good := pz_in (List.mem_of_getElem? (i := 419) (by decide +kernel)) rfl
theorem wq_420 : (Jvm.Cond.fieldLink "Sourcewright$Machine" (37 : Nat) "Sourcewright$Machine" "flag" "I") ∈ lw_good := pz_in (List.mem_of_getElem? (i := 420) (by decide +kernel)) rfl
theorem wq_421 : (Jvm.Cond.fieldLink "Sourcewright$Machine" (40 : Nat) "Sourcewright$Machine" "place" "I") ∈ lw_good := pz_in (List.mem_of_getElem? (i := 421) (by decide +kernel)) rfl
theorem wq_422 : (Jvm.Cond.laysFinal "Sourcewright$Machine" "Sourcewright$Machine" "registers" "[I") ∈ lw_good := pz_in (List.mem_of_getElem? (i := 422) (by decide +kernel)) rfl
theorem wq_424 : (Jvm.Cond.laysFinal "Sourcewright$Machine" "Sourcewright$Machine" "cells" "[I") ∈ lw_good := pz_in (List.mem_of_getElem? (i := 424) (by decide +kernel)) rfl
theorem wq_426 : (Jvm.Cond.laysFinal "Sourcewright$Machine" "Sourcewright$Machine" "kept" "[I") ∈ lw_good := pz_in (List.mem_of_getElem? (i := 426) (by decide +kernel)) rfl
theorem wq_428 : (Jvm.Cond.laysFinal "Sourcewright$Machine" "Sourcewright$Machine" "outs" "[I") ∈ lw_good := pz_in (List.mem_of_getElem? (i := 428) (by decide +kernel)) rfl
theorem wq_430 : (Jvm.Cond.lays "Sourcewright$Machine" "Sourcewright$Machine" "keptCount" "I") ∈ lw_good := pz_in (List.mem_of_getElem? (i := 430) (by decide +kernel)) rfl
theorem wq_432 : (Jvm.Cond.lays "Sourcewright$Machine" "Sourcewright$Machine" "outCount" "I") ∈ lw_good := pz_in (List.mem_of_getElem? (i := 432) (by decide +kernel)) rfl
theorem wq_434 : (Jvm.Cond.lays "Sourcewright$Machine" "Sourcewright$Machine" "stepCount" "I") ∈ lw_good := pz_in (List.mem_of_getElem? (i := 434) (by decide +kernel)) rfl
theorem wq_436 : (Jvm.Cond.lays "Sourcewright$Machine" "Sourcewright$Machine" "inCount" "I") ∈ lw_good := pz_in (List.mem_of_getElem? (i := 436) (by decide +kernel)) rfl
theorem wq_438 : (Jvm.Cond.lays "Sourcewright$Machine" "Sourcewright$Machine" "flag" "I") ∈ lw_good := pz_in (List.mem_of_getElem? (i := 438) (by decide +kernel)) rfl
theorem wq_440 : (Jvm.Cond.lays "Sourcewright$Machine" "Sourcewright$Machine" "place" "I") ∈ lw_good := pz_in (List.mem_of_getElem? (i := 440) (by decide +kernel)) rfl
theorem wq_443 : (Jvm.Cond.fieldLink "Sourcewright" (10 : Nat) "Sourcewright" "code" "LSourcewright$Code;") ∈ lw_good := pz_in (List.mem_of_getElem? (i := 443) (by decide +kernel)) rfl
theorem wq_444 : (Jvm.Cond.fieldLink "Sourcewright" (16 : Nat) "Sourcewright" "told" "[I") ∈ lw_good := pz_in (List.mem_of_getElem? (i := 444) (by decide +kernel)) rfl
theorem wq_445 : (Jvm.Cond.fieldLink "Sourcewright" (20 : Nat) "Sourcewright" "toldCount" "I") ∈ lw_good := pz_in (List.mem_of_getElem? (i := 445) (by decide +kernel)) rfl
theorem wq_446 : (Jvm.Cond.fieldLink "Sourcewright" (24 : Nat) "Sourcewright" "inputs" "[I") ∈ lw_good := pz_in (List.mem_of_getElem? (i := 446) (by decide +kernel)) rfl
theorem wq_447 : (Jvm.Cond.fieldLink "Sourcewright" (27 : Nat) "Sourcewright" "inputCount" "I") ∈ lw_good := pz_in (List.mem_of_getElem? (i := 447) (by decide +kernel)) rfl
theorem wq_448 : (Jvm.Cond.fieldLink "Sourcewright" (30 : Nat) "Sourcewright" "isTidy" "Z") ∈ lw_good := pz_in (List.mem_of_getElem? (i := 448) (by decide +kernel)) rfl
theorem wq_449 : (Jvm.Cond.fieldLink "Sourcewright" (39 : Nat) "Sourcewright" "reading" "LSourcewright$Reading;") ∈ lw_good := pz_in (List.mem_of_getElem? (i := 449) (by decide +kernel)) rfl
theorem wq_450 : (Jvm.Cond.fieldLink "Sourcewright" (48 : Nat) "Sourcewright" "division" "LSourcewright$Blocks;") ∈ lw_good := pz_in (List.mem_of_getElem? (i := 450) (by decide +kernel)) rfl
theorem wq_451 : (Jvm.Cond.fieldLink "Sourcewright" (57 : Nat) "Sourcewright" "ways" "LSourcewright$Ways;") ∈ lw_good := pz_in (List.mem_of_getElem? (i := 451) (by decide +kernel)) rfl
theorem wq_452 : (Jvm.Cond.fieldLink "Sourcewright" (64 : Nat) "Sourcewright" "life" "LSourcewright$Life;") ∈ lw_good := pz_in (List.mem_of_getElem? (i := 452) (by decide +kernel)) rfl
theorem wq_453 : (Jvm.Cond.fieldLink "Sourcewright" (73 : Nat) "Sourcewright" "scribe" "LSourcewright$Scribe;") ∈ lw_good := pz_in (List.mem_of_getElem? (i := 453) (by decide +kernel)) rfl
theorem wq_454 : (Jvm.Cond.fieldLink "Sourcewright" (80 : Nat) "Sourcewright" "builder" "LSourcewright$Builder;") ∈ lw_good := pz_in (List.mem_of_getElem? (i := 454) (by decide +kernel)) rfl
theorem wq_455 : (Jvm.Cond.fieldLink "Sourcewright" (87 : Nat) "Sourcewright" "shelf" "LSourcewright$Shelf;") ∈ lw_good := pz_in (List.mem_of_getElem? (i := 455) (by decide +kernel)) rfl
theorem wq_456 : (Jvm.Cond.fieldLink "Sourcewright" (94 : Nat) "Sourcewright" "last" "LSourcewright$Machine;") ∈ lw_good := pz_in (List.mem_of_getElem? (i := 456) (by decide +kernel)) rfl
theorem wq_457 : (Jvm.Cond.fieldLink "Sourcewright" (98 : Nat) "Sourcewright" "forth" "LSourcewright$Machine;") ∈ lw_good := pz_in (List.mem_of_getElem? (i := 457) (by decide +kernel)) rfl
theorem wq_458 : (Jvm.Cond.fieldLink "Sourcewright" (101 : Nat) "Sourcewright" "back" "LSourcewright$Machine;") ∈ lw_good := pz_in (List.mem_of_getElem? (i := 458) (by decide +kernel)) rfl
theorem wq_459 : (Jvm.Cond.fieldLink "Sourcewright" (104 : Nat) "Sourcewright" "isRead" "Z") ∈ lw_good := pz_in (List.mem_of_getElem? (i := 459) (by decide +kernel)) rfl
theorem wq_460 : (Jvm.Cond.fieldLink "Sourcewright" (107 : Nat) "Sourcewright" "studied" "I") ∈ lw_good := pz_in (List.mem_of_getElem? (i := 460) (by decide +kernel)) rfl
theorem wq_461 : (Jvm.Cond.fieldLink "Sourcewright" (110 : Nat) "Sourcewright" "drawn" "I") ∈ lw_good := pz_in (List.mem_of_getElem? (i := 461) (by decide +kernel)) rfl
theorem wq_462 : (Jvm.Cond.fieldLink "Sourcewright" (113 : Nat) "Sourcewright" "isBuilt" "Z") ∈ lw_good := pz_in (List.mem_of_getElem? (i := 462) (by decide +kernel)) rfl
theorem wq_463 : (Jvm.Cond.laysFinal "Sourcewright" "Sourcewright" "code" "LSourcewright$Code;") ∈ lw_good := pz_in (List.mem_of_getElem? (i := 463) (by decide +kernel)) rfl
theorem wq_465 : (Jvm.Cond.laysFinal "Sourcewright" "Sourcewright" "told" "[I") ∈ lw_good := pz_in (List.mem_of_getElem? (i := 465) (by decide +kernel)) rfl
theorem wq_467 : (Jvm.Cond.lays "Sourcewright" "Sourcewright" "toldCount" "I") ∈ lw_good := pz_in (List.mem_of_getElem? (i := 467) (by decide +kernel)) rfl
theorem wq_469 : (Jvm.Cond.laysFinal "Sourcewright" "Sourcewright" "inputs" "[I") ∈ lw_good := pz_in (List.mem_of_getElem? (i := 469) (by decide +kernel)) rfl
theorem wq_471 : (Jvm.Cond.lays "Sourcewright" "Sourcewright" "inputCount" "I") ∈ lw_good := pz_in (List.mem_of_getElem? (i := 471) (by decide +kernel)) rfl
theorem wq_473 : (Jvm.Cond.lays "Sourcewright" "Sourcewright" "isTidy" "Z") ∈ lw_good := pz_in (List.mem_of_getElem? (i := 473) (by decide +kernel)) rfl
theorem wq_475 : (Jvm.Cond.laysFinal "Sourcewright" "Sourcewright" "reading" "LSourcewright$Reading;") ∈ lw_good := pz_in (List.mem_of_getElem? (i := 475) (by decide +kernel)) rfl
theorem wq_477 : (Jvm.Cond.laysFinal "Sourcewright" "Sourcewright" "division" "LSourcewright$Blocks;") ∈ lw_good := pz_in (List.mem_of_getElem? (i := 477) (by decide +kernel)) rfl
theorem wq_479 : (Jvm.Cond.laysFinal "Sourcewright" "Sourcewright" "ways" "LSourcewright$Ways;") ∈ lw_good := pz_in (List.mem_of_getElem? (i := 479) (by decide +kernel)) rfl
theorem wq_481 : (Jvm.Cond.laysFinal "Sourcewright" "Sourcewright" "life" "LSourcewright$Life;") ∈ lw_good := pz_in (List.mem_of_getElem? (i := 481) (by decide +kernel)) rfl
theorem wq_483 : (Jvm.Cond.laysFinal "Sourcewright" "Sourcewright" "scribe" "LSourcewright$Scribe;") ∈ lw_good := pz_in (List.mem_of_getElem? (i := 483) (by decide +kernel)) rfl
theorem wq_485 : (Jvm.Cond.laysFinal "Sourcewright" "Sourcewright" "builder" "LSourcewright$Builder;") ∈ lw_good := pz_in (List.mem_of_getElem? (i := 485) (by decide +kernel)) rfl
theorem wq_487 : (Jvm.Cond.laysFinal "Sourcewright" "Sourcewright" "shelf" "LSourcewright$Shelf;") ∈ lw_good := pz_in (List.mem_of_getElem? (i := 487) (by decide +kernel)) rfl
theorem wq_489 : (Jvm.Cond.laysFinal "Sourcewright" "Sourcewright" "last" "LSourcewright$Machine;") ∈ lw_good := pz_in (List.mem_of_getElem? (i := 489) (by decide +kernel)) rfl
theorem wq_491 : (Jvm.Cond.laysFinal "Sourcewright" "Sourcewright" "forth" "LSourcewright$Machine;") ∈ lw_good := pz_in (List.mem_of_getElem? (i := 491) (by decide +kernel)) rfl
theorem wq_493 : (Jvm.Cond.laysFinal "Sourcewright" "Sourcewright" "back" "LSourcewright$Machine;") ∈ lw_good := pz_in (List.mem_of_getElem? (i := 493) (by decide +kernel)) rfl
theorem wq_495 : (Jvm.Cond.lays "Sourcewright" "Sourcewright" "isRead" "Z") ∈ lw_good := pz_in (List.mem_of_getElem? (i := 495) (by decide +kernel)) rfl
theorem wq_497 : (Jvm.Cond.lays "Sourcewright" "Sourcewright" "studied" "I") ∈ lw_good := pz_in (List.mem_of_getElem? (i := 497) (by decide +kernel)) rfl
theorem wq_499 : (Jvm.Cond.lays "Sourcewright" "Sourcewright" "drawn" "I") ∈ lw_good := pz_in (List.mem_of_getElem? (i := 499) (by decide +kernel)) rfl
theorem wq_501 : (Jvm.Cond.lays "Sourcewright" "Sourcewright" "isBuilt" "Z") ∈ lw_good := pz_in (List.mem_of_getElem? (i := 501) (by decide +kernel)) rfl
theorem wq_504 : (Jvm.Cond.methodLink "SourcewrightLaw" (157 : Nat) ({ cls := "Sourcewright", name := "wipe", desc := "()I" } : Jvm.MethodName)) ∈ lw_good := pz_in (List.mem_of_getElem? (i := 504) (by decide +kernel)) rfl
theorem wq_505 : (Jvm.Cond.instanceMethod ({ cls := "Sourcewright", name := "wipe", desc := "()I" } : Jvm.MethodName)) ∈ lw_good := pz_in (List.mem_of_getElem? (i := 505) (by decide +kernel)) rfl
theorem wq_506 : (Jvm.Cond.selects "Sourcewright" ({ cls := "Sourcewright", name := "wipe", desc := "()I" } : Jvm.MethodName) ({ cls := "Sourcewright", name := "wipe", desc := "()I" } : Jvm.MethodName)) ∈ lw_good := pz_in (List.mem_of_getElem? (i := 506) (by decide +kernel)) rfl
theorem wq_507 : (Jvm.Cond.code ({ cls := "Sourcewright", name := "wipe", desc := "()I" } : Jvm.MethodName) prog_1_method_4_code (2 : Nat) (Option.some Jvm.ClassFile.FieldType.int)) ∈ lw_good := pz_in (List.mem_of_getElem? (i := 507) (by decide +kernel)) rfl
theorem wq_508 : (Jvm.Cond.methodLink "Sourcewright" (127 : Nat) ({ cls := "Sourcewright$Code", name := "count", desc := "()I" } : Jvm.MethodName)) ∈ lw_good := pz_in (List.mem_of_getElem? (i := 508) (by decide +kernel)) rfl
theorem wq_509 : (Jvm.Cond.instanceMethod ({ cls := "Sourcewright$Code", name := "count", desc := "()I" } : Jvm.MethodName)) ∈ lw_good := pz_in (List.mem_of_getElem? (i := 509) (by decide +kernel)) rfl
theorem wq_510 : (Jvm.Cond.selects "Sourcewright$Code" ({ cls := "Sourcewright$Code", name := "count", desc := "()I" } : Jvm.MethodName) ({ cls := "Sourcewright$Code", name := "count", desc := "()I" } : Jvm.MethodName)) ∈ lw_good := pz_in (List.mem_of_getElem? (i := 510) (by decide +kernel)) rfl
theorem wq_511 : (Jvm.Cond.code ({ cls := "Sourcewright$Code", name := "count", desc := "()I" } : Jvm.MethodName) prog_4_method_2_code (1 : Nat) (Option.some Jvm.ClassFile.FieldType.int)) ∈ lw_good := pz_in (List.mem_of_getElem? (i := 511) (by decide +kernel)) rfl
theorem wq_512 : (Jvm.Cond.methodLink "Sourcewright" (140 : Nat) ({ cls := "Sourcewright$Code", name := "cut", desc := "(I)V" } : Jvm.MethodName)) ∈ lw_good := pz_in (List.mem_of_getElem? (i := 512) (by decide +kernel)) rfl
theorem wq_513 : (Jvm.Cond.instanceMethod ({ cls := "Sourcewright$Code", name := "cut", desc := "(I)V" } : Jvm.MethodName)) ∈ lw_good := pz_in (List.mem_of_getElem? (i := 513) (by decide +kernel)) rfl
theorem wq_514 : (Jvm.Cond.selects "Sourcewright$Code" ({ cls := "Sourcewright$Code", name := "cut", desc := "(I)V" } : Jvm.MethodName) ({ cls := "Sourcewright$Code", name := "cut", desc := "(I)V" } : Jvm.MethodName)) ∈ lw_good := pz_in (List.mem_of_getElem? (i := 514) (by decide +kernel)) rfl
theorem wq_515 : (Jvm.Cond.code ({ cls := "Sourcewright$Code", name := "cut", desc := "(I)V" } : Jvm.MethodName) prog_4_method_5_code (2 : Nat) (Option.none : Option Jvm.ClassFile.FieldType)) ∈ lw_good := pz_in (List.mem_of_getElem? (i := 515) (by decide +kernel)) rfl
theorem wq_516 : (Jvm.Cond.methodLink "Sourcewright$Code" (22 : Nat) ({ cls := "java/lang/Math", name := "min", desc := "(II)I" } : Jvm.MethodName)) ∈ lw_good := pz_in (List.mem_of_getElem? (i := 516) (by decide +kernel)) rfl
theorem wq_517 : (Jvm.Cond.static ({ cls := "java/lang/Math", name := "min", desc := "(II)I" } : Jvm.MethodName)) ∈ lw_good := pz_in (List.mem_of_getElem? (i := 517) (by decide +kernel)) rfl
theorem wq_518 : (Jvm.Cond.code ({ cls := "java/lang/Math", name := "min", desc := "(II)I" } : Jvm.MethodName) prog_35_method_69_code (2 : Nat) (Option.some Jvm.ClassFile.FieldType.int)) ∈ lw_good := pz_in (List.mem_of_getElem? (i := 518) (by decide +kernel)) rfl
theorem wq_519 : (Jvm.Cond.methodLink "Sourcewright" (144 : Nat) ({ cls := "Sourcewright", name := "forget", desc := "()V" } : Jvm.MethodName)) ∈ lw_good := pz_in (List.mem_of_getElem? (i := 519) (by decide +kernel)) rfl
theorem wq_521 : (Jvm.Cond.instanceMethod ({ cls := "Sourcewright", name := "forget", desc := "()V" } : Jvm.MethodName)) ∈ lw_good := pz_in (List.mem_of_getElem? (i := 521) (by decide +kernel)) rfl
theorem wq_522 : (Jvm.Cond.code ({ cls := "Sourcewright", name := "forget", desc := "()V" } : Jvm.MethodName) prog_1_method_56_code (1 : Nat) (Option.none : Option Jvm.ClassFile.FieldType)) ∈ lw_good := pz_in (List.mem_of_getElem? (i := 522) (by decide +kernel)) rfl
theorem wq_523 : (Jvm.Cond.methodLink "SourcewrightLaw" (173 : Nat) ({ cls := "Sourcewright", name := "doubts", desc := "()I" } : Jvm.MethodName)) ∈ lw_good := pz_in (List.mem_of_getElem? (i := 523) (by decide +kernel)) rfl
theorem wq_524 : (Jvm.Cond.instanceMethod ({ cls := "Sourcewright", name := "doubts", desc := "()I" } : Jvm.MethodName)) ∈ lw_good := pz_in (List.mem_of_getElem? (i := 524) (by decide +kernel)) rfl
theorem wq_525 : (Jvm.Cond.selects "Sourcewright" ({ cls := "Sourcewright", name := "doubts", desc := "()I" } : Jvm.MethodName) ({ cls := "Sourcewright", name := "doubts", desc := "()I" } : Jvm.MethodName)) ∈ lw_good := pz_in (List.mem_of_getElem? (i := 525) (by decide +kernel)) rfl
theorem wq_526 : (Jvm.Cond.code ({ cls := "Sourcewright", name := "doubts", desc := "()I" } : Jvm.MethodName) prog_1_method_9_code (3 : Nat) (Option.some Jvm.ClassFile.FieldType.int)) ∈ lw_good := pz_in (List.mem_of_getElem? (i := 526) (by decide +kernel)) rfl
theorem wq_527 : (Jvm.Cond.methodLink "Sourcewright" (164 : Nat) ({ cls := "Sourcewright", name := "read", desc := "()V" } : Jvm.MethodName)) ∈ lw_good := pz_in (List.mem_of_getElem? (i := 527) (by decide +kernel)) rfl
theorem wq_529 : (Jvm.Cond.instanceMethod ({ cls := "Sourcewright", name := "read", desc := "()V" } : Jvm.MethodName)) ∈ lw_good := pz_in (List.mem_of_getElem? (i := 529) (by decide +kernel)) rfl
theorem wq_530 : (Jvm.Cond.code ({ cls := "Sourcewright", name := "read", desc := "()V" } : Jvm.MethodName) prog_1_method_57_code (1 : Nat) (Option.none : Option Jvm.ClassFile.FieldType)) ∈ lw_good := pz_in (List.mem_of_getElem? (i := 530) (by decide +kernel)) rfl
theorem wq_531 : (Jvm.Cond.methodLink "Sourcewright" (349 : Nat) ({ cls := "Sourcewright$Code", name := "decode", desc := "()V" } : Jvm.MethodName)) ∈ lw_good := pz_in (List.mem_of_getElem? (i := 531) (by decide +kernel)) rfl
theorem wq_532 : (Jvm.Cond.instanceMethod ({ cls := "Sourcewright$Code", name := "decode", desc := "()V" } : Jvm.MethodName)) ∈ lw_good := pz_in (List.mem_of_getElem? (i := 532) (by decide +kernel)) rfl
theorem wq_533 : (Jvm.Cond.selects "Sourcewright$Code" ({ cls := "Sourcewright$Code", name := "decode", desc := "()V" } : Jvm.MethodName) ({ cls := "Sourcewright$Code", name := "decode", desc := "()V" } : Jvm.MethodName)) ∈ lw_good := pz_in (List.mem_of_getElem? (i := 533) (by decide +kernel)) rfl
theorem wq_534 : (Jvm.Cond.code ({ cls := "Sourcewright$Code", name := "decode", desc := "()V" } : Jvm.MethodName) prog_4_method_10_code (2 : Nat) (Option.none : Option Jvm.ClassFile.FieldType)) ∈ lw_good := pz_in (List.mem_of_getElem? (i := 534) (by decide +kernel)) rfl
theorem wq_535 : (Jvm.Cond.methodLink "Sourcewright$Code" (35 : Nat) ({ cls := "Sourcewright$Code", name := "find", desc := "(I)I" } : Jvm.MethodName)) ∈ lw_good := pz_in (List.mem_of_getElem? (i := 535) (by decide +kernel)) rfl
theorem wq_537 : (Jvm.Cond.instanceMethod ({ cls := "Sourcewright$Code", name := "find", desc := "(I)I" } : Jvm.MethodName)) ∈ lw_good := pz_in (List.mem_of_getElem? (i := 537) (by decide +kernel)) rfl
theorem wq_538 : (Jvm.Cond.code ({ cls := "Sourcewright$Code", name := "find", desc := "(I)I" } : Jvm.MethodName) prog_4_method_11_code (3 : Nat) (Option.some Jvm.ClassFile.FieldType.int)) ∈ lw_good := pz_in (List.mem_of_getElem? (i := 538) (by decide +kernel)) rfl
theorem wq_539 : (Jvm.Cond.methodLink "Sourcewright$Code" (31 : Nat) ({ cls := "Sourcewright$Code", name := "at", desc := "(I)I" } : Jvm.MethodName)) ∈ lw_good := pz_in (List.mem_of_getElem? (i := 539) (by decide +kernel)) rfl
theorem wq_540 : (Jvm.Cond.instanceMethod ({ cls := "Sourcewright$Code", name := "at", desc := "(I)I" } : Jvm.MethodName)) ∈ lw_good := pz_in (List.mem_of_getElem? (i := 540) (by decide +kernel)) rfl
theorem wq_541 : (Jvm.Cond.selects "Sourcewright$Code" ({ cls := "Sourcewright$Code", name := "at", desc := "(I)I" } : Jvm.MethodName) ({ cls := "Sourcewright$Code", name := "at", desc := "(I)I" } : Jvm.MethodName)) ∈ lw_good := pz_in (List.mem_of_getElem? (i := 541) (by decide +kernel)) rfl
theorem wq_542 : (Jvm.Cond.code ({ cls := "Sourcewright$Code", name := "at", desc := "(I)I" } : Jvm.MethodName) prog_4_method_3_code (2 : Nat) (Option.some Jvm.ClassFile.FieldType.int)) ∈ lw_good := pz_in (List.mem_of_getElem? (i := 542) (by decide +kernel)) rfl
theorem wq_543 : (Jvm.Cond.methodLink "Sourcewright$Code" (38 : Nat) ({ cls := "Sourcewright$Code", name := "named", desc := "(I)I" } : Jvm.MethodName)) ∈ lw_good := pz_in (List.mem_of_getElem? (i := 543) (by decide +kernel)) rfl
theorem wq_544 : (Jvm.Cond.static ({ cls := "Sourcewright$Code", name := "named", desc := "(I)I" } : Jvm.MethodName)) ∈ lw_good := pz_in (List.mem_of_getElem? (i := 544) (by decide +kernel)) rfl
theorem wq_545 : (Jvm.Cond.code ({ cls := "Sourcewright$Code", name := "named", desc := "(I)I" } : Jvm.MethodName) prog_4_method_13_code (3 : Nat) (Option.some Jvm.ClassFile.FieldType.int)) ∈ lw_good := pz_in (List.mem_of_getElem? (i := 545) (by decide +kernel)) rfl
theorem wq_550 : (Jvm.Cond.methodLink "Sourcewright$Code" (41 : Nat) ({ cls := "Sourcewright$Code", name := "spanOf", desc := "(I)I" } : Jvm.MethodName)) ∈ lw_good := pz_in (List.mem_of_getElem? (i := 550) (by decide +kernel)) rfl
theorem wq_551 : (Jvm.Cond.static ({ cls := "Sourcewright$Code", name := "spanOf", desc := "(I)I" } : Jvm.MethodName)) ∈ lw_good := pz_in (List.mem_of_getElem? (i := 551) (by decide +kernel)) rfl
theorem wq_552 : (Jvm.Cond.code ({ cls := "Sourcewright$Code", name := "spanOf", desc := "(I)I" } : Jvm.MethodName) prog_4_method_14_code (1 : Nat) (Option.some Jvm.ClassFile.FieldType.int)) ∈ lw_good := pz_in (List.mem_of_getElem? (i := 552) (by decide +kernel)) rfl
theorem wq_559 : (Jvm.Cond.methodLink "Sourcewright" (352 : Nat) ({ cls := "Sourcewright$Reading", name := "tell", desc := "([II)V" } : Jvm.MethodName)) ∈ lw_good := pz_in (List.mem_of_getElem? (i := 559) (by decide +kernel)) rfl
theorem wq_560 : (Jvm.Cond.instanceMethod ({ cls := "Sourcewright$Reading", name := "tell", desc := "([II)V" } : Jvm.MethodName)) ∈ lw_good := pz_in (List.mem_of_getElem? (i := 560) (by decide +kernel)) rfl
theorem wq_561 : (Jvm.Cond.selects "Sourcewright$Reading" ({ cls := "Sourcewright$Reading", name := "tell", desc := "([II)V" } : Jvm.MethodName) ({ cls := "Sourcewright$Reading", name := "tell", desc := "([II)V" } : Jvm.MethodName)) ∈ lw_good := pz_in (List.mem_of_getElem? (i := 561) (by decide +kernel)) rfl
theorem wq_562 : (Jvm.Cond.code ({ cls := "Sourcewright$Reading", name := "tell", desc := "([II)V" } : Jvm.MethodName) prog_7_method_11_code (4 : Nat) (Option.none : Option Jvm.ClassFile.FieldType)) ∈ lw_good := pz_in (List.mem_of_getElem? (i := 562) (by decide +kernel)) rfl
theorem wq_563 : (Jvm.Cond.methodLink "Sourcewright$Reading" (77 : Nat) ({ cls := "Sourcewright$Code", name := "count", desc := "()I" } : Jvm.MethodName)) ∈ lw_good := pz_in (List.mem_of_getElem? (i := 563) (by decide +kernel)) rfl
theorem wq_564 : (Jvm.Cond.methodLink "Sourcewright$Reading" (80 : Nat) ({ cls := "java/lang/Math", name := "min", desc := "(II)I" } : Jvm.MethodName)) ∈ lw_good := pz_in (List.mem_of_getElem? (i := 564) (by decide +kernel)) rfl
theorem wq_565 : (Jvm.Cond.methodLink "Sourcewright$Reading" (86 : Nat) ({ cls := "Sourcewright$Reading", name := "findReturns", desc := "()V" } : Jvm.MethodName)) ∈ lw_good := pz_in (List.mem_of_getElem? (i := 565) (by decide +kernel)) rfl
theorem wq_567 : (Jvm.Cond.instanceMethod ({ cls := "Sourcewright$Reading", name := "findReturns", desc := "()V" } : Jvm.MethodName)) ∈ lw_good := pz_in (List.mem_of_getElem? (i := 567) (by decide +kernel)) rfl
theorem wq_568 : (Jvm.Cond.code ({ cls := "Sourcewright$Reading", name := "findReturns", desc := "()V" } : Jvm.MethodName) prog_7_method_13_code (4 : Nat) (Option.none : Option Jvm.ClassFile.FieldType)) ∈ lw_good := pz_in (List.mem_of_getElem? (i := 568) (by decide +kernel)) rfl
theorem wq_574 : (Jvm.Cond.instanceMethod ({ cls := "Sourcewright$Code", name := "op", desc := "(I)I" } : Jvm.MethodName)) ∈ lw_good := pz_in (List.mem_of_getElem? (i := 574) (by decide +kernel)) rfl
theorem wq_575 : (Jvm.Cond.selects "Sourcewright$Code" ({ cls := "Sourcewright$Code", name := "op", desc := "(I)I" } : Jvm.MethodName) ({ cls := "Sourcewright$Code", name := "op", desc := "(I)I" } : Jvm.MethodName)) ∈ lw_good := pz_in (List.mem_of_getElem? (i := 575) (by decide +kernel)) rfl
theorem wq_576 : (Jvm.Cond.code ({ cls := "Sourcewright$Code", name := "op", desc := "(I)I" } : Jvm.MethodName) prog_4_method_6_code (2 : Nat) (Option.some Jvm.ClassFile.FieldType.int)) ∈ lw_good := pz_in (List.mem_of_getElem? (i := 576) (by decide +kernel)) rfl
theorem wq_594 : (Jvm.Cond.methodLink "Sourcewright$Reading" (89 : Nat) ({ cls := "Sourcewright$Reading", name := "findFunctions", desc := "([II)V" } : Jvm.MethodName)) ∈ lw_good := pz_in (List.mem_of_getElem? (i := 594) (by decide +kernel)) rfl
theorem wq_596 : (Jvm.Cond.instanceMethod ({ cls := "Sourcewright$Reading", name := "findFunctions", desc := "([II)V" } : Jvm.MethodName)) ∈ lw_good := pz_in (List.mem_of_getElem? (i := 596) (by decide +kernel)) rfl
theorem wq_597 : (Jvm.Cond.code ({ cls := "Sourcewright$Reading", name := "findFunctions", desc := "([II)V" } : Jvm.MethodName) prog_7_method_15_code (4 : Nat) (Option.none : Option Jvm.ClassFile.FieldType)) ∈ lw_good := pz_in (List.mem_of_getElem? (i := 597) (by decide +kernel)) rfl
theorem wq_598 : (Jvm.Cond.methodLink "Sourcewright$Reading" (93 : Nat) ({ cls := "Sourcewright$Sets", name := "clear", desc := "(I)V" } : Jvm.MethodName)) ∈ lw_good := pz_in (List.mem_of_getElem? (i := 598) (by decide +kernel)) rfl
theorem wq_599 : (Jvm.Cond.instanceMethod ({ cls := "Sourcewright$Sets", name := "clear", desc := "(I)V" } : Jvm.MethodName)) ∈ lw_good := pz_in (List.mem_of_getElem? (i := 599) (by decide +kernel)) rfl
theorem wq_600 : (Jvm.Cond.selects "Sourcewright$Sets" ({ cls := "Sourcewright$Sets", name := "clear", desc := "(I)V" } : Jvm.MethodName) ({ cls := "Sourcewright$Sets", name := "clear", desc := "(I)V" } : Jvm.MethodName)) ∈ lw_good := pz_in (List.mem_of_getElem? (i := 600) (by decide +kernel)) rfl
theorem wq_601 : (Jvm.Cond.code ({ cls := "Sourcewright$Sets", name := "clear", desc := "(I)V" } : Jvm.MethodName) prog_9_method_2_code (2 : Nat) (Option.none : Option Jvm.ClassFile.FieldType)) ∈ lw_good := pz_in (List.mem_of_getElem? (i := 601) (by decide +kernel)) rfl
theorem wq_602 : (Jvm.Cond.methodLink "Sourcewright$Reading" (116 : Nat) ({ cls := "Sourcewright$Reading", name := "noteEntry", desc := "(I)Z" } : Jvm.MethodName)) ∈ lw_good := pz_in (List.mem_of_getElem? (i := 602) (by decide +kernel)) rfl
theorem wq_604 : (Jvm.Cond.instanceMethod ({ cls := "Sourcewright$Reading", name := "noteEntry", desc := "(I)Z" } : Jvm.MethodName)) ∈ lw_good := pz_in (List.mem_of_getElem? (i := 604) (by decide +kernel)) rfl
theorem wq_605 : (Jvm.Cond.code ({ cls := "Sourcewright$Reading", name := "noteEntry", desc := "(I)Z" } : Jvm.MethodName) prog_7_method_16_code (2 : Nat) (Option.some Jvm.ClassFile.FieldType.boolean)) ∈ lw_good := pz_in (List.mem_of_getElem? (i := 605) (by decide +kernel)) rfl
theorem wq_626 : (Jvm.Cond.methodLink "Sourcewright$Reading" (104 : Nat) ({ cls := "Sourcewright$Reading", name := "markBytes", desc := "()V" } : Jvm.MethodName)) ∈ lw_good := pz_in (List.mem_of_getElem? (i := 626) (by decide +kernel)) rfl
theorem wq_628 : (Jvm.Cond.instanceMethod ({ cls := "Sourcewright$Reading", name := "markBytes", desc := "()V" } : Jvm.MethodName)) ∈ lw_good := pz_in (List.mem_of_getElem? (i := 628) (by decide +kernel)) rfl
theorem wq_629 : (Jvm.Cond.code ({ cls := "Sourcewright$Reading", name := "markBytes", desc := "()V" } : Jvm.MethodName) prog_7_method_19_code (2 : Nat) (Option.none : Option Jvm.ClassFile.FieldType)) ∈ lw_good := pz_in (List.mem_of_getElem? (i := 629) (by decide +kernel)) rfl
theorem wq_642 : (Jvm.Cond.methodLink "Sourcewright" (356 : Nat) ({ cls := "Sourcewright$Life", name := "tell", desc := "()V" } : Jvm.MethodName)) ∈ lw_good := pz_in (List.mem_of_getElem? (i := 642) (by decide +kernel)) rfl
theorem wq_643 : (Jvm.Cond.instanceMethod ({ cls := "Sourcewright$Life", name := "tell", desc := "()V" } : Jvm.MethodName)) ∈ lw_good := pz_in (List.mem_of_getElem? (i := 643) (by decide +kernel)) rfl
theorem wq_644 : (Jvm.Cond.selects "Sourcewright$Life" ({ cls := "Sourcewright$Life", name := "tell", desc := "()V" } : Jvm.MethodName) ({ cls := "Sourcewright$Life", name := "tell", desc := "()V" } : Jvm.MethodName)) ∈ lw_good := pz_in (List.mem_of_getElem? (i := 644) (by decide +kernel)) rfl
theorem wq_645 : (Jvm.Cond.code ({ cls := "Sourcewright$Life", name := "tell", desc := "()V" } : Jvm.MethodName) prog_5_method_4_code (6 : Nat) (Option.none : Option Jvm.ClassFile.FieldType)) ∈ lw_good := pz_in (List.mem_of_getElem? (i := 645) (by decide +kernel)) rfl
theorem wq_646 : (Jvm.Cond.methodLink "Sourcewright$Life" (23 : Nat) ({ cls := "Sourcewright$Code", name := "count", desc := "()I" } : Jvm.MethodName)) ∈ lw_good := pz_in (List.mem_of_getElem? (i := 646) (by decide +kernel)) rfl
theorem wq_647 : (Jvm.Cond.methodLink "Sourcewright$Life" (39 : Nat) ({ cls := "java/lang/Math", name := "min", desc := "(II)I" } : Jvm.MethodName)) ∈ lw_good := pz_in (List.mem_of_getElem? (i := 647) (by decide +kernel)) rfl
theorem wq_654 : (Jvm.Cond.instanceMethod ({ cls := "Sourcewright$Code", name := "minor", desc := "(I)I" } : Jvm.MethodName)) ∈ lw_good := pz_in (List.mem_of_getElem? (i := 654) (by decide +kernel)) rfl
theorem wq_655 : (Jvm.Cond.selects "Sourcewright$Code" ({ cls := "Sourcewright$Code", name := "minor", desc := "(I)I" } : Jvm.MethodName) ({ cls := "Sourcewright$Code", name := "minor", desc := "(I)I" } : Jvm.MethodName)) ∈ lw_good := pz_in (List.mem_of_getElem? (i := 655) (by decide +kernel)) rfl
theorem wq_656 : (Jvm.Cond.code ({ cls := "Sourcewright$Code", name := "minor", desc := "(I)I" } : Jvm.MethodName) prog_4_method_9_code (2 : Nat) (Option.some Jvm.ClassFile.FieldType.int)) ∈ lw_good := pz_in (List.mem_of_getElem? (i := 656) (by decide +kernel)) rfl
theorem wq_685 : (Jvm.Cond.methodLink "SourcewrightLaw" (180 : Nat) ({ cls := "Sourcewright", name := "functions", desc := "()I" } : Jvm.MethodName)) ∈ lw_good := pz_in (List.mem_of_getElem? (i := 685) (by decide +kernel)) rfl
theorem wq_686 : (Jvm.Cond.instanceMethod ({ cls := "Sourcewright", name := "functions", desc := "()I" } : Jvm.MethodName)) ∈ lw_good := pz_in (List.mem_of_getElem? (i := 686) (by decide +kernel)) rfl
theorem wq_687 : (Jvm.Cond.selects "Sourcewright" ({ cls := "Sourcewright", name := "functions", desc := "()I" } : Jvm.MethodName) ({ cls := "Sourcewright", name := "functions", desc := "()I" } : Jvm.MethodName)) ∈ lw_good := pz_in (List.mem_of_getElem? (i := 687) (by decide +kernel)) rfl
theorem wq_688 : (Jvm.Cond.code ({ cls := "Sourcewright", name := "functions", desc := "()I" } : Jvm.MethodName) prog_1_method_11_code (1 : Nat) (Option.some Jvm.ClassFile.FieldType.int)) ∈ lw_good := pz_in (List.mem_of_getElem? (i := 688) (by decide +kernel)) rfl
theorem wq_689 : (Jvm.Cond.methodLink "Sourcewright" (180 : Nat) ({ cls := "Sourcewright$Reading", name := "count", desc := "()I" } : Jvm.MethodName)) ∈ lw_good := pz_in (List.mem_of_getElem? (i := 689) (by decide +kernel)) rfl
theorem wq_690 : (Jvm.Cond.instanceMethod ({ cls := "Sourcewright$Reading", name := "count", desc := "()I" } : Jvm.MethodName)) ∈ lw_good := pz_in (List.mem_of_getElem? (i := 690) (by decide +kernel)) rfl
theorem wq_691 : (Jvm.Cond.selects "Sourcewright$Reading" ({ cls := "Sourcewright$Reading", name := "count", desc := "()I" } : Jvm.MethodName) ({ cls := "Sourcewright$Reading", name := "count", desc := "()I" } : Jvm.MethodName)) ∈ lw_good := pz_in (List.mem_of_getElem? (i := 691) (by decide +kernel)) rfl
theorem wq_692 : (Jvm.Cond.code ({ cls := "Sourcewright$Reading", name := "count", desc := "()I" } : Jvm.MethodName) prog_7_method_2_code (1 : Nat) (Option.some Jvm.ClassFile.FieldType.int)) ∈ lw_good := pz_in (List.mem_of_getElem? (i := 692) (by decide +kernel)) rfl
theorem wq_693 : (Jvm.Cond.methodLink "SourcewrightLaw" (239 : Nat) ({ cls := "Sourcewright", name := "tidy", desc := "(Z)Z" } : Jvm.MethodName)) ∈ lw_good := pz_in (List.mem_of_getElem? (i := 693) (by decide +kernel)) rfl
theorem wq_694 : (Jvm.Cond.instanceMethod ({ cls := "Sourcewright", name := "tidy", desc := "(Z)Z" } : Jvm.MethodName)) ∈ lw_good := pz_in (List.mem_of_getElem? (i := 694) (by decide +kernel)) rfl
theorem wq_695 : (Jvm.Cond.selects "Sourcewright" ({ cls := "Sourcewright", name := "tidy", desc := "(Z)Z" } : Jvm.MethodName) ({ cls := "Sourcewright", name := "tidy", desc := "(Z)Z" } : Jvm.MethodName)) ∈ lw_good := pz_in (List.mem_of_getElem? (i := 695) (by decide +kernel)) rfl
theorem wq_696 : (Jvm.Cond.code ({ cls := "Sourcewright", name := "tidy", desc := "(Z)Z" } : Jvm.MethodName) prog_1_method_30_code (3 : Nat) (Option.some Jvm.ClassFile.FieldType.boolean)) ∈ lw_good := pz_in (List.mem_of_getElem? (i := 696) (by decide +kernel)) rfl
theorem wq_697 : (Jvm.Cond.methodLink "SourcewrightLaw" (260 : Nat) ({ cls := "Sourcewright", name := "dry", desc := "()I" } : Jvm.MethodName)) ∈ lw_good := pz_in (List.mem_of_getElem? (i := 697) (by decide +kernel)) rfl
theorem wq_698 : (Jvm.Cond.instanceMethod ({ cls := "Sourcewright", name := "dry", desc := "()I" } : Jvm.MethodName)) ∈ lw_good := pz_in (List.mem_of_getElem? (i := 698) (by decide +kernel)) rfl
theorem wq_699 : (Jvm.Cond.selects "Sourcewright" ({ cls := "Sourcewright", name := "dry", desc := "()I" } : Jvm.MethodName) ({ cls := "Sourcewright", name := "dry", desc := "()I" } : Jvm.MethodName)) ∈ lw_good := pz_in (List.mem_of_getElem? (i := 699) (by decide +kernel)) rfl
theorem wq_700 : (Jvm.Cond.code ({ cls := "Sourcewright", name := "dry", desc := "()I" } : Jvm.MethodName) prog_1_method_36_code (2 : Nat) (Option.some Jvm.ClassFile.FieldType.int)) ∈ lw_good := pz_in (List.mem_of_getElem? (i := 700) (by decide +kernel)) rfl
theorem wq_701 : (Jvm.Cond.methodLink "SourcewrightLaw" (268 : Nat) ({ cls := "Sourcewright", name := "outputs", desc := "()I" } : Jvm.MethodName)) ∈ lw_good := pz_in (List.mem_of_getElem? (i := 701) (by decide +kernel)) rfl
theorem wq_702 : (Jvm.Cond.instanceMethod ({ cls := "Sourcewright", name := "outputs", desc := "()I" } : Jvm.MethodName)) ∈ lw_good := pz_in (List.mem_of_getElem? (i := 702) (by decide +kernel)) rfl
theorem wq_703 : (Jvm.Cond.selects "Sourcewright" ({ cls := "Sourcewright", name := "outputs", desc := "()I" } : Jvm.MethodName) ({ cls := "Sourcewright", name := "outputs", desc := "()I" } : Jvm.MethodName)) ∈ lw_good := pz_in (List.mem_of_getElem? (i := 703) (by decide +kernel)) rfl
theorem wq_704 : (Jvm.Cond.code ({ cls := "Sourcewright", name := "outputs", desc := "()I" } : Jvm.MethodName) prog_1_method_38_code (1 : Nat) (Option.some Jvm.ClassFile.FieldType.int)) ∈ lw_good := pz_in (List.mem_of_getElem? (i := 704) (by decide +kernel)) rfl
theorem wq_705 : (Jvm.Cond.methodLink "Sourcewright" (283 : Nat) ({ cls := "Sourcewright$Machine", name := "outCount", desc := "()I" } : Jvm.MethodName)) ∈ lw_good := pz_in (List.mem_of_getElem? (i := 705) (by decide +kernel)) rfl
theorem wq_706 : (Jvm.Cond.instanceMethod ({ cls := "Sourcewright$Machine", name := "outCount", desc := "()I" } : Jvm.MethodName)) ∈ lw_good := pz_in (List.mem_of_getElem? (i := 706) (by decide +kernel)) rfl
theorem wq_707 : (Jvm.Cond.selects "Sourcewright$Machine" ({ cls := "Sourcewright$Machine", name := "outCount", desc := "()I" } : Jvm.MethodName) ({ cls := "Sourcewright$Machine", name := "outCount", desc := "()I" } : Jvm.MethodName)) ∈ lw_good := pz_in (List.mem_of_getElem? (i := 707) (by decide +kernel)) rfl
theorem wq_708 : (Jvm.Cond.code ({ cls := "Sourcewright$Machine", name := "outCount", desc := "()I" } : Jvm.MethodName) prog_6_method_2_code (1 : Nat) (Option.some Jvm.ClassFile.FieldType.int)) ∈ lw_good := pz_in (List.mem_of_getElem? (i := 708) (by decide +kernel)) rfl
theorem wq_709 : (Jvm.Cond.methodLink "SourcewrightLaw" (275 : Nat) ({ cls := "Sourcewright", name := "steps", desc := "()I" } : Jvm.MethodName)) ∈ lw_good := pz_in (List.mem_of_getElem? (i := 709) (by decide +kernel)) rfl
theorem wq_710 : (Jvm.Cond.instanceMethod ({ cls := "Sourcewright", name := "steps", desc := "()I" } : Jvm.MethodName)) ∈ lw_good := pz_in (List.mem_of_getElem? (i := 710) (by decide +kernel)) rfl
theorem wq_711 : (Jvm.Cond.selects "Sourcewright" ({ cls := "Sourcewright", name := "steps", desc := "()I" } : Jvm.MethodName) ({ cls := "Sourcewright", name := "steps", desc := "()I" } : Jvm.MethodName)) ∈ lw_good := pz_in (List.mem_of_getElem? (i := 711) (by decide +kernel)) rfl
theorem wq_712 : (Jvm.Cond.code ({ cls := "Sourcewright", name := "steps", desc := "()I" } : Jvm.MethodName) prog_1_method_40_code (1 : Nat) (Option.some Jvm.ClassFile.FieldType.int)) ∈ lw_good := pz_in (List.mem_of_getElem? (i := 712) (by decide +kernel)) rfl
theorem wq_713 : (Jvm.Cond.methodLink "Sourcewright" (291 : Nat) ({ cls := "Sourcewright$Machine", name := "stepCount", desc := "()I" } : Jvm.MethodName)) ∈ lw_good := pz_in (List.mem_of_getElem? (i := 713) (by decide +kernel)) rfl
theorem wq_714 : (Jvm.Cond.instanceMethod ({ cls := "Sourcewright$Machine", name := "stepCount", desc := "()I" } : Jvm.MethodName)) ∈ lw_good := pz_in (List.mem_of_getElem? (i := 714) (by decide +kernel)) rfl
theorem wq_715 : (Jvm.Cond.selects "Sourcewright$Machine" ({ cls := "Sourcewright$Machine", name := "stepCount", desc := "()I" } : Jvm.MethodName) ({ cls := "Sourcewright$Machine", name := "stepCount", desc := "()I" } : Jvm.MethodName)) ∈ lw_good := pz_in (List.mem_of_getElem? (i := 715) (by decide +kernel)) rfl
theorem wq_716 : (Jvm.Cond.code ({ cls := "Sourcewright$Machine", name := "stepCount", desc := "()I" } : Jvm.MethodName) prog_6_method_4_code (1 : Nat) (Option.some Jvm.ClassFile.FieldType.int)) ∈ lw_good := pz_in (List.mem_of_getElem? (i := 716) (by decide +kernel)) rfl
theorem wq_717 : (Jvm.Cond.methodLink "SourcewrightLaw" (282 : Nat) ({ cls := "Sourcewright", name := "keep", desc := "()I" } : Jvm.MethodName)) ∈ lw_good := pz_in (List.mem_of_getElem? (i := 717) (by decide +kernel)) rfl
theorem wq_718 : (Jvm.Cond.instanceMethod ({ cls := "Sourcewright", name := "keep", desc := "()I" } : Jvm.MethodName)) ∈ lw_good := pz_in (List.mem_of_getElem? (i := 718) (by decide +kernel)) rfl
theorem wq_719 : (Jvm.Cond.selects "Sourcewright" ({ cls := "Sourcewright", name := "keep", desc := "()I" } : Jvm.MethodName) ({ cls := "Sourcewright", name := "keep", desc := "()I" } : Jvm.MethodName)) ∈ lw_good := pz_in (List.mem_of_getElem? (i := 719) (by decide +kernel)) rfl
theorem wq_720 : (Jvm.Cond.code ({ cls := "Sourcewright", name := "keep", desc := "()I" } : Jvm.MethodName) prog_1_method_42_code (2 : Nat) (Option.some Jvm.ClassFile.FieldType.int)) ∈ lw_good := pz_in (List.mem_of_getElem? (i := 720) (by decide +kernel)) rfl
theorem wq_721 : (Jvm.Cond.methodLink "Sourcewright" (296 : Nat) ({ cls := "Sourcewright$Shelf", name := "empty", desc := "()V" } : Jvm.MethodName)) ∈ lw_good := pz_in (List.mem_of_getElem? (i := 721) (by decide +kernel)) rfl
theorem wq_722 : (Jvm.Cond.instanceMethod ({ cls := "Sourcewright$Shelf", name := "empty", desc := "()V" } : Jvm.MethodName)) ∈ lw_good := pz_in (List.mem_of_getElem? (i := 722) (by decide +kernel)) rfl
theorem wq_723 : (Jvm.Cond.selects "Sourcewright$Shelf" ({ cls := "Sourcewright$Shelf", name := "empty", desc := "()V" } : Jvm.MethodName) ({ cls := "Sourcewright$Shelf", name := "empty", desc := "()V" } : Jvm.MethodName)) ∈ lw_good := pz_in (List.mem_of_getElem? (i := 723) (by decide +kernel)) rfl
theorem wq_724 : (Jvm.Cond.code ({ cls := "Sourcewright$Shelf", name := "empty", desc := "()V" } : Jvm.MethodName) prog_10_method_3_code (1 : Nat) (Option.none : Option Jvm.ClassFile.FieldType)) ∈ lw_good := pz_in (List.mem_of_getElem? (i := 724) (by decide +kernel)) rfl
theorem wq_884 : (Jvm.Cond.static ({ cls := "java/lang/Math", name := "max", desc := "(II)I" } : Jvm.MethodName)) ∈ lw_good := pz_in (List.mem_of_getElem? (i := 884) (by decide +kernel)) rfl
theorem wq_885 : (Jvm.Cond.code ({ cls := "java/lang/Math", name := "max", desc := "(II)I" } : Jvm.MethodName) prog_35_method_65_code (2 : Nat) (Option.some Jvm.ClassFile.FieldType.int)) ∈ lw_good := pz_in (List.mem_of_getElem? (i := 885) (by decide +kernel)) rfl
theorem wq_987 : (Jvm.Cond.static ({ cls := "jdk/internal/util/Preconditions", name := "checkIndex", desc := "(IILjava/util/function/BiFunction;)I" } : Jvm.MethodName)) ∈ lw_good := pz_in (List.mem_of_getElem? (i := 987) (by decide +kernel)) rfl
theorem wq_988 : (Jvm.Cond.code ({ cls := "jdk/internal/util/Preconditions", name := "checkIndex", desc := "(IILjava/util/function/BiFunction;)I" } : Jvm.MethodName) prog_61_method_11_code (3 : Nat) (Option.some Jvm.ClassFile.FieldType.int)) ∈ lw_good := pz_in (List.mem_of_getElem? (i := 988) (by decide +kernel)) rfl
theorem wq_1086 : (Jvm.Cond.static ({ cls := "java/lang/System", name := "arraycopy", desc := "(Ljava/lang/Object;ILjava/lang/Object;II)V" } : Jvm.MethodName)) ∈ lw_good := pz_in (List.mem_of_getElem? (i := 1086) (by decide +kernel)) rfl
theorem wq_1087 : (Jvm.Cond.native ({ cls := "java/lang/System", name := "arraycopy", desc := "(Ljava/lang/Object;ILjava/lang/Object;II)V" } : Jvm.MethodName)) ∈ lw_good := pz_in (List.mem_of_getElem? (i := 1087) (by decide +kernel)) rfl
theorem wq_1088 : (Jvm.Cond.methodLink "Sourcewright" (307 : Nat) ({ cls := "Sourcewright$Shelf", name := "count", desc := "()I" } : Jvm.MethodName)) ∈ lw_good := pz_in (List.mem_of_getElem? (i := 1088) (by decide +kernel)) rfl
theorem wq_1089 : (Jvm.Cond.instanceMethod ({ cls := "Sourcewright$Shelf", name := "count", desc := "()I" } : Jvm.MethodName)) ∈ lw_good := pz_in (List.mem_of_getElem? (i := 1089) (by decide +kernel)) rfl
theorem wq_1090 : (Jvm.Cond.selects "Sourcewright$Shelf" ({ cls := "Sourcewright$Shelf", name := "count", desc := "()I" } : Jvm.MethodName) ({ cls := "Sourcewright$Shelf", name := "count", desc := "()I" } : Jvm.MethodName)) ∈ lw_good := pz_in (List.mem_of_getElem? (i := 1090) (by decide +kernel)) rfl
theorem wq_1091 : (Jvm.Cond.code ({ cls := "Sourcewright$Shelf", name := "count", desc := "()I" } : Jvm.MethodName) prog_10_method_2_code (1 : Nat) (Option.some Jvm.ClassFile.FieldType.int)) ∈ lw_good := pz_in (List.mem_of_getElem? (i := 1091) (by decide +kernel)) rfl
theorem wq_1093 : (Jvm.Cond.methodLink "SourcewrightLaw" (289 : Nat) ({ cls := "Sourcewright", name := "checksum", desc := "()J" } : Jvm.MethodName)) ∈ lw_good := pz_in (List.mem_of_getElem? (i := 1093) (by decide +kernel)) rfl
theorem wq_1094 : (Jvm.Cond.instanceMethod ({ cls := "Sourcewright", name := "checksum", desc := "()J" } : Jvm.MethodName)) ∈ lw_good := pz_in (List.mem_of_getElem? (i := 1094) (by decide +kernel)) rfl
theorem wq_1095 : (Jvm.Cond.selects "Sourcewright" ({ cls := "Sourcewright", name := "checksum", desc := "()J" } : Jvm.MethodName) ({ cls := "Sourcewright", name := "checksum", desc := "()J" } : Jvm.MethodName)) ∈ lw_good := pz_in (List.mem_of_getElem? (i := 1095) (by decide +kernel)) rfl
theorem wq_1096 : (Jvm.Cond.code ({ cls := "Sourcewright", name := "checksum", desc := "()J" } : Jvm.MethodName) prog_1_method_44_code (4 : Nat) (Option.some Jvm.ClassFile.FieldType.long)) ∈ lw_good := pz_in (List.mem_of_getElem? (i := 1096) (by decide +kernel)) rfl
theorem wq_1097 : (Jvm.Cond.constantLong "Sourcewright" (314 : Nat) (7 : Int64)) ∈ lw_good := pz_in (List.mem_of_getElem? (i := 1097) (by decide +kernel)) rfl
theorem wq_1104 : (Jvm.Cond.methodLink "SourcewrightLaw" (302 : Nat) ({ cls := "Sourcewright", name := "isSound", desc := "()Z" } : Jvm.MethodName)) ∈ lw_good := pz_in (List.mem_of_getElem? (i := 1104) (by decide +kernel)) rfl
theorem wq_1105 : (Jvm.Cond.instanceMethod ({ cls := "Sourcewright", name := "isSound", desc := "()Z" } : Jvm.MethodName)) ∈ lw_good := pz_in (List.mem_of_getElem? (i := 1105) (by decide +kernel)) rfl
theorem wq_1106 : (Jvm.Cond.selects "Sourcewright" ({ cls := "Sourcewright", name := "isSound", desc := "()Z" } : Jvm.MethodName) ({ cls := "Sourcewright", name := "isSound", desc := "()Z" } : Jvm.MethodName)) ∈ lw_good := pz_in (List.mem_of_getElem? (i := 1106) (by decide +kernel)) rfl
theorem wq_1107 : (Jvm.Cond.code ({ cls := "Sourcewright", name := "isSound", desc := "()Z" } : Jvm.MethodName) prog_1_method_47_code (2 : Nat) (Option.some Jvm.ClassFile.FieldType.boolean)) ∈ lw_good := pz_in (List.mem_of_getElem? (i := 1107) (by decide +kernel)) rfl
theorem wq_1132 : (Jvm.Cond.methodLink "Sourcewright" (261 : Nat) ({ cls := "Sourcewright", name := "build", desc := "()V" } : Jvm.MethodName)) ∈ lw_good := pz_in (List.mem_of_getElem? (i := 1132) (by decide +kernel)) rfl
theorem wq_1134 : (Jvm.Cond.instanceMethod ({ cls := "Sourcewright", name := "build", desc := "()V" } : Jvm.MethodName)) ∈ lw_good := pz_in (List.mem_of_getElem? (i := 1134) (by decide +kernel)) rfl
theorem wq_1135 : (Jvm.Cond.code ({ cls := "Sourcewright", name := "build", desc := "()V" } : Jvm.MethodName) prog_1_method_60_code (2 : Nat) (Option.none : Option Jvm.ClassFile.FieldType)) ∈ lw_good := pz_in (List.mem_of_getElem? (i := 1135) (by decide +kernel)) rfl
theorem wq_1136 : (Jvm.Cond.methodLink "Sourcewright" (368 : Nat) ({ cls := "Sourcewright$Builder", name := "start", desc := "(Z)V" } : Jvm.MethodName)) ∈ lw_good := pz_in (List.mem_of_getElem? (i := 1136) (by decide +kernel)) rfl
theorem wq_1137 : (Jvm.Cond.instanceMethod ({ cls := "Sourcewright$Builder", name := "start", desc := "(Z)V" } : Jvm.MethodName)) ∈ lw_good := pz_in (List.mem_of_getElem? (i := 1137) (by decide +kernel)) rfl
theorem wq_1138 : (Jvm.Cond.selects "Sourcewright$Builder" ({ cls := "Sourcewright$Builder", name := "start", desc := "(Z)V" } : Jvm.MethodName) ({ cls := "Sourcewright$Builder", name := "start", desc := "(Z)V" } : Jvm.MethodName)) ∈ lw_good := pz_in (List.mem_of_getElem? (i := 1138) (by decide +kernel)) rfl
theorem wq_1139 : (Jvm.Cond.code ({ cls := "Sourcewright$Builder", name := "start", desc := "(Z)V" } : Jvm.MethodName) prog_3_method_4_code (3 : Nat) (Option.none : Option Jvm.ClassFile.FieldType)) ∈ lw_good := pz_in (List.mem_of_getElem? (i := 1139) (by decide +kernel)) rfl
theorem wq_1140 : (Jvm.Cond.methodLink "Sourcewright$Builder" (74 : Nat) ({ cls := "Sourcewright$Builder", name := "put", desc := "(I)V" } : Jvm.MethodName)) ∈ lw_good := pz_in (List.mem_of_getElem? (i := 1140) (by decide +kernel)) rfl
theorem wq_1142 : (Jvm.Cond.instanceMethod ({ cls := "Sourcewright$Builder", name := "put", desc := "(I)V" } : Jvm.MethodName)) ∈ lw_good := pz_in (List.mem_of_getElem? (i := 1142) (by decide +kernel)) rfl
theorem wq_1143 : (Jvm.Cond.code ({ cls := "Sourcewright$Builder", name := "put", desc := "(I)V" } : Jvm.MethodName) prog_3_method_12_code (2 : Nat) (Option.none : Option Jvm.ClassFile.FieldType)) ∈ lw_good := pz_in (List.mem_of_getElem? (i := 1143) (by decide +kernel)) rfl
theorem wq_1144 : (Jvm.Cond.methodLink "Sourcewright$Builder" (95 : Nat) ({ cls := "Sourcewright$Code", name := "put", desc := "(II)V" } : Jvm.MethodName)) ∈ lw_good := pz_in (List.mem_of_getElem? (i := 1144) (by decide +kernel)) rfl
theorem wq_1145 : (Jvm.Cond.instanceMethod ({ cls := "Sourcewright$Code", name := "put", desc := "(II)V" } : Jvm.MethodName)) ∈ lw_good := pz_in (List.mem_of_getElem? (i := 1145) (by decide +kernel)) rfl
theorem wq_1146 : (Jvm.Cond.selects "Sourcewright$Code" ({ cls := "Sourcewright$Code", name := "put", desc := "(II)V" } : Jvm.MethodName) ({ cls := "Sourcewright$Code", name := "put", desc := "(II)V" } : Jvm.MethodName)) ∈ lw_good := pz_in (List.mem_of_getElem? (i := 1146) (by decide +kernel)) rfl
theorem wq_1147 : (Jvm.Cond.code ({ cls := "Sourcewright$Code", name := "put", desc := "(II)V" } : Jvm.MethodName) prog_4_method_4_code (3 : Nat) (Option.none : Option Jvm.ClassFile.FieldType)) ∈ lw_good := pz_in (List.mem_of_getElem? (i := 1147) (by decide +kernel)) rfl
theorem wq_1148 : (Jvm.Cond.methodLink "Sourcewright" (267 : Nat) ({ cls := "Sourcewright$Builder", name := "count", desc := "()I" } : Jvm.MethodName)) ∈ lw_good := pz_in (List.mem_of_getElem? (i := 1148) (by decide +kernel)) rfl
theorem wq_1149 : (Jvm.Cond.instanceMethod ({ cls := "Sourcewright$Builder", name := "count", desc := "()I" } : Jvm.MethodName)) ∈ lw_good := pz_in (List.mem_of_getElem? (i := 1149) (by decide +kernel)) rfl
theorem wq_1150 : (Jvm.Cond.selects "Sourcewright$Builder" ({ cls := "Sourcewright$Builder", name := "count", desc := "()I" } : Jvm.MethodName) ({ cls := "Sourcewright$Builder", name := "count", desc := "()I" } : Jvm.MethodName)) ∈ lw_good := pz_in (List.mem_of_getElem? (i := 1150) (by decide +kernel)) rfl
theorem wq_1151 : (Jvm.Cond.code ({ cls := "Sourcewright$Builder", name := "count", desc := "()I" } : Jvm.MethodName) prog_3_method_2_code (1 : Nat) (Option.some Jvm.ClassFile.FieldType.int)) ∈ lw_good := pz_in (List.mem_of_getElem? (i := 1151) (by decide +kernel)) rfl
theorem wq_1190 : (Jvm.Cond.methodLink "Sourcewright" (374 : Nat) ({ cls := "Sourcewright$Builder", name := "finish", desc := "()V" } : Jvm.MethodName)) ∈ lw_good := pz_in (List.mem_of_getElem? (i := 1190) (by decide +kernel)) rfl
theorem wq_1191 : (Jvm.Cond.instanceMethod ({ cls := "Sourcewright$Builder", name := "finish", desc := "()V" } : Jvm.MethodName)) ∈ lw_good := pz_in (List.mem_of_getElem? (i := 1191) (by decide +kernel)) rfl
theorem wq_1192 : (Jvm.Cond.selects "Sourcewright$Builder" ({ cls := "Sourcewright$Builder", name := "finish", desc := "()V" } : Jvm.MethodName) ({ cls := "Sourcewright$Builder", name := "finish", desc := "()V" } : Jvm.MethodName)) ∈ lw_good := pz_in (List.mem_of_getElem? (i := 1192) (by decide +kernel)) rfl
theorem wq_1193 : (Jvm.Cond.code ({ cls := "Sourcewright$Builder", name := "finish", desc := "()V" } : Jvm.MethodName) prog_3_method_6_code (3 : Nat) (Option.none : Option Jvm.ClassFile.FieldType)) ∈ lw_good := pz_in (List.mem_of_getElem? (i := 1193) (by decide +kernel)) rfl
theorem wq_1194 : (Jvm.Cond.methodLink "Sourcewright$Builder" (98 : Nat) ({ cls := "Sourcewright$Code", name := "cut", desc := "(I)V" } : Jvm.MethodName)) ∈ lw_good := pz_in (List.mem_of_getElem? (i := 1194) (by decide +kernel)) rfl
theorem wq_1195 : (Jvm.Cond.methodLink "Sourcewright$Builder" (101 : Nat) ({ cls := "Sourcewright$Code", name := "decode", desc := "()V" } : Jvm.MethodName)) ∈ lw_good := pz_in (List.mem_of_getElem? (i := 1195) (by decide +kernel)) rfl
theorem wq_1196 : (Jvm.Cond.methodLink "Sourcewright" (293 : Nat) ({ cls := "Sourcewright", name := "isAgreed", desc := "(I)Z" } : Jvm.MethodName)) ∈ lw_good := pz_in (List.mem_of_getElem? (i := 1196) (by decide +kernel)) rfl
theorem wq_1198 : (Jvm.Cond.instanceMethod ({ cls := "Sourcewright", name := "isAgreed", desc := "(I)Z" } : Jvm.MethodName)) ∈ lw_good := pz_in (List.mem_of_getElem? (i := 1198) (by decide +kernel)) rfl
theorem wq_1199 : (Jvm.Cond.code ({ cls := "Sourcewright", name := "isAgreed", desc := "(I)Z" } : Jvm.MethodName) prog_1_method_61_code (5 : Nat) (Option.some Jvm.ClassFile.FieldType.boolean)) ∈ lw_good := pz_in (List.mem_of_getElem? (i := 1199) (by decide +kernel)) rfl
theorem wq_1200 : (Jvm.Cond.methodLink "Sourcewright" (279 : Nat) ({ cls := "Sourcewright$Machine", name := "go", desc := "(LSourcewright$Code;[III)C" } : Jvm.MethodName)) ∈ lw_good := pz_in (List.mem_of_getElem? (i := 1200) (by decide +kernel)) rfl
theorem wq_1201 : (Jvm.Cond.instanceMethod ({ cls := "Sourcewright$Machine", name := "go", desc := "(LSourcewright$Code;[III)C" } : Jvm.MethodName)) ∈ lw_good := pz_in (List.mem_of_getElem? (i := 1201) (by decide +kernel)) rfl
theorem wq_1202 : (Jvm.Cond.selects "Sourcewright$Machine" ({ cls := "Sourcewright$Machine", name := "go", desc := "(LSourcewright$Code;[III)C" } : Jvm.MethodName) ({ cls := "Sourcewright$Machine", name := "go", desc := "(LSourcewright$Code;[III)C" } : Jvm.MethodName)) ∈ lw_good := pz_in (List.mem_of_getElem? (i := 1202) (by decide +kernel)) rfl
theorem wq_1203 : (Jvm.Cond.code ({ cls := "Sourcewright$Machine", name := "go", desc := "(LSourcewright$Code;[III)C" } : Jvm.MethodName) prog_6_method_5_code (8 : Nat) (Option.some Jvm.ClassFile.FieldType.char)) ∈ lw_good := pz_in (List.mem_of_getElem? (i := 1203) (by decide +kernel)) rfl
theorem wq_1204 : (Jvm.Cond.methodLink "Sourcewright$Machine" (43 : Nat) ({ cls := "Sourcewright$Machine", name := "reset", desc := "()V" } : Jvm.MethodName)) ∈ lw_good := pz_in (List.mem_of_getElem? (i := 1204) (by decide +kernel)) rfl
theorem wq_1206 : (Jvm.Cond.instanceMethod ({ cls := "Sourcewright$Machine", name := "reset", desc := "()V" } : Jvm.MethodName)) ∈ lw_good := pz_in (List.mem_of_getElem? (i := 1206) (by decide +kernel)) rfl
theorem wq_1207 : (Jvm.Cond.code ({ cls := "Sourcewright$Machine", name := "reset", desc := "()V" } : Jvm.MethodName) prog_6_method_6_code (2 : Nat) (Option.none : Option Jvm.ClassFile.FieldType)) ∈ lw_good := pz_in (List.mem_of_getElem? (i := 1207) (by decide +kernel)) rfl
theorem wq_1208 : (Jvm.Cond.methodLink "Sourcewright$Machine" (46 : Nat) ({ cls := "Sourcewright$Code", name := "op", desc := "(I)I" } : Jvm.MethodName)) ∈ lw_good := pz_in (List.mem_of_getElem? (i := 1208) (by decide +kernel)) rfl
theorem wq_1213 : (Jvm.Cond.methodLink "Sourcewright$Machine" (60 : Nat) ({ cls := "Sourcewright$Code", name := "minor", desc := "(I)I" } : Jvm.MethodName)) ∈ lw_good := pz_in (List.mem_of_getElem? (i := 1213) (by decide +kernel)) rfl
theorem wq_1218 : (Jvm.Cond.methodLink "Sourcewright$Machine" (56 : Nat) ({ cls := "Sourcewright$Machine", name := "perform", desc := "(LSourcewright$Code;I)C" } : Jvm.MethodName)) ∈ lw_good := pz_in (List.mem_of_getElem? (i := 1218) (by decide +kernel)) rfl
theorem wq_1220 : (Jvm.Cond.instanceMethod ({ cls := "Sourcewright$Machine", name := "perform", desc := "(LSourcewright$Code;I)C" } : Jvm.MethodName)) ∈ lw_good := pz_in (List.mem_of_getElem? (i := 1220) (by decide +kernel)) rfl
theorem wq_1221 : (Jvm.Cond.code ({ cls := "Sourcewright$Machine", name := "perform", desc := "(LSourcewright$Code;I)C" } : Jvm.MethodName) prog_6_method_10_code (5 : Nat) (Option.some Jvm.ClassFile.FieldType.char)) ∈ lw_good := pz_in (List.mem_of_getElem? (i := 1221) (by decide +kernel)) rfl
theorem wq_1222 : (Jvm.Cond.methodLink "Sourcewright$Machine" (67 : Nat) ({ cls := "Sourcewright$Code", name := "at", desc := "(I)I" } : Jvm.MethodName)) ∈ lw_good := pz_in (List.mem_of_getElem? (i := 1222) (by decide +kernel)) rfl
theorem wq_1235 : (Jvm.Cond.methodLink "Sourcewright$Machine" (86 : Nat) ({ cls := "Sourcewright$Machine", name := "branch", desc := "(LSourcewright$Code;I)C" } : Jvm.MethodName)) ∈ lw_good := pz_in (List.mem_of_getElem? (i := 1235) (by decide +kernel)) rfl
theorem wq_1237 : (Jvm.Cond.instanceMethod ({ cls := "Sourcewright$Machine", name := "branch", desc := "(LSourcewright$Code;I)C" } : Jvm.MethodName)) ∈ lw_good := pz_in (List.mem_of_getElem? (i := 1237) (by decide +kernel)) rfl
theorem wq_1238 : (Jvm.Cond.code ({ cls := "Sourcewright$Machine", name := "branch", desc := "(LSourcewright$Code;I)C" } : Jvm.MethodName) prog_6_method_12_code (5 : Nat) (Option.some Jvm.ClassFile.FieldType.char)) ∈ lw_good := pz_in (List.mem_of_getElem? (i := 1238) (by decide +kernel)) rfl
theorem wq_1240 : (Jvm.Cond.methodLink "Sourcewright$Machine" (92 : Nat) ({ cls := "Sourcewright$Machine", name := "isTaken", desc := "(I)Z" } : Jvm.MethodName)) ∈ lw_good := pz_in (List.mem_of_getElem? (i := 1240) (by decide +kernel)) rfl
theorem wq_1242 : (Jvm.Cond.instanceMethod ({ cls := "Sourcewright$Machine", name := "isTaken", desc := "(I)Z" } : Jvm.MethodName)) ∈ lw_good := pz_in (List.mem_of_getElem? (i := 1242) (by decide +kernel)) rfl
theorem wq_1243 : (Jvm.Cond.code ({ cls := "Sourcewright$Machine", name := "isTaken", desc := "(I)Z" } : Jvm.MethodName) prog_6_method_13_code (2 : Nat) (Option.some Jvm.ClassFile.FieldType.boolean)) ∈ lw_good := pz_in (List.mem_of_getElem? (i := 1243) (by decide +kernel)) rfl
theorem wq_1244 : (Jvm.Cond.methodLink "Sourcewright" (270 : Nat) ({ cls := "Sourcewright$Builder", name := "result", desc := "()LSourcewright$Code;" } : Jvm.MethodName)) ∈ lw_good := pz_in (List.mem_of_getElem? (i := 1244) (by decide +kernel)) rfl
theorem wq_1245 : (Jvm.Cond.instanceMethod ({ cls := "Sourcewright$Builder", name := "result", desc := "()LSourcewright$Code;" } : Jvm.MethodName)) ∈ lw_good := pz_in (List.mem_of_getElem? (i := 1245) (by decide +kernel)) rfl
theorem wq_1246 : (Jvm.Cond.selects "Sourcewright$Builder" ({ cls := "Sourcewright$Builder", name := "result", desc := "()LSourcewright$Code;" } : Jvm.MethodName) ({ cls := "Sourcewright$Builder", name := "result", desc := "()LSourcewright$Code;" } : Jvm.MethodName)) ∈ lw_good := pz_in (List.mem_of_getElem? (i := 1246) (by decide +kernel)) rfl
theorem wq_1247 : (Jvm.Cond.code ({ cls := "Sourcewright$Builder", name := "result", desc := "()LSourcewright$Code;" } : Jvm.MethodName) prog_3_method_3_code (1 : Nat) (Option.some (Jvm.ClassFile.FieldType.object "Sourcewright$Code"))) ∈ lw_good := pz_in (List.mem_of_getElem? (i := 1247) (by decide +kernel)) rfl
theorem wq_1252 : (Jvm.Cond.methodLink "SourcewrightLaw" (144 : Nat) ({ cls := "SourcewrightLaw", name := "type", desc := "(LSourcewright;I[J)I" } : Jvm.MethodName)) ∈ lw_good := pz_in (List.mem_of_getElem? (i := 1252) (by decide +kernel)) rfl
theorem wq_1253 : (Jvm.Cond.static ({ cls := "SourcewrightLaw", name := "type", desc := "(LSourcewright;I[J)I" } : Jvm.MethodName)) ∈ lw_good := pz_in (List.mem_of_getElem? (i := 1253) (by decide +kernel)) rfl
theorem wq_1254 : (Jvm.Cond.codeWith ({ cls := "SourcewrightLaw", name := "type", desc := "(LSourcewright;I[J)I" } : Jvm.MethodName) method_3_code (4 : Nat) (Option.some Jvm.ClassFile.FieldType.int) [((0 : Nat), (9 : Nat), (12 : Nat), (13 : Nat)), ((0 : Nat), (9 : Nat), (15 : Nat), (15 : Nat))]) ∈ lw_good := pz_in (List.mem_of_getElem? (i := 1254) (by decide +kernel)) rfl
theorem wq_1255 : (Jvm.Cond.classLink "SourcewrightLaw" (13 : Nat) "java/lang/IllegalArgumentException") ∈ lw_good := pz_in (List.mem_of_getElem? (i := 1255) (by decide +kernel)) rfl
theorem wq_1257 : (Jvm.Cond.methodLink "SourcewrightLaw" (7 : Nat) ({ cls := "Sourcewright", name := "type", desc := "(I)I" } : Jvm.MethodName)) ∈ lw_good := pz_in (List.mem_of_getElem? (i := 1257) (by decide +kernel)) rfl
theorem wq_1258 : (Jvm.Cond.instanceMethod ({ cls := "Sourcewright", name := "type", desc := "(I)I" } : Jvm.MethodName)) ∈ lw_good := pz_in (List.mem_of_getElem? (i := 1258) (by decide +kernel)) rfl
theorem wq_1259 : (Jvm.Cond.selects "Sourcewright" ({ cls := "Sourcewright", name := "type", desc := "(I)I" } : Jvm.MethodName) ({ cls := "Sourcewright", name := "type", desc := "(I)I" } : Jvm.MethodName)) ∈ lw_good := pz_in (List.mem_of_getElem? (i := 1259) (by decide +kernel)) rfl
theorem wq_1260 : (Jvm.Cond.code ({ cls := "Sourcewright", name := "type", desc := "(I)I" } : Jvm.MethodName) prog_1_method_2_code (2 : Nat) (Option.some Jvm.ClassFile.FieldType.int)) ∈ lw_good := pz_in (List.mem_of_getElem? (i := 1260) (by decide +kernel)) rfl
theorem wq_1261 : (Jvm.Cond.methodLink "Sourcewright" (116 : Nat) ({ cls := "Sourcewright", name := "isByte", desc := "(I)Z" } : Jvm.MethodName)) ∈ lw_good := pz_in (List.mem_of_getElem? (i := 1261) (by decide +kernel)) rfl
theorem wq_1262 : (Jvm.Cond.static ({ cls := "Sourcewright", name := "isByte", desc := "(I)Z" } : Jvm.MethodName)) ∈ lw_good := pz_in (List.mem_of_getElem? (i := 1262) (by decide +kernel)) rfl
theorem wq_1263 : (Jvm.Cond.code ({ cls := "Sourcewright", name := "isByte", desc := "(I)Z" } : Jvm.MethodName) prog_1_method_48_code (1 : Nat) (Option.some Jvm.ClassFile.FieldType.boolean)) ∈ lw_good := pz_in (List.mem_of_getElem? (i := 1263) (by decide +kernel)) rfl
theorem wq_1264 : (Jvm.Cond.classLink "Sourcewright" (120 : Nat) "java/lang/IllegalArgumentException") ∈ lw_good := pz_in (List.mem_of_getElem? (i := 1264) (by decide +kernel)) rfl
theorem wq_1352 : (Jvm.Cond.methodLink "Sourcewright" (136 : Nat) ({ cls := "Sourcewright$Code", name := "put", desc := "(II)V" } : Jvm.MethodName)) ∈ lw_good := pz_in (List.mem_of_getElem? (i := 1352) (by decide +kernel)) rfl
theorem wq_1353 : (Jvm.Cond.methodLink "SourcewrightLaw" (153 : Nat) ({ cls := "SourcewrightLaw", name := "set", desc := "(LSourcewright;II[J)I" } : Jvm.MethodName)) ∈ lw_good := pz_in (List.mem_of_getElem? (i := 1353) (by decide +kernel)) rfl
theorem wq_1354 : (Jvm.Cond.static ({ cls := "SourcewrightLaw", name := "set", desc := "(LSourcewright;II[J)I" } : Jvm.MethodName)) ∈ lw_good := pz_in (List.mem_of_getElem? (i := 1354) (by decide +kernel)) rfl
theorem wq_1355 : (Jvm.Cond.codeWith ({ cls := "SourcewrightLaw", name := "set", desc := "(LSourcewright;II[J)I" } : Jvm.MethodName) method_4_code (5 : Nat) (Option.some Jvm.ClassFile.FieldType.int) [((0 : Nat), (10 : Nat), (13 : Nat), (21 : Nat)), ((0 : Nat), (10 : Nat), (17 : Nat), (13 : Nat))]) ∈ lw_good := pz_in (List.mem_of_getElem? (i := 1355) (by decide +kernel)) rfl
theorem wq_1356 : (Jvm.Cond.classLink "SourcewrightLaw" (21 : Nat) "java/lang/IndexOutOfBoundsException") ∈ lw_good := pz_in (List.mem_of_getElem? (i := 1356) (by decide +kernel)) rfl
theorem wq_1380 : (Jvm.Cond.methodLink "SourcewrightLaw" (17 : Nat) ({ cls := "Sourcewright", name := "set", desc := "(II)I" } : Jvm.MethodName)) ∈ lw_good := pz_in (List.mem_of_getElem? (i := 1380) (by decide +kernel)) rfl
theorem wq_1381 : (Jvm.Cond.instanceMethod ({ cls := "Sourcewright", name := "set", desc := "(II)I" } : Jvm.MethodName)) ∈ lw_good := pz_in (List.mem_of_getElem? (i := 1381) (by decide +kernel)) rfl
theorem wq_1382 : (Jvm.Cond.selects "Sourcewright" ({ cls := "Sourcewright", name := "set", desc := "(II)I" } : Jvm.MethodName) ({ cls := "Sourcewright", name := "set", desc := "(II)I" } : Jvm.MethodName)) ∈ lw_good := pz_in (List.mem_of_getElem? (i := 1382) (by decide +kernel)) rfl
theorem wq_1383 : (Jvm.Cond.code ({ cls := "Sourcewright", name := "set", desc := "(II)I" } : Jvm.MethodName) prog_1_method_3_code (4 : Nat) (Option.some Jvm.ClassFile.FieldType.int)) ∈ lw_good := pz_in (List.mem_of_getElem? (i := 1383) (by decide +kernel)) rfl
theorem wq_1384 : (Jvm.Cond.methodLink "Sourcewright" (147 : Nat) ({ cls := "Sourcewright", name := "checkPlace", desc := "(I)V" } : Jvm.MethodName)) ∈ lw_good := pz_in (List.mem_of_getElem? (i := 1384) (by decide +kernel)) rfl
theorem wq_1386 : (Jvm.Cond.instanceMethod ({ cls := "Sourcewright", name := "checkPlace", desc := "(I)V" } : Jvm.MethodName)) ∈ lw_good := pz_in (List.mem_of_getElem? (i := 1386) (by decide +kernel)) rfl
theorem wq_1387 : (Jvm.Cond.code ({ cls := "Sourcewright", name := "checkPlace", desc := "(I)V" } : Jvm.MethodName) prog_1_method_50_code (2 : Nat) (Option.none : Option Jvm.ClassFile.FieldType)) ∈ lw_good := pz_in (List.mem_of_getElem? (i := 1387) (by decide +kernel)) rfl
theorem wq_1388 : (Jvm.Cond.classLink "Sourcewright" (330 : Nat) "java/lang/IndexOutOfBoundsException") ∈ lw_good := pz_in (List.mem_of_getElem? (i := 1388) (by decide +kernel)) rfl
theorem wq_1401 : (Jvm.Cond.methodLink "Sourcewright" (150 : Nat) ({ cls := "Sourcewright$Code", name := "at", desc := "(I)I" } : Jvm.MethodName)) ∈ lw_good := pz_in (List.mem_of_getElem? (i := 1401) (by decide +kernel)) rfl
theorem wq_1402 : (Jvm.Cond.methodLink "SourcewrightLaw" (161 : Nat) ({ cls := "SourcewrightLaw", name := "byteAt", desc := "(LSourcewright;I[J)I" } : Jvm.MethodName)) ∈ lw_good := pz_in (List.mem_of_getElem? (i := 1402) (by decide +kernel)) rfl
theorem wq_1403 : (Jvm.Cond.static ({ cls := "SourcewrightLaw", name := "byteAt", desc := "(LSourcewright;I[J)I" } : Jvm.MethodName)) ∈ lw_good := pz_in (List.mem_of_getElem? (i := 1403) (by decide +kernel)) rfl
theorem wq_1404 : (Jvm.Cond.codeWith ({ cls := "SourcewrightLaw", name := "byteAt", desc := "(LSourcewright;I[J)I" } : Jvm.MethodName) method_5_code (4 : Nat) (Option.some Jvm.ClassFile.FieldType.int) [((0 : Nat), (9 : Nat), (12 : Nat), (21 : Nat))]) ∈ lw_good := pz_in (List.mem_of_getElem? (i := 1404) (by decide +kernel)) rfl
theorem wq_1405 : (Jvm.Cond.methodLink "SourcewrightLaw" (23 : Nat) ({ cls := "Sourcewright", name := "byteAt", desc := "(I)I" } : Jvm.MethodName)) ∈ lw_good := pz_in (List.mem_of_getElem? (i := 1405) (by decide +kernel)) rfl
theorem wq_1406 : (Jvm.Cond.instanceMethod ({ cls := "Sourcewright", name := "byteAt", desc := "(I)I" } : Jvm.MethodName)) ∈ lw_good := pz_in (List.mem_of_getElem? (i := 1406) (by decide +kernel)) rfl
theorem wq_1407 : (Jvm.Cond.selects "Sourcewright" ({ cls := "Sourcewright", name := "byteAt", desc := "(I)I" } : Jvm.MethodName) ({ cls := "Sourcewright", name := "byteAt", desc := "(I)I" } : Jvm.MethodName)) ∈ lw_good := pz_in (List.mem_of_getElem? (i := 1407) (by decide +kernel)) rfl
theorem wq_1408 : (Jvm.Cond.code ({ cls := "Sourcewright", name := "byteAt", desc := "(I)I" } : Jvm.MethodName) prog_1_method_5_code (2 : Nat) (Option.some Jvm.ClassFile.FieldType.int)) ∈ lw_good := pz_in (List.mem_of_getElem? (i := 1408) (by decide +kernel)) rfl
theorem wq_1409 : (Jvm.Cond.methodLink "SourcewrightLaw" (164 : Nat) ({ cls := "SourcewrightLaw", name := "entry", desc := "(LSourcewright;I[J)I" } : Jvm.MethodName)) ∈ lw_good := pz_in (List.mem_of_getElem? (i := 1409) (by decide +kernel)) rfl
theorem wq_1410 : (Jvm.Cond.static ({ cls := "SourcewrightLaw", name := "entry", desc := "(LSourcewright;I[J)I" } : Jvm.MethodName)) ∈ lw_good := pz_in (List.mem_of_getElem? (i := 1410) (by decide +kernel)) rfl
theorem wq_1411 : (Jvm.Cond.codeWith ({ cls := "SourcewrightLaw", name := "entry", desc := "(LSourcewright;I[J)I" } : Jvm.MethodName) method_6_code (4 : Nat) (Option.some Jvm.ClassFile.FieldType.int) [((0 : Nat), (9 : Nat), (12 : Nat), (21 : Nat)), ((0 : Nat), (9 : Nat), (15 : Nat), (29 : Nat)), ((0 : Nat), (9 : Nat), (18 : Nat), (15 : Nat))]) ∈ lw_good := pz_in (List.mem_of_getElem? (i := 1411) (by decide +kernel)) rfl
theorem wq_1412 : (Jvm.Cond.classLink "SourcewrightLaw" (29 : Nat) "java/lang/UnsupportedOperationException") ∈ lw_good := pz_in (List.mem_of_getElem? (i := 1412) (by decide +kernel)) rfl
theorem wq_1413 : (Jvm.Cond.methodLink "SourcewrightLaw" (26 : Nat) ({ cls := "Sourcewright", name := "entry", desc := "(I)I" } : Jvm.MethodName)) ∈ lw_good := pz_in (List.mem_of_getElem? (i := 1413) (by decide +kernel)) rfl
theorem wq_1414 : (Jvm.Cond.instanceMethod ({ cls := "Sourcewright", name := "entry", desc := "(I)I" } : Jvm.MethodName)) ∈ lw_good := pz_in (List.mem_of_getElem? (i := 1414) (by decide +kernel)) rfl
theorem wq_1415 : (Jvm.Cond.selects "Sourcewright" ({ cls := "Sourcewright", name := "entry", desc := "(I)I" } : Jvm.MethodName) ({ cls := "Sourcewright", name := "entry", desc := "(I)I" } : Jvm.MethodName)) ∈ lw_good := pz_in (List.mem_of_getElem? (i := 1415) (by decide +kernel)) rfl
theorem wq_1416 : (Jvm.Cond.code ({ cls := "Sourcewright", name := "entry", desc := "(I)I" } : Jvm.MethodName) prog_1_method_6_code (2 : Nat) (Option.some Jvm.ClassFile.FieldType.int)) ∈ lw_good := pz_in (List.mem_of_getElem? (i := 1416) (by decide +kernel)) rfl
theorem wq_1438 : (Jvm.Cond.methodLink "SourcewrightLaw" (167 : Nat) ({ cls := "SourcewrightLaw", name := "kind", desc := "(LSourcewright;I[J)I" } : Jvm.MethodName)) ∈ lw_good := pz_in (List.mem_of_getElem? (i := 1438) (by decide +kernel)) rfl
theorem wq_1439 : (Jvm.Cond.static ({ cls := "SourcewrightLaw", name := "kind", desc := "(LSourcewright;I[J)I" } : Jvm.MethodName)) ∈ lw_good := pz_in (List.mem_of_getElem? (i := 1439) (by decide +kernel)) rfl
theorem wq_1440 : (Jvm.Cond.codeWith ({ cls := "SourcewrightLaw", name := "kind", desc := "(LSourcewright;I[J)I" } : Jvm.MethodName) method_7_code (4 : Nat) (Option.some Jvm.ClassFile.FieldType.int) [((0 : Nat), (9 : Nat), (12 : Nat), (21 : Nat))]) ∈ lw_good := pz_in (List.mem_of_getElem? (i := 1440) (by decide +kernel)) rfl
theorem wq_1441 : (Jvm.Cond.methodLink "SourcewrightLaw" (31 : Nat) ({ cls := "Sourcewright", name := "kind", desc := "(I)C" } : Jvm.MethodName)) ∈ lw_good := pz_in (List.mem_of_getElem? (i := 1441) (by decide +kernel)) rfl
theorem wq_1442 : (Jvm.Cond.instanceMethod ({ cls := "Sourcewright", name := "kind", desc := "(I)C" } : Jvm.MethodName)) ∈ lw_good := pz_in (List.mem_of_getElem? (i := 1442) (by decide +kernel)) rfl
theorem wq_1443 : (Jvm.Cond.selects "Sourcewright" ({ cls := "Sourcewright", name := "kind", desc := "(I)C" } : Jvm.MethodName) ({ cls := "Sourcewright", name := "kind", desc := "(I)C" } : Jvm.MethodName)) ∈ lw_good := pz_in (List.mem_of_getElem? (i := 1443) (by decide +kernel)) rfl
theorem wq_1444 : (Jvm.Cond.code ({ cls := "Sourcewright", name := "kind", desc := "(I)C" } : Jvm.MethodName) prog_1_method_7_code (2 : Nat) (Option.some Jvm.ClassFile.FieldType.char)) ∈ lw_good := pz_in (List.mem_of_getElem? (i := 1444) (by decide +kernel)) rfl
theorem wq_1445 : (Jvm.Cond.methodLink "SourcewrightLaw" (170 : Nat) ({ cls := "SourcewrightLaw", name := "isInDoubt", desc := "(LSourcewright;I[J)I" } : Jvm.MethodName)) ∈ lw_good := pz_in (List.mem_of_getElem? (i := 1445) (by decide +kernel)) rfl
theorem wq_1446 : (Jvm.Cond.static ({ cls := "SourcewrightLaw", name := "isInDoubt", desc := "(LSourcewright;I[J)I" } : Jvm.MethodName)) ∈ lw_good := pz_in (List.mem_of_getElem? (i := 1446) (by decide +kernel)) rfl
theorem wq_1447 : (Jvm.Cond.codeWith ({ cls := "SourcewrightLaw", name := "isInDoubt", desc := "(LSourcewright;I[J)I" } : Jvm.MethodName) method_8_code (4 : Nat) (Option.some Jvm.ClassFile.FieldType.int) [((0 : Nat), (16 : Nat), (19 : Nat), (21 : Nat))]) ∈ lw_good := pz_in (List.mem_of_getElem? (i := 1447) (by decide +kernel)) rfl
theorem wq_1448 : (Jvm.Cond.methodLink "SourcewrightLaw" (35 : Nat) ({ cls := "Sourcewright", name := "isInDoubt", desc := "(I)Z" } : Jvm.MethodName)) ∈ lw_good := pz_in (List.mem_of_getElem? (i := 1448) (by decide +kernel)) rfl
theorem wq_1449 : (Jvm.Cond.instanceMethod ({ cls := "Sourcewright", name := "isInDoubt", desc := "(I)Z" } : Jvm.MethodName)) ∈ lw_good := pz_in (List.mem_of_getElem? (i := 1449) (by decide +kernel)) rfl
theorem wq_1450 : (Jvm.Cond.selects "Sourcewright" ({ cls := "Sourcewright", name := "isInDoubt", desc := "(I)Z" } : Jvm.MethodName) ({ cls := "Sourcewright", name := "isInDoubt", desc := "(I)Z" } : Jvm.MethodName)) ∈ lw_good := pz_in (List.mem_of_getElem? (i := 1450) (by decide +kernel)) rfl
theorem wq_1451 : (Jvm.Cond.code ({ cls := "Sourcewright", name := "isInDoubt", desc := "(I)Z" } : Jvm.MethodName) prog_1_method_8_code (2 : Nat) (Option.some Jvm.ClassFile.FieldType.boolean)) ∈ lw_good := pz_in (List.mem_of_getElem? (i := 1451) (by decide +kernel)) rfl
theorem wq_1452 : (Jvm.Cond.methodLink "SourcewrightLaw" (177 : Nat) ({ cls := "SourcewrightLaw", name := "length", desc := "(LSourcewright;I[J)I" } : Jvm.MethodName)) ∈ lw_good := pz_in (List.mem_of_getElem? (i := 1452) (by decide +kernel)) rfl
theorem wq_1453 : (Jvm.Cond.static ({ cls := "SourcewrightLaw", name := "length", desc := "(LSourcewright;I[J)I" } : Jvm.MethodName)) ∈ lw_good := pz_in (List.mem_of_getElem? (i := 1453) (by decide +kernel)) rfl
theorem wq_1454 : (Jvm.Cond.codeWith ({ cls := "SourcewrightLaw", name := "length", desc := "(LSourcewright;I[J)I" } : Jvm.MethodName) method_9_code (4 : Nat) (Option.some Jvm.ClassFile.FieldType.int) [((0 : Nat), (9 : Nat), (12 : Nat), (21 : Nat))]) ∈ lw_good := pz_in (List.mem_of_getElem? (i := 1454) (by decide +kernel)) rfl
theorem wq_1455 : (Jvm.Cond.methodLink "SourcewrightLaw" (39 : Nat) ({ cls := "Sourcewright", name := "length", desc := "(I)I" } : Jvm.MethodName)) ∈ lw_good := pz_in (List.mem_of_getElem? (i := 1455) (by decide +kernel)) rfl
theorem wq_1456 : (Jvm.Cond.instanceMethod ({ cls := "Sourcewright", name := "length", desc := "(I)I" } : Jvm.MethodName)) ∈ lw_good := pz_in (List.mem_of_getElem? (i := 1456) (by decide +kernel)) rfl
theorem wq_1457 : (Jvm.Cond.selects "Sourcewright" ({ cls := "Sourcewright", name := "length", desc := "(I)I" } : Jvm.MethodName) ({ cls := "Sourcewright", name := "length", desc := "(I)I" } : Jvm.MethodName)) ∈ lw_good := pz_in (List.mem_of_getElem? (i := 1457) (by decide +kernel)) rfl
theorem wq_1458 : (Jvm.Cond.code ({ cls := "Sourcewright", name := "length", desc := "(I)I" } : Jvm.MethodName) prog_1_method_10_code (2 : Nat) (Option.some Jvm.ClassFile.FieldType.int)) ∈ lw_good := pz_in (List.mem_of_getElem? (i := 1458) (by decide +kernel)) rfl
theorem wq_1461 : (Jvm.Cond.methodLink "SourcewrightLaw" (184 : Nat) ({ cls := "SourcewrightLaw", name := "entryOf", desc := "(LSourcewright;I[J)I" } : Jvm.MethodName)) ∈ lw_good := pz_in (List.mem_of_getElem? (i := 1461) (by decide +kernel)) rfl
theorem wq_1462 : (Jvm.Cond.static ({ cls := "SourcewrightLaw", name := "entryOf", desc := "(LSourcewright;I[J)I" } : Jvm.MethodName)) ∈ lw_good := pz_in (List.mem_of_getElem? (i := 1462) (by decide +kernel)) rfl
theorem wq_1463 : (Jvm.Cond.codeWith ({ cls := "SourcewrightLaw", name := "entryOf", desc := "(LSourcewright;I[J)I" } : Jvm.MethodName) method_10_code (4 : Nat) (Option.some Jvm.ClassFile.FieldType.int) [((0 : Nat), (9 : Nat), (12 : Nat), (21 : Nat))]) ∈ lw_good := pz_in (List.mem_of_getElem? (i := 1463) (by decide +kernel)) rfl
theorem wq_1464 : (Jvm.Cond.methodLink "SourcewrightLaw" (42 : Nat) ({ cls := "Sourcewright", name := "entryOf", desc := "(I)I" } : Jvm.MethodName)) ∈ lw_good := pz_in (List.mem_of_getElem? (i := 1464) (by decide +kernel)) rfl
theorem wq_1465 : (Jvm.Cond.instanceMethod ({ cls := "Sourcewright", name := "entryOf", desc := "(I)I" } : Jvm.MethodName)) ∈ lw_good := pz_in (List.mem_of_getElem? (i := 1465) (by decide +kernel)) rfl
theorem wq_1466 : (Jvm.Cond.selects "Sourcewright" ({ cls := "Sourcewright", name := "entryOf", desc := "(I)I" } : Jvm.MethodName) ({ cls := "Sourcewright", name := "entryOf", desc := "(I)I" } : Jvm.MethodName)) ∈ lw_good := pz_in (List.mem_of_getElem? (i := 1466) (by decide +kernel)) rfl
theorem wq_1467 : (Jvm.Cond.code ({ cls := "Sourcewright", name := "entryOf", desc := "(I)I" } : Jvm.MethodName) prog_1_method_12_code (2 : Nat) (Option.some Jvm.ClassFile.FieldType.int)) ∈ lw_good := pz_in (List.mem_of_getElem? (i := 1467) (by decide +kernel)) rfl
theorem wq_1468 : (Jvm.Cond.methodLink "Sourcewright" (181 : Nat) ({ cls := "Sourcewright", name := "checkFunction", desc := "(I)V" } : Jvm.MethodName)) ∈ lw_good := pz_in (List.mem_of_getElem? (i := 1468) (by decide +kernel)) rfl
theorem wq_1470 : (Jvm.Cond.instanceMethod ({ cls := "Sourcewright", name := "checkFunction", desc := "(I)V" } : Jvm.MethodName)) ∈ lw_good := pz_in (List.mem_of_getElem? (i := 1470) (by decide +kernel)) rfl
theorem wq_1471 : (Jvm.Cond.code ({ cls := "Sourcewright", name := "checkFunction", desc := "(I)V" } : Jvm.MethodName) prog_1_method_51_code (2 : Nat) (Option.none : Option Jvm.ClassFile.FieldType)) ∈ lw_good := pz_in (List.mem_of_getElem? (i := 1471) (by decide +kernel)) rfl
theorem wq_1472 : (Jvm.Cond.methodLink "Sourcewright" (333 : Nat) ({ cls := "Sourcewright$Reading", name := "isFunction", desc := "(I)Z" } : Jvm.MethodName)) ∈ lw_good := pz_in (List.mem_of_getElem? (i := 1472) (by decide +kernel)) rfl
theorem wq_1473 : (Jvm.Cond.instanceMethod ({ cls := "Sourcewright$Reading", name := "isFunction", desc := "(I)Z" } : Jvm.MethodName)) ∈ lw_good := pz_in (List.mem_of_getElem? (i := 1473) (by decide +kernel)) rfl
theorem wq_1474 : (Jvm.Cond.selects "Sourcewright$Reading" ({ cls := "Sourcewright$Reading", name := "isFunction", desc := "(I)Z" } : Jvm.MethodName) ({ cls := "Sourcewright$Reading", name := "isFunction", desc := "(I)Z" } : Jvm.MethodName)) ∈ lw_good := pz_in (List.mem_of_getElem? (i := 1474) (by decide +kernel)) rfl
theorem wq_1475 : (Jvm.Cond.code ({ cls := "Sourcewright$Reading", name := "isFunction", desc := "(I)Z" } : Jvm.MethodName) prog_7_method_3_code (2 : Nat) (Option.some Jvm.ClassFile.FieldType.boolean)) ∈ lw_good := pz_in (List.mem_of_getElem? (i := 1475) (by decide +kernel)) rfl
theorem wq_1477 : (Jvm.Cond.methodLink "SourcewrightLaw" (187 : Nat) ({ cls := "SourcewrightLaw", name := "functionOf", desc := "(LSourcewright;I[J)I" } : Jvm.MethodName)) ∈ lw_good := pz_in (List.mem_of_getElem? (i := 1477) (by decide +kernel)) rfl
theorem wq_1478 : (Jvm.Cond.static ({ cls := "SourcewrightLaw", name := "functionOf", desc := "(LSourcewright;I[J)I" } : Jvm.MethodName)) ∈ lw_good := pz_in (List.mem_of_getElem? (i := 1478) (by decide +kernel)) rfl
theorem wq_1479 : (Jvm.Cond.codeWith ({ cls := "SourcewrightLaw", name := "functionOf", desc := "(LSourcewright;I[J)I" } : Jvm.MethodName) method_11_code (4 : Nat) (Option.some Jvm.ClassFile.FieldType.int) [((0 : Nat), (9 : Nat), (12 : Nat), (21 : Nat)), ((0 : Nat), (9 : Nat), (15 : Nat), (48 : Nat))]) ∈ lw_good := pz_in (List.mem_of_getElem? (i := 1479) (by decide +kernel)) rfl
theorem wq_1480 : (Jvm.Cond.classLink "SourcewrightLaw" (48 : Nat) "java/util/NoSuchElementException") ∈ lw_good := pz_in (List.mem_of_getElem? (i := 1480) (by decide +kernel)) rfl
theorem wq_1481 : (Jvm.Cond.methodLink "SourcewrightLaw" (45 : Nat) ({ cls := "Sourcewright", name := "functionOf", desc := "(I)I" } : Jvm.MethodName)) ∈ lw_good := pz_in (List.mem_of_getElem? (i := 1481) (by decide +kernel)) rfl
theorem wq_1482 : (Jvm.Cond.instanceMethod ({ cls := "Sourcewright", name := "functionOf", desc := "(I)I" } : Jvm.MethodName)) ∈ lw_good := pz_in (List.mem_of_getElem? (i := 1482) (by decide +kernel)) rfl
theorem wq_1483 : (Jvm.Cond.selects "Sourcewright" ({ cls := "Sourcewright", name := "functionOf", desc := "(I)I" } : Jvm.MethodName) ({ cls := "Sourcewright", name := "functionOf", desc := "(I)I" } : Jvm.MethodName)) ∈ lw_good := pz_in (List.mem_of_getElem? (i := 1483) (by decide +kernel)) rfl
theorem wq_1484 : (Jvm.Cond.code ({ cls := "Sourcewright", name := "functionOf", desc := "(I)I" } : Jvm.MethodName) prog_1_method_13_code (3 : Nat) (Option.some Jvm.ClassFile.FieldType.int)) ∈ lw_good := pz_in (List.mem_of_getElem? (i := 1484) (by decide +kernel)) rfl
theorem wq_1486 : (Jvm.Cond.classLink "Sourcewright" (191 : Nat) "java/util/NoSuchElementException") ∈ lw_good := pz_in (List.mem_of_getElem? (i := 1486) (by decide +kernel)) rfl
theorem wq_1502 : (Jvm.Cond.methodLink "SourcewrightLaw" (190 : Nat) ({ cls := "SourcewrightLaw", name := "sharers", desc := "(LSourcewright;I[J)I" } : Jvm.MethodName)) ∈ lw_good := pz_in (List.mem_of_getElem? (i := 1502) (by decide +kernel)) rfl
theorem wq_1503 : (Jvm.Cond.static ({ cls := "SourcewrightLaw", name := "sharers", desc := "(LSourcewright;I[J)I" } : Jvm.MethodName)) ∈ lw_good := pz_in (List.mem_of_getElem? (i := 1503) (by decide +kernel)) rfl
theorem wq_1504 : (Jvm.Cond.codeWith ({ cls := "SourcewrightLaw", name := "sharers", desc := "(LSourcewright;I[J)I" } : Jvm.MethodName) method_12_code (4 : Nat) (Option.some Jvm.ClassFile.FieldType.int) [((0 : Nat), (9 : Nat), (12 : Nat), (21 : Nat))]) ∈ lw_good := pz_in (List.mem_of_getElem? (i := 1504) (by decide +kernel)) rfl
theorem wq_1505 : (Jvm.Cond.methodLink "SourcewrightLaw" (50 : Nat) ({ cls := "Sourcewright", name := "sharers", desc := "(I)I" } : Jvm.MethodName)) ∈ lw_good := pz_in (List.mem_of_getElem? (i := 1505) (by decide +kernel)) rfl
theorem wq_1506 : (Jvm.Cond.instanceMethod ({ cls := "Sourcewright", name := "sharers", desc := "(I)I" } : Jvm.MethodName)) ∈ lw_good := pz_in (List.mem_of_getElem? (i := 1506) (by decide +kernel)) rfl
theorem wq_1507 : (Jvm.Cond.selects "Sourcewright" ({ cls := "Sourcewright", name := "sharers", desc := "(I)I" } : Jvm.MethodName) ({ cls := "Sourcewright", name := "sharers", desc := "(I)I" } : Jvm.MethodName)) ∈ lw_good := pz_in (List.mem_of_getElem? (i := 1507) (by decide +kernel)) rfl
theorem wq_1508 : (Jvm.Cond.code ({ cls := "Sourcewright", name := "sharers", desc := "(I)I" } : Jvm.MethodName) prog_1_method_14_code (4 : Nat) (Option.some Jvm.ClassFile.FieldType.int)) ∈ lw_good := pz_in (List.mem_of_getElem? (i := 1508) (by decide +kernel)) rfl
theorem wq_1509 : (Jvm.Cond.methodLink "SourcewrightLaw" (193 : Nat) ({ cls := "SourcewrightLaw", name := "mayReturn", desc := "(LSourcewright;I[J)I" } : Jvm.MethodName)) ∈ lw_good := pz_in (List.mem_of_getElem? (i := 1509) (by decide +kernel)) rfl
theorem wq_1510 : (Jvm.Cond.static ({ cls := "SourcewrightLaw", name := "mayReturn", desc := "(LSourcewright;I[J)I" } : Jvm.MethodName)) ∈ lw_good := pz_in (List.mem_of_getElem? (i := 1510) (by decide +kernel)) rfl
theorem wq_1511 : (Jvm.Cond.codeWith ({ cls := "SourcewrightLaw", name := "mayReturn", desc := "(LSourcewright;I[J)I" } : Jvm.MethodName) method_13_code (4 : Nat) (Option.some Jvm.ClassFile.FieldType.int) [((0 : Nat), (16 : Nat), (19 : Nat), (21 : Nat))]) ∈ lw_good := pz_in (List.mem_of_getElem? (i := 1511) (by decide +kernel)) rfl
theorem wq_1512 : (Jvm.Cond.methodLink "SourcewrightLaw" (53 : Nat) ({ cls := "Sourcewright", name := "mayReturn", desc := "(I)Z" } : Jvm.MethodName)) ∈ lw_good := pz_in (List.mem_of_getElem? (i := 1512) (by decide +kernel)) rfl
theorem wq_1513 : (Jvm.Cond.instanceMethod ({ cls := "Sourcewright", name := "mayReturn", desc := "(I)Z" } : Jvm.MethodName)) ∈ lw_good := pz_in (List.mem_of_getElem? (i := 1513) (by decide +kernel)) rfl
theorem wq_1514 : (Jvm.Cond.selects "Sourcewright" ({ cls := "Sourcewright", name := "mayReturn", desc := "(I)Z" } : Jvm.MethodName) ({ cls := "Sourcewright", name := "mayReturn", desc := "(I)Z" } : Jvm.MethodName)) ∈ lw_good := pz_in (List.mem_of_getElem? (i := 1514) (by decide +kernel)) rfl
theorem wq_1515 : (Jvm.Cond.code ({ cls := "Sourcewright", name := "mayReturn", desc := "(I)Z" } : Jvm.MethodName) prog_1_method_15_code (2 : Nat) (Option.some Jvm.ClassFile.FieldType.boolean)) ∈ lw_good := pz_in (List.mem_of_getElem? (i := 1515) (by decide +kernel)) rfl
theorem wq_1517 : (Jvm.Cond.methodLink "SourcewrightLaw" (196 : Nat) ({ cls := "SourcewrightLaw", name := "calls", desc := "(LSourcewright;II[J)I" } : Jvm.MethodName)) ∈ lw_good := pz_in (List.mem_of_getElem? (i := 1517) (by decide +kernel)) rfl
theorem wq_1518 : (Jvm.Cond.static ({ cls := "SourcewrightLaw", name := "calls", desc := "(LSourcewright;II[J)I" } : Jvm.MethodName)) ∈ lw_good := pz_in (List.mem_of_getElem? (i := 1518) (by decide +kernel)) rfl
theorem wq_1519 : (Jvm.Cond.codeWith ({ cls := "SourcewrightLaw", name := "calls", desc := "(LSourcewright;II[J)I" } : Jvm.MethodName) method_14_code (5 : Nat) (Option.some Jvm.ClassFile.FieldType.int) [((0 : Nat), (10 : Nat), (13 : Nat), (21 : Nat))]) ∈ lw_good := pz_in (List.mem_of_getElem? (i := 1519) (by decide +kernel)) rfl
theorem wq_1520 : (Jvm.Cond.methodLink "SourcewrightLaw" (56 : Nat) ({ cls := "Sourcewright", name := "calls", desc := "(II)I" } : Jvm.MethodName)) ∈ lw_good := pz_in (List.mem_of_getElem? (i := 1520) (by decide +kernel)) rfl
theorem wq_1521 : (Jvm.Cond.instanceMethod ({ cls := "Sourcewright", name := "calls", desc := "(II)I" } : Jvm.MethodName)) ∈ lw_good := pz_in (List.mem_of_getElem? (i := 1521) (by decide +kernel)) rfl
theorem wq_1522 : (Jvm.Cond.selects "Sourcewright" ({ cls := "Sourcewright", name := "calls", desc := "(II)I" } : Jvm.MethodName) ({ cls := "Sourcewright", name := "calls", desc := "(II)I" } : Jvm.MethodName)) ∈ lw_good := pz_in (List.mem_of_getElem? (i := 1522) (by decide +kernel)) rfl
theorem wq_1523 : (Jvm.Cond.code ({ cls := "Sourcewright", name := "calls", desc := "(II)I" } : Jvm.MethodName) prog_1_method_16_code (6 : Nat) (Option.some Jvm.ClassFile.FieldType.int)) ∈ lw_good := pz_in (List.mem_of_getElem? (i := 1523) (by decide +kernel)) rfl
theorem wq_1524 : (Jvm.Cond.methodLink "SourcewrightLaw" (199 : Nat) ({ cls := "SourcewrightLaw", name := "blocks", desc := "(LSourcewright;I[J)I" } : Jvm.MethodName)) ∈ lw_good := pz_in (List.mem_of_getElem? (i := 1524) (by decide +kernel)) rfl
theorem wq_1525 : (Jvm.Cond.static ({ cls := "SourcewrightLaw", name := "blocks", desc := "(LSourcewright;I[J)I" } : Jvm.MethodName)) ∈ lw_good := pz_in (List.mem_of_getElem? (i := 1525) (by decide +kernel)) rfl
theorem wq_1526 : (Jvm.Cond.codeWith ({ cls := "SourcewrightLaw", name := "blocks", desc := "(LSourcewright;I[J)I" } : Jvm.MethodName) method_15_code (4 : Nat) (Option.some Jvm.ClassFile.FieldType.int) [((0 : Nat), (9 : Nat), (12 : Nat), (21 : Nat))]) ∈ lw_good := pz_in (List.mem_of_getElem? (i := 1526) (by decide +kernel)) rfl
theorem wq_1527 : (Jvm.Cond.methodLink "SourcewrightLaw" (59 : Nat) ({ cls := "Sourcewright", name := "blocks", desc := "(I)I" } : Jvm.MethodName)) ∈ lw_good := pz_in (List.mem_of_getElem? (i := 1527) (by decide +kernel)) rfl
theorem wq_1528 : (Jvm.Cond.instanceMethod ({ cls := "Sourcewright", name := "blocks", desc := "(I)I" } : Jvm.MethodName)) ∈ lw_good := pz_in (List.mem_of_getElem? (i := 1528) (by decide +kernel)) rfl
theorem wq_1529 : (Jvm.Cond.selects "Sourcewright" ({ cls := "Sourcewright", name := "blocks", desc := "(I)I" } : Jvm.MethodName) ({ cls := "Sourcewright", name := "blocks", desc := "(I)I" } : Jvm.MethodName)) ∈ lw_good := pz_in (List.mem_of_getElem? (i := 1529) (by decide +kernel)) rfl
theorem wq_1530 : (Jvm.Cond.code ({ cls := "Sourcewright", name := "blocks", desc := "(I)I" } : Jvm.MethodName) prog_1_method_17_code (2 : Nat) (Option.some Jvm.ClassFile.FieldType.int)) ∈ lw_good := pz_in (List.mem_of_getElem? (i := 1530) (by decide +kernel)) rfl
theorem wq_1532 : (Jvm.Cond.methodLink "SourcewrightLaw" (202 : Nat) ({ cls := "SourcewrightLaw", name := "first", desc := "(LSourcewright;II[J)I" } : Jvm.MethodName)) ∈ lw_good := pz_in (List.mem_of_getElem? (i := 1532) (by decide +kernel)) rfl
theorem wq_1533 : (Jvm.Cond.static ({ cls := "SourcewrightLaw", name := "first", desc := "(LSourcewright;II[J)I" } : Jvm.MethodName)) ∈ lw_good := pz_in (List.mem_of_getElem? (i := 1533) (by decide +kernel)) rfl
theorem wq_1534 : (Jvm.Cond.codeWith ({ cls := "SourcewrightLaw", name := "first", desc := "(LSourcewright;II[J)I" } : Jvm.MethodName) method_16_code (5 : Nat) (Option.some Jvm.ClassFile.FieldType.int) [((0 : Nat), (10 : Nat), (13 : Nat), (21 : Nat))]) ∈ lw_good := pz_in (List.mem_of_getElem? (i := 1534) (by decide +kernel)) rfl
theorem wq_1535 : (Jvm.Cond.methodLink "SourcewrightLaw" (62 : Nat) ({ cls := "Sourcewright", name := "first", desc := "(II)I" } : Jvm.MethodName)) ∈ lw_good := pz_in (List.mem_of_getElem? (i := 1535) (by decide +kernel)) rfl
theorem wq_1536 : (Jvm.Cond.instanceMethod ({ cls := "Sourcewright", name := "first", desc := "(II)I" } : Jvm.MethodName)) ∈ lw_good := pz_in (List.mem_of_getElem? (i := 1536) (by decide +kernel)) rfl
theorem wq_1537 : (Jvm.Cond.selects "Sourcewright" ({ cls := "Sourcewright", name := "first", desc := "(II)I" } : Jvm.MethodName) ({ cls := "Sourcewright", name := "first", desc := "(II)I" } : Jvm.MethodName)) ∈ lw_good := pz_in (List.mem_of_getElem? (i := 1537) (by decide +kernel)) rfl
theorem wq_1538 : (Jvm.Cond.code ({ cls := "Sourcewright", name := "first", desc := "(II)I" } : Jvm.MethodName) prog_1_method_18_code (3 : Nat) (Option.some Jvm.ClassFile.FieldType.int)) ∈ lw_good := pz_in (List.mem_of_getElem? (i := 1538) (by decide +kernel)) rfl
theorem wq_1539 : (Jvm.Cond.methodLink "Sourcewright" (203 : Nat) ({ cls := "Sourcewright", name := "checkBlock", desc := "(II)V" } : Jvm.MethodName)) ∈ lw_good := pz_in (List.mem_of_getElem? (i := 1539) (by decide +kernel)) rfl
theorem wq_1541 : (Jvm.Cond.instanceMethod ({ cls := "Sourcewright", name := "checkBlock", desc := "(II)V" } : Jvm.MethodName)) ∈ lw_good := pz_in (List.mem_of_getElem? (i := 1541) (by decide +kernel)) rfl
theorem wq_1542 : (Jvm.Cond.code ({ cls := "Sourcewright", name := "checkBlock", desc := "(II)V" } : Jvm.MethodName) prog_1_method_52_code (3 : Nat) (Option.none : Option Jvm.ClassFile.FieldType)) ∈ lw_good := pz_in (List.mem_of_getElem? (i := 1542) (by decide +kernel)) rfl
theorem wq_1549 : (Jvm.Cond.methodLink "SourcewrightLaw" (205 : Nat) ({ cls := "SourcewrightLaw", name := "size", desc := "(LSourcewright;II[J)I" } : Jvm.MethodName)) ∈ lw_good := pz_in (List.mem_of_getElem? (i := 1549) (by decide +kernel)) rfl
theorem wq_1550 : (Jvm.Cond.static ({ cls := "SourcewrightLaw", name := "size", desc := "(LSourcewright;II[J)I" } : Jvm.MethodName)) ∈ lw_good := pz_in (List.mem_of_getElem? (i := 1550) (by decide +kernel)) rfl
theorem wq_1551 : (Jvm.Cond.codeWith ({ cls := "SourcewrightLaw", name := "size", desc := "(LSourcewright;II[J)I" } : Jvm.MethodName) method_17_code (5 : Nat) (Option.some Jvm.ClassFile.FieldType.int) [((0 : Nat), (10 : Nat), (13 : Nat), (21 : Nat))]) ∈ lw_good := pz_in (List.mem_of_getElem? (i := 1551) (by decide +kernel)) rfl
theorem wq_1552 : (Jvm.Cond.methodLink "SourcewrightLaw" (65 : Nat) ({ cls := "Sourcewright", name := "size", desc := "(II)I" } : Jvm.MethodName)) ∈ lw_good := pz_in (List.mem_of_getElem? (i := 1552) (by decide +kernel)) rfl
theorem wq_1553 : (Jvm.Cond.instanceMethod ({ cls := "Sourcewright", name := "size", desc := "(II)I" } : Jvm.MethodName)) ∈ lw_good := pz_in (List.mem_of_getElem? (i := 1553) (by decide +kernel)) rfl
theorem wq_1554 : (Jvm.Cond.selects "Sourcewright" ({ cls := "Sourcewright", name := "size", desc := "(II)I" } : Jvm.MethodName) ({ cls := "Sourcewright", name := "size", desc := "(II)I" } : Jvm.MethodName)) ∈ lw_good := pz_in (List.mem_of_getElem? (i := 1554) (by decide +kernel)) rfl
theorem wq_1555 : (Jvm.Cond.code ({ cls := "Sourcewright", name := "size", desc := "(II)I" } : Jvm.MethodName) prog_1_method_19_code (3 : Nat) (Option.some Jvm.ClassFile.FieldType.int)) ∈ lw_good := pz_in (List.mem_of_getElem? (i := 1555) (by decide +kernel)) rfl
theorem wq_1557 : (Jvm.Cond.methodLink "SourcewrightLaw" (208 : Nat) ({ cls := "SourcewrightLaw", name := "nexts", desc := "(LSourcewright;II[J)I" } : Jvm.MethodName)) ∈ lw_good := pz_in (List.mem_of_getElem? (i := 1557) (by decide +kernel)) rfl
theorem wq_1558 : (Jvm.Cond.static ({ cls := "SourcewrightLaw", name := "nexts", desc := "(LSourcewright;II[J)I" } : Jvm.MethodName)) ∈ lw_good := pz_in (List.mem_of_getElem? (i := 1558) (by decide +kernel)) rfl
theorem wq_1559 : (Jvm.Cond.codeWith ({ cls := "SourcewrightLaw", name := "nexts", desc := "(LSourcewright;II[J)I" } : Jvm.MethodName) method_18_code (5 : Nat) (Option.some Jvm.ClassFile.FieldType.int) [((0 : Nat), (10 : Nat), (13 : Nat), (21 : Nat))]) ∈ lw_good := pz_in (List.mem_of_getElem? (i := 1559) (by decide +kernel)) rfl
theorem wq_1560 : (Jvm.Cond.methodLink "SourcewrightLaw" (68 : Nat) ({ cls := "Sourcewright", name := "nexts", desc := "(II)I" } : Jvm.MethodName)) ∈ lw_good := pz_in (List.mem_of_getElem? (i := 1560) (by decide +kernel)) rfl
theorem wq_1561 : (Jvm.Cond.instanceMethod ({ cls := "Sourcewright", name := "nexts", desc := "(II)I" } : Jvm.MethodName)) ∈ lw_good := pz_in (List.mem_of_getElem? (i := 1561) (by decide +kernel)) rfl
theorem wq_1562 : (Jvm.Cond.selects "Sourcewright" ({ cls := "Sourcewright", name := "nexts", desc := "(II)I" } : Jvm.MethodName) ({ cls := "Sourcewright", name := "nexts", desc := "(II)I" } : Jvm.MethodName)) ∈ lw_good := pz_in (List.mem_of_getElem? (i := 1562) (by decide +kernel)) rfl
theorem wq_1563 : (Jvm.Cond.code ({ cls := "Sourcewright", name := "nexts", desc := "(II)I" } : Jvm.MethodName) prog_1_method_20_code (3 : Nat) (Option.some Jvm.ClassFile.FieldType.int)) ∈ lw_good := pz_in (List.mem_of_getElem? (i := 1563) (by decide +kernel)) rfl
theorem wq_1565 : (Jvm.Cond.methodLink "SourcewrightLaw" (211 : Nat) ({ cls := "SourcewrightLaw", name := "next", desc := "(LSourcewright;III[J)I" } : Jvm.MethodName)) ∈ lw_good := pz_in (List.mem_of_getElem? (i := 1565) (by decide +kernel)) rfl
theorem wq_1566 : (Jvm.Cond.static ({ cls := "SourcewrightLaw", name := "next", desc := "(LSourcewright;III[J)I" } : Jvm.MethodName)) ∈ lw_good := pz_in (List.mem_of_getElem? (i := 1566) (by decide +kernel)) rfl
theorem wq_1567 : (Jvm.Cond.codeWith ({ cls := "SourcewrightLaw", name := "next", desc := "(LSourcewright;III[J)I" } : Jvm.MethodName) method_19_code (6 : Nat) (Option.some Jvm.ClassFile.FieldType.int) [((0 : Nat), (12 : Nat), (15 : Nat), (21 : Nat)), ((0 : Nat), (12 : Nat), (19 : Nat), (48 : Nat))]) ∈ lw_good := pz_in (List.mem_of_getElem? (i := 1567) (by decide +kernel)) rfl
theorem wq_1568 : (Jvm.Cond.methodLink "SourcewrightLaw" (71 : Nat) ({ cls := "Sourcewright", name := "next", desc := "(III)I" } : Jvm.MethodName)) ∈ lw_good := pz_in (List.mem_of_getElem? (i := 1568) (by decide +kernel)) rfl
theorem wq_1569 : (Jvm.Cond.instanceMethod ({ cls := "Sourcewright", name := "next", desc := "(III)I" } : Jvm.MethodName)) ∈ lw_good := pz_in (List.mem_of_getElem? (i := 1569) (by decide +kernel)) rfl
theorem wq_1570 : (Jvm.Cond.selects "Sourcewright" ({ cls := "Sourcewright", name := "next", desc := "(III)I" } : Jvm.MethodName) ({ cls := "Sourcewright", name := "next", desc := "(III)I" } : Jvm.MethodName)) ∈ lw_good := pz_in (List.mem_of_getElem? (i := 1570) (by decide +kernel)) rfl
theorem wq_1571 : (Jvm.Cond.code ({ cls := "Sourcewright", name := "next", desc := "(III)I" } : Jvm.MethodName) prog_1_method_21_code (4 : Nat) (Option.some Jvm.ClassFile.FieldType.int)) ∈ lw_good := pz_in (List.mem_of_getElem? (i := 1571) (by decide +kernel)) rfl
theorem wq_1574 : (Jvm.Cond.methodLink "SourcewrightLaw" (215 : Nat) ({ cls := "SourcewrightLaw", name := "nearest", desc := "(LSourcewright;II[J)I" } : Jvm.MethodName)) ∈ lw_good := pz_in (List.mem_of_getElem? (i := 1574) (by decide +kernel)) rfl
theorem wq_1575 : (Jvm.Cond.static ({ cls := "SourcewrightLaw", name := "nearest", desc := "(LSourcewright;II[J)I" } : Jvm.MethodName)) ∈ lw_good := pz_in (List.mem_of_getElem? (i := 1575) (by decide +kernel)) rfl
theorem wq_1576 : (Jvm.Cond.codeWith ({ cls := "SourcewrightLaw", name := "nearest", desc := "(LSourcewright;II[J)I" } : Jvm.MethodName) method_20_code (5 : Nat) (Option.some Jvm.ClassFile.FieldType.int) [((0 : Nat), (10 : Nat), (13 : Nat), (21 : Nat)), ((0 : Nat), (10 : Nat), (17 : Nat), (48 : Nat))]) ∈ lw_good := pz_in (List.mem_of_getElem? (i := 1576) (by decide +kernel)) rfl
theorem wq_1577 : (Jvm.Cond.methodLink "SourcewrightLaw" (75 : Nat) ({ cls := "Sourcewright", name := "nearest", desc := "(II)I" } : Jvm.MethodName)) ∈ lw_good := pz_in (List.mem_of_getElem? (i := 1577) (by decide +kernel)) rfl
theorem wq_1578 : (Jvm.Cond.instanceMethod ({ cls := "Sourcewright", name := "nearest", desc := "(II)I" } : Jvm.MethodName)) ∈ lw_good := pz_in (List.mem_of_getElem? (i := 1578) (by decide +kernel)) rfl
theorem wq_1579 : (Jvm.Cond.selects "Sourcewright" ({ cls := "Sourcewright", name := "nearest", desc := "(II)I" } : Jvm.MethodName) ({ cls := "Sourcewright", name := "nearest", desc := "(II)I" } : Jvm.MethodName)) ∈ lw_good := pz_in (List.mem_of_getElem? (i := 1579) (by decide +kernel)) rfl
theorem wq_1580 : (Jvm.Cond.code ({ cls := "Sourcewright", name := "nearest", desc := "(II)I" } : Jvm.MethodName) prog_1_method_22_code (3 : Nat) (Option.some Jvm.ClassFile.FieldType.int)) ∈ lw_good := pz_in (List.mem_of_getElem? (i := 1580) (by decide +kernel)) rfl
theorem wq_1584 : (Jvm.Cond.methodLink "SourcewrightLaw" (218 : Nat) ({ cls := "SourcewrightLaw", name := "order", desc := "(LSourcewright;II[J)I" } : Jvm.MethodName)) ∈ lw_good := pz_in (List.mem_of_getElem? (i := 1584) (by decide +kernel)) rfl
theorem wq_1585 : (Jvm.Cond.static ({ cls := "SourcewrightLaw", name := "order", desc := "(LSourcewright;II[J)I" } : Jvm.MethodName)) ∈ lw_good := pz_in (List.mem_of_getElem? (i := 1585) (by decide +kernel)) rfl
theorem wq_1586 : (Jvm.Cond.codeWith ({ cls := "SourcewrightLaw", name := "order", desc := "(LSourcewright;II[J)I" } : Jvm.MethodName) method_21_code (5 : Nat) (Option.some Jvm.ClassFile.FieldType.int) [((0 : Nat), (10 : Nat), (13 : Nat), (21 : Nat))]) ∈ lw_good := pz_in (List.mem_of_getElem? (i := 1586) (by decide +kernel)) rfl
theorem wq_1587 : (Jvm.Cond.methodLink "SourcewrightLaw" (78 : Nat) ({ cls := "Sourcewright", name := "order", desc := "(II)I" } : Jvm.MethodName)) ∈ lw_good := pz_in (List.mem_of_getElem? (i := 1587) (by decide +kernel)) rfl
theorem wq_1588 : (Jvm.Cond.instanceMethod ({ cls := "Sourcewright", name := "order", desc := "(II)I" } : Jvm.MethodName)) ∈ lw_good := pz_in (List.mem_of_getElem? (i := 1588) (by decide +kernel)) rfl
theorem wq_1589 : (Jvm.Cond.selects "Sourcewright" ({ cls := "Sourcewright", name := "order", desc := "(II)I" } : Jvm.MethodName) ({ cls := "Sourcewright", name := "order", desc := "(II)I" } : Jvm.MethodName)) ∈ lw_good := pz_in (List.mem_of_getElem? (i := 1589) (by decide +kernel)) rfl
theorem wq_1590 : (Jvm.Cond.code ({ cls := "Sourcewright", name := "order", desc := "(II)I" } : Jvm.MethodName) prog_1_method_23_code (3 : Nat) (Option.some Jvm.ClassFile.FieldType.int)) ∈ lw_good := pz_in (List.mem_of_getElem? (i := 1590) (by decide +kernel)) rfl
theorem wq_1595 : (Jvm.Cond.methodLink "SourcewrightLaw" (221 : Nat) ({ cls := "SourcewrightLaw", name := "isHead", desc := "(LSourcewright;II[J)I" } : Jvm.MethodName)) ∈ lw_good := pz_in (List.mem_of_getElem? (i := 1595) (by decide +kernel)) rfl
theorem wq_1596 : (Jvm.Cond.static ({ cls := "SourcewrightLaw", name := "isHead", desc := "(LSourcewright;II[J)I" } : Jvm.MethodName)) ∈ lw_good := pz_in (List.mem_of_getElem? (i := 1596) (by decide +kernel)) rfl
theorem wq_1597 : (Jvm.Cond.codeWith ({ cls := "SourcewrightLaw", name := "isHead", desc := "(LSourcewright;II[J)I" } : Jvm.MethodName) method_22_code (5 : Nat) (Option.some Jvm.ClassFile.FieldType.int) [((0 : Nat), (17 : Nat), (20 : Nat), (21 : Nat))]) ∈ lw_good := pz_in (List.mem_of_getElem? (i := 1597) (by decide +kernel)) rfl
theorem wq_1598 : (Jvm.Cond.methodLink "SourcewrightLaw" (81 : Nat) ({ cls := "Sourcewright", name := "isHead", desc := "(II)Z" } : Jvm.MethodName)) ∈ lw_good := pz_in (List.mem_of_getElem? (i := 1598) (by decide +kernel)) rfl
theorem wq_1599 : (Jvm.Cond.instanceMethod ({ cls := "Sourcewright", name := "isHead", desc := "(II)Z" } : Jvm.MethodName)) ∈ lw_good := pz_in (List.mem_of_getElem? (i := 1599) (by decide +kernel)) rfl
theorem wq_1600 : (Jvm.Cond.selects "Sourcewright" ({ cls := "Sourcewright", name := "isHead", desc := "(II)Z" } : Jvm.MethodName) ({ cls := "Sourcewright", name := "isHead", desc := "(II)Z" } : Jvm.MethodName)) ∈ lw_good := pz_in (List.mem_of_getElem? (i := 1600) (by decide +kernel)) rfl
theorem wq_1601 : (Jvm.Cond.code ({ cls := "Sourcewright", name := "isHead", desc := "(II)Z" } : Jvm.MethodName) prog_1_method_24_code (3 : Nat) (Option.some Jvm.ClassFile.FieldType.boolean)) ∈ lw_good := pz_in (List.mem_of_getElem? (i := 1601) (by decide +kernel)) rfl
theorem wq_1603 : (Jvm.Cond.methodLink "SourcewrightLaw" (224 : Nat) ({ cls := "SourcewrightLaw", name := "depth", desc := "(LSourcewright;II[J)I" } : Jvm.MethodName)) ∈ lw_good := pz_in (List.mem_of_getElem? (i := 1603) (by decide +kernel)) rfl
theorem wq_1604 : (Jvm.Cond.static ({ cls := "SourcewrightLaw", name := "depth", desc := "(LSourcewright;II[J)I" } : Jvm.MethodName)) ∈ lw_good := pz_in (List.mem_of_getElem? (i := 1604) (by decide +kernel)) rfl
theorem wq_1605 : (Jvm.Cond.codeWith ({ cls := "SourcewrightLaw", name := "depth", desc := "(LSourcewright;II[J)I" } : Jvm.MethodName) method_23_code (5 : Nat) (Option.some Jvm.ClassFile.FieldType.int) [((0 : Nat), (10 : Nat), (13 : Nat), (21 : Nat))]) ∈ lw_good := pz_in (List.mem_of_getElem? (i := 1605) (by decide +kernel)) rfl
theorem wq_1606 : (Jvm.Cond.methodLink "SourcewrightLaw" (85 : Nat) ({ cls := "Sourcewright", name := "depth", desc := "(II)I" } : Jvm.MethodName)) ∈ lw_good := pz_in (List.mem_of_getElem? (i := 1606) (by decide +kernel)) rfl
theorem wq_1607 : (Jvm.Cond.instanceMethod ({ cls := "Sourcewright", name := "depth", desc := "(II)I" } : Jvm.MethodName)) ∈ lw_good := pz_in (List.mem_of_getElem? (i := 1607) (by decide +kernel)) rfl
theorem wq_1608 : (Jvm.Cond.selects "Sourcewright" ({ cls := "Sourcewright", name := "depth", desc := "(II)I" } : Jvm.MethodName) ({ cls := "Sourcewright", name := "depth", desc := "(II)I" } : Jvm.MethodName)) ∈ lw_good := pz_in (List.mem_of_getElem? (i := 1608) (by decide +kernel)) rfl
theorem wq_1609 : (Jvm.Cond.code ({ cls := "Sourcewright", name := "depth", desc := "(II)I" } : Jvm.MethodName) prog_1_method_25_code (3 : Nat) (Option.some Jvm.ClassFile.FieldType.int)) ∈ lw_good := pz_in (List.mem_of_getElem? (i := 1609) (by decide +kernel)) rfl
theorem wq_1614 : (Jvm.Cond.methodLink "SourcewrightLaw" (227 : Nat) ({ cls := "SourcewrightLaw", name := "isMeeting", desc := "(LSourcewright;II[J)I" } : Jvm.MethodName)) ∈ lw_good := pz_in (List.mem_of_getElem? (i := 1614) (by decide +kernel)) rfl
theorem wq_1615 : (Jvm.Cond.static ({ cls := "SourcewrightLaw", name := "isMeeting", desc := "(LSourcewright;II[J)I" } : Jvm.MethodName)) ∈ lw_good := pz_in (List.mem_of_getElem? (i := 1615) (by decide +kernel)) rfl
theorem wq_1616 : (Jvm.Cond.codeWith ({ cls := "SourcewrightLaw", name := "isMeeting", desc := "(LSourcewright;II[J)I" } : Jvm.MethodName) method_24_code (5 : Nat) (Option.some Jvm.ClassFile.FieldType.int) [((0 : Nat), (17 : Nat), (20 : Nat), (21 : Nat))]) ∈ lw_good := pz_in (List.mem_of_getElem? (i := 1616) (by decide +kernel)) rfl
theorem wq_1617 : (Jvm.Cond.methodLink "SourcewrightLaw" (88 : Nat) ({ cls := "Sourcewright", name := "isMeeting", desc := "(II)Z" } : Jvm.MethodName)) ∈ lw_good := pz_in (List.mem_of_getElem? (i := 1617) (by decide +kernel)) rfl
theorem wq_1618 : (Jvm.Cond.instanceMethod ({ cls := "Sourcewright", name := "isMeeting", desc := "(II)Z" } : Jvm.MethodName)) ∈ lw_good := pz_in (List.mem_of_getElem? (i := 1618) (by decide +kernel)) rfl
theorem wq_1619 : (Jvm.Cond.selects "Sourcewright" ({ cls := "Sourcewright", name := "isMeeting", desc := "(II)Z" } : Jvm.MethodName) ({ cls := "Sourcewright", name := "isMeeting", desc := "(II)Z" } : Jvm.MethodName)) ∈ lw_good := pz_in (List.mem_of_getElem? (i := 1619) (by decide +kernel)) rfl
theorem wq_1620 : (Jvm.Cond.code ({ cls := "Sourcewright", name := "isMeeting", desc := "(II)Z" } : Jvm.MethodName) prog_1_method_26_code (3 : Nat) (Option.some Jvm.ClassFile.FieldType.boolean)) ∈ lw_good := pz_in (List.mem_of_getElem? (i := 1620) (by decide +kernel)) rfl
theorem wq_1622 : (Jvm.Cond.methodLink "SourcewrightLaw" (230 : Nat) ({ cls := "SourcewrightLaw", name := "leaps", desc := "(LSourcewright;I[J)I" } : Jvm.MethodName)) ∈ lw_good := pz_in (List.mem_of_getElem? (i := 1622) (by decide +kernel)) rfl
theorem wq_1623 : (Jvm.Cond.static ({ cls := "SourcewrightLaw", name := "leaps", desc := "(LSourcewright;I[J)I" } : Jvm.MethodName)) ∈ lw_good := pz_in (List.mem_of_getElem? (i := 1623) (by decide +kernel)) rfl
theorem wq_1624 : (Jvm.Cond.codeWith ({ cls := "SourcewrightLaw", name := "leaps", desc := "(LSourcewright;I[J)I" } : Jvm.MethodName) method_25_code (4 : Nat) (Option.some Jvm.ClassFile.FieldType.int) [((0 : Nat), (9 : Nat), (12 : Nat), (21 : Nat))]) ∈ lw_good := pz_in (List.mem_of_getElem? (i := 1624) (by decide +kernel)) rfl
theorem wq_1625 : (Jvm.Cond.methodLink "SourcewrightLaw" (91 : Nat) ({ cls := "Sourcewright", name := "leaps", desc := "(I)I" } : Jvm.MethodName)) ∈ lw_good := pz_in (List.mem_of_getElem? (i := 1625) (by decide +kernel)) rfl
theorem wq_1626 : (Jvm.Cond.instanceMethod ({ cls := "Sourcewright", name := "leaps", desc := "(I)I" } : Jvm.MethodName)) ∈ lw_good := pz_in (List.mem_of_getElem? (i := 1626) (by decide +kernel)) rfl
theorem wq_1627 : (Jvm.Cond.selects "Sourcewright" ({ cls := "Sourcewright", name := "leaps", desc := "(I)I" } : Jvm.MethodName) ({ cls := "Sourcewright", name := "leaps", desc := "(I)I" } : Jvm.MethodName)) ∈ lw_good := pz_in (List.mem_of_getElem? (i := 1627) (by decide +kernel)) rfl
theorem wq_1628 : (Jvm.Cond.code ({ cls := "Sourcewright", name := "leaps", desc := "(I)I" } : Jvm.MethodName) prog_1_method_27_code (2 : Nat) (Option.some Jvm.ClassFile.FieldType.int)) ∈ lw_good := pz_in (List.mem_of_getElem? (i := 1628) (by decide +kernel)) rfl
theorem wq_1633 : (Jvm.Cond.methodLink "SourcewrightLaw" (233 : Nat) ({ cls := "SourcewrightLaw", name := "live", desc := "(LSourcewright;II[J)I" } : Jvm.MethodName)) ∈ lw_good := pz_in (List.mem_of_getElem? (i := 1633) (by decide +kernel)) rfl
theorem wq_1634 : (Jvm.Cond.static ({ cls := "SourcewrightLaw", name := "live", desc := "(LSourcewright;II[J)I" } : Jvm.MethodName)) ∈ lw_good := pz_in (List.mem_of_getElem? (i := 1634) (by decide +kernel)) rfl
theorem wq_1635 : (Jvm.Cond.codeWith ({ cls := "SourcewrightLaw", name := "live", desc := "(LSourcewright;II[J)I" } : Jvm.MethodName) method_26_code (5 : Nat) (Option.some Jvm.ClassFile.FieldType.int) [((0 : Nat), (10 : Nat), (13 : Nat), (21 : Nat)), ((0 : Nat), (10 : Nat), (17 : Nat), (48 : Nat))]) ∈ lw_good := pz_in (List.mem_of_getElem? (i := 1635) (by decide +kernel)) rfl
theorem wq_1636 : (Jvm.Cond.methodLink "SourcewrightLaw" (94 : Nat) ({ cls := "Sourcewright", name := "live", desc := "(II)I" } : Jvm.MethodName)) ∈ lw_good := pz_in (List.mem_of_getElem? (i := 1636) (by decide +kernel)) rfl
theorem wq_1637 : (Jvm.Cond.instanceMethod ({ cls := "Sourcewright", name := "live", desc := "(II)I" } : Jvm.MethodName)) ∈ lw_good := pz_in (List.mem_of_getElem? (i := 1637) (by decide +kernel)) rfl
theorem wq_1638 : (Jvm.Cond.selects "Sourcewright" ({ cls := "Sourcewright", name := "live", desc := "(II)I" } : Jvm.MethodName) ({ cls := "Sourcewright", name := "live", desc := "(II)I" } : Jvm.MethodName)) ∈ lw_good := pz_in (List.mem_of_getElem? (i := 1638) (by decide +kernel)) rfl
theorem wq_1639 : (Jvm.Cond.code ({ cls := "Sourcewright", name := "live", desc := "(II)I" } : Jvm.MethodName) prog_1_method_28_code (3 : Nat) (Option.some Jvm.ClassFile.FieldType.int)) ∈ lw_good := pz_in (List.mem_of_getElem? (i := 1639) (by decide +kernel)) rfl
theorem wq_1640 : (Jvm.Cond.methodLink "Sourcewright" (244 : Nat) ({ cls := "Sourcewright", name := "checkInstruction", desc := "(II)V" } : Jvm.MethodName)) ∈ lw_good := pz_in (List.mem_of_getElem? (i := 1640) (by decide +kernel)) rfl
theorem wq_1642 : (Jvm.Cond.instanceMethod ({ cls := "Sourcewright", name := "checkInstruction", desc := "(II)V" } : Jvm.MethodName)) ∈ lw_good := pz_in (List.mem_of_getElem? (i := 1642) (by decide +kernel)) rfl
theorem wq_1643 : (Jvm.Cond.code ({ cls := "Sourcewright", name := "checkInstruction", desc := "(II)V" } : Jvm.MethodName) prog_1_method_53_code (3 : Nat) (Option.none : Option Jvm.ClassFile.FieldType)) ∈ lw_good := pz_in (List.mem_of_getElem? (i := 1643) (by decide +kernel)) rfl
theorem wq_1646 : (Jvm.Cond.methodLink "SourcewrightLaw" (236 : Nat) ({ cls := "SourcewrightLaw", name := "isIdle", desc := "(LSourcewright;II[J)I" } : Jvm.MethodName)) ∈ lw_good := pz_in (List.mem_of_getElem? (i := 1646) (by decide +kernel)) rfl
theorem wq_1647 : (Jvm.Cond.static ({ cls := "SourcewrightLaw", name := "isIdle", desc := "(LSourcewright;II[J)I" } : Jvm.MethodName)) ∈ lw_good := pz_in (List.mem_of_getElem? (i := 1647) (by decide +kernel)) rfl
theorem wq_1648 : (Jvm.Cond.codeWith ({ cls := "SourcewrightLaw", name := "isIdle", desc := "(LSourcewright;II[J)I" } : Jvm.MethodName) method_27_code (5 : Nat) (Option.some Jvm.ClassFile.FieldType.int) [((0 : Nat), (17 : Nat), (20 : Nat), (21 : Nat)), ((0 : Nat), (17 : Nat), (24 : Nat), (48 : Nat))]) ∈ lw_good := pz_in (List.mem_of_getElem? (i := 1648) (by decide +kernel)) rfl
theorem wq_1649 : (Jvm.Cond.methodLink "SourcewrightLaw" (97 : Nat) ({ cls := "Sourcewright", name := "isIdle", desc := "(II)Z" } : Jvm.MethodName)) ∈ lw_good := pz_in (List.mem_of_getElem? (i := 1649) (by decide +kernel)) rfl
theorem wq_1650 : (Jvm.Cond.instanceMethod ({ cls := "Sourcewright", name := "isIdle", desc := "(II)Z" } : Jvm.MethodName)) ∈ lw_good := pz_in (List.mem_of_getElem? (i := 1650) (by decide +kernel)) rfl
theorem wq_1651 : (Jvm.Cond.selects "Sourcewright" ({ cls := "Sourcewright", name := "isIdle", desc := "(II)Z" } : Jvm.MethodName) ({ cls := "Sourcewright", name := "isIdle", desc := "(II)Z" } : Jvm.MethodName)) ∈ lw_good := pz_in (List.mem_of_getElem? (i := 1651) (by decide +kernel)) rfl
theorem wq_1652 : (Jvm.Cond.code ({ cls := "Sourcewright", name := "isIdle", desc := "(II)Z" } : Jvm.MethodName) prog_1_method_29_code (3 : Nat) (Option.some Jvm.ClassFile.FieldType.boolean)) ∈ lw_good := pz_in (List.mem_of_getElem? (i := 1652) (by decide +kernel)) rfl
theorem wq_1654 : (Jvm.Cond.methodLink "SourcewrightLaw" (244 : Nat) ({ cls := "SourcewrightLaw", name := "source", desc := "(LSourcewright;I[J)I" } : Jvm.MethodName)) ∈ lw_good := pz_in (List.mem_of_getElem? (i := 1654) (by decide +kernel)) rfl
theorem wq_1655 : (Jvm.Cond.static ({ cls := "SourcewrightLaw", name := "source", desc := "(LSourcewright;I[J)I" } : Jvm.MethodName)) ∈ lw_good := pz_in (List.mem_of_getElem? (i := 1655) (by decide +kernel)) rfl
theorem wq_1656 : (Jvm.Cond.codeWith ({ cls := "SourcewrightLaw", name := "source", desc := "(LSourcewright;I[J)I" } : Jvm.MethodName) method_28_code (4 : Nat) (Option.some Jvm.ClassFile.FieldType.int) [((0 : Nat), (9 : Nat), (12 : Nat), (21 : Nat))]) ∈ lw_good := pz_in (List.mem_of_getElem? (i := 1656) (by decide +kernel)) rfl
theorem wq_1657 : (Jvm.Cond.methodLink "SourcewrightLaw" (100 : Nat) ({ cls := "Sourcewright", name := "source", desc := "(I)I" } : Jvm.MethodName)) ∈ lw_good := pz_in (List.mem_of_getElem? (i := 1657) (by decide +kernel)) rfl
theorem wq_1658 : (Jvm.Cond.instanceMethod ({ cls := "Sourcewright", name := "source", desc := "(I)I" } : Jvm.MethodName)) ∈ lw_good := pz_in (List.mem_of_getElem? (i := 1658) (by decide +kernel)) rfl
theorem wq_1659 : (Jvm.Cond.selects "Sourcewright" ({ cls := "Sourcewright", name := "source", desc := "(I)I" } : Jvm.MethodName) ({ cls := "Sourcewright", name := "source", desc := "(I)I" } : Jvm.MethodName)) ∈ lw_good := pz_in (List.mem_of_getElem? (i := 1659) (by decide +kernel)) rfl
theorem wq_1660 : (Jvm.Cond.code ({ cls := "Sourcewright", name := "source", desc := "(I)I" } : Jvm.MethodName) prog_1_method_31_code (2 : Nat) (Option.some Jvm.ClassFile.FieldType.int)) ∈ lw_good := pz_in (List.mem_of_getElem? (i := 1660) (by decide +kernel)) rfl
theorem wq_1661 : (Jvm.Cond.methodLink "SourcewrightLaw" (247 : Nat) ({ cls := "SourcewrightLaw", name := "sign", desc := "(LSourcewright;II[J)I" } : Jvm.MethodName)) ∈ lw_good := pz_in (List.mem_of_getElem? (i := 1661) (by decide +kernel)) rfl
theorem wq_1662 : (Jvm.Cond.static ({ cls := "SourcewrightLaw", name := "sign", desc := "(LSourcewright;II[J)I" } : Jvm.MethodName)) ∈ lw_good := pz_in (List.mem_of_getElem? (i := 1662) (by decide +kernel)) rfl
theorem wq_1663 : (Jvm.Cond.codeWith ({ cls := "SourcewrightLaw", name := "sign", desc := "(LSourcewright;II[J)I" } : Jvm.MethodName) method_29_code (5 : Nat) (Option.some Jvm.ClassFile.FieldType.int) [((0 : Nat), (10 : Nat), (13 : Nat), (21 : Nat)), ((0 : Nat), (10 : Nat), (17 : Nat), (48 : Nat))]) ∈ lw_good := pz_in (List.mem_of_getElem? (i := 1663) (by decide +kernel)) rfl
theorem wq_1664 : (Jvm.Cond.methodLink "SourcewrightLaw" (103 : Nat) ({ cls := "Sourcewright", name := "sign", desc := "(II)C" } : Jvm.MethodName)) ∈ lw_good := pz_in (List.mem_of_getElem? (i := 1664) (by decide +kernel)) rfl
theorem wq_1665 : (Jvm.Cond.instanceMethod ({ cls := "Sourcewright", name := "sign", desc := "(II)C" } : Jvm.MethodName)) ∈ lw_good := pz_in (List.mem_of_getElem? (i := 1665) (by decide +kernel)) rfl
theorem wq_1666 : (Jvm.Cond.selects "Sourcewright" ({ cls := "Sourcewright", name := "sign", desc := "(II)C" } : Jvm.MethodName) ({ cls := "Sourcewright", name := "sign", desc := "(II)C" } : Jvm.MethodName)) ∈ lw_good := pz_in (List.mem_of_getElem? (i := 1666) (by decide +kernel)) rfl
theorem wq_1667 : (Jvm.Cond.code ({ cls := "Sourcewright", name := "sign", desc := "(II)C" } : Jvm.MethodName) prog_1_method_32_code (3 : Nat) (Option.some Jvm.ClassFile.FieldType.char)) ∈ lw_good := pz_in (List.mem_of_getElem? (i := 1667) (by decide +kernel)) rfl
theorem wq_1673 : (Jvm.Cond.methodLink "SourcewrightLaw" (250 : Nat) ({ cls := "SourcewrightLaw", name := "compiled", desc := "(LSourcewright;[J)I" } : Jvm.MethodName)) ∈ lw_good := pz_in (List.mem_of_getElem? (i := 1673) (by decide +kernel)) rfl
theorem wq_1674 : (Jvm.Cond.static ({ cls := "SourcewrightLaw", name := "compiled", desc := "(LSourcewright;[J)I" } : Jvm.MethodName)) ∈ lw_good := pz_in (List.mem_of_getElem? (i := 1674) (by decide +kernel)) rfl
theorem wq_1675 : (Jvm.Cond.codeWith ({ cls := "SourcewrightLaw", name := "compiled", desc := "(LSourcewright;[J)I" } : Jvm.MethodName) method_30_code (3 : Nat) (Option.some Jvm.ClassFile.FieldType.int) [((0 : Nat), (8 : Nat), (11 : Nat), (29 : Nat))]) ∈ lw_good := pz_in (List.mem_of_getElem? (i := 1675) (by decide +kernel)) rfl
theorem wq_1676 : (Jvm.Cond.methodLink "SourcewrightLaw" (107 : Nat) ({ cls := "Sourcewright", name := "compiled", desc := "()I" } : Jvm.MethodName)) ∈ lw_good := pz_in (List.mem_of_getElem? (i := 1676) (by decide +kernel)) rfl
theorem wq_1677 : (Jvm.Cond.instanceMethod ({ cls := "Sourcewright", name := "compiled", desc := "()I" } : Jvm.MethodName)) ∈ lw_good := pz_in (List.mem_of_getElem? (i := 1677) (by decide +kernel)) rfl
theorem wq_1678 : (Jvm.Cond.selects "Sourcewright" ({ cls := "Sourcewright", name := "compiled", desc := "()I" } : Jvm.MethodName) ({ cls := "Sourcewright", name := "compiled", desc := "()I" } : Jvm.MethodName)) ∈ lw_good := pz_in (List.mem_of_getElem? (i := 1678) (by decide +kernel)) rfl
theorem wq_1679 : (Jvm.Cond.code ({ cls := "Sourcewright", name := "compiled", desc := "()I" } : Jvm.MethodName) prog_1_method_33_code (1 : Nat) (Option.some Jvm.ClassFile.FieldType.int)) ∈ lw_good := pz_in (List.mem_of_getElem? (i := 1679) (by decide +kernel)) rfl
theorem wq_1680 : (Jvm.Cond.methodLink "Sourcewright" (264 : Nat) ({ cls := "Sourcewright", name := "checkCompiled", desc := "()V" } : Jvm.MethodName)) ∈ lw_good := pz_in (List.mem_of_getElem? (i := 1680) (by decide +kernel)) rfl
theorem wq_1682 : (Jvm.Cond.instanceMethod ({ cls := "Sourcewright", name := "checkCompiled", desc := "()V" } : Jvm.MethodName)) ∈ lw_good := pz_in (List.mem_of_getElem? (i := 1682) (by decide +kernel)) rfl
theorem wq_1683 : (Jvm.Cond.code ({ cls := "Sourcewright", name := "checkCompiled", desc := "()V" } : Jvm.MethodName) prog_1_method_55_code (1 : Nat) (Option.none : Option Jvm.ClassFile.FieldType)) ∈ lw_good := pz_in (List.mem_of_getElem? (i := 1683) (by decide +kernel)) rfl
theorem wq_1685 : (Jvm.Cond.methodLink "SourcewrightLaw" (254 : Nat) ({ cls := "SourcewrightLaw", name := "compiledByte", desc := "(LSourcewright;I[J)I" } : Jvm.MethodName)) ∈ lw_good := pz_in (List.mem_of_getElem? (i := 1685) (by decide +kernel)) rfl
theorem wq_1686 : (Jvm.Cond.static ({ cls := "SourcewrightLaw", name := "compiledByte", desc := "(LSourcewright;I[J)I" } : Jvm.MethodName)) ∈ lw_good := pz_in (List.mem_of_getElem? (i := 1686) (by decide +kernel)) rfl
theorem wq_1687 : (Jvm.Cond.codeWith ({ cls := "SourcewrightLaw", name := "compiledByte", desc := "(LSourcewright;I[J)I" } : Jvm.MethodName) method_31_code (4 : Nat) (Option.some Jvm.ClassFile.FieldType.int) [((0 : Nat), (9 : Nat), (12 : Nat), (29 : Nat)), ((0 : Nat), (9 : Nat), (15 : Nat), (48 : Nat))]) ∈ lw_good := pz_in (List.mem_of_getElem? (i := 1687) (by decide +kernel)) rfl
theorem wq_1688 : (Jvm.Cond.methodLink "SourcewrightLaw" (111 : Nat) ({ cls := "Sourcewright", name := "compiledByte", desc := "(I)I" } : Jvm.MethodName)) ∈ lw_good := pz_in (List.mem_of_getElem? (i := 1688) (by decide +kernel)) rfl
theorem wq_1689 : (Jvm.Cond.instanceMethod ({ cls := "Sourcewright", name := "compiledByte", desc := "(I)I" } : Jvm.MethodName)) ∈ lw_good := pz_in (List.mem_of_getElem? (i := 1689) (by decide +kernel)) rfl
theorem wq_1690 : (Jvm.Cond.selects "Sourcewright" ({ cls := "Sourcewright", name := "compiledByte", desc := "(I)I" } : Jvm.MethodName) ({ cls := "Sourcewright", name := "compiledByte", desc := "(I)I" } : Jvm.MethodName)) ∈ lw_good := pz_in (List.mem_of_getElem? (i := 1690) (by decide +kernel)) rfl
theorem wq_1691 : (Jvm.Cond.code ({ cls := "Sourcewright", name := "compiledByte", desc := "(I)I" } : Jvm.MethodName) prog_1_method_34_code (2 : Nat) (Option.some Jvm.ClassFile.FieldType.int)) ∈ lw_good := pz_in (List.mem_of_getElem? (i := 1691) (by decide +kernel)) rfl
theorem wq_1692 : (Jvm.Cond.methodLink "SourcewrightLaw" (257 : Nat) ({ cls := "SourcewrightLaw", name := "input", desc := "(LSourcewright;I[J)I" } : Jvm.MethodName)) ∈ lw_good := pz_in (List.mem_of_getElem? (i := 1692) (by decide +kernel)) rfl
theorem wq_1693 : (Jvm.Cond.static ({ cls := "SourcewrightLaw", name := "input", desc := "(LSourcewright;I[J)I" } : Jvm.MethodName)) ∈ lw_good := pz_in (List.mem_of_getElem? (i := 1693) (by decide +kernel)) rfl
theorem wq_1694 : (Jvm.Cond.codeWith ({ cls := "SourcewrightLaw", name := "input", desc := "(LSourcewright;I[J)I" } : Jvm.MethodName) method_32_code (4 : Nat) (Option.some Jvm.ClassFile.FieldType.int) [((0 : Nat), (9 : Nat), (12 : Nat), (15 : Nat))]) ∈ lw_good := pz_in (List.mem_of_getElem? (i := 1694) (by decide +kernel)) rfl
theorem wq_1695 : (Jvm.Cond.methodLink "SourcewrightLaw" (114 : Nat) ({ cls := "Sourcewright", name := "input", desc := "(I)I" } : Jvm.MethodName)) ∈ lw_good := pz_in (List.mem_of_getElem? (i := 1695) (by decide +kernel)) rfl
theorem wq_1696 : (Jvm.Cond.instanceMethod ({ cls := "Sourcewright", name := "input", desc := "(I)I" } : Jvm.MethodName)) ∈ lw_good := pz_in (List.mem_of_getElem? (i := 1696) (by decide +kernel)) rfl
theorem wq_1697 : (Jvm.Cond.selects "Sourcewright" ({ cls := "Sourcewright", name := "input", desc := "(I)I" } : Jvm.MethodName) ({ cls := "Sourcewright", name := "input", desc := "(I)I" } : Jvm.MethodName)) ∈ lw_good := pz_in (List.mem_of_getElem? (i := 1697) (by decide +kernel)) rfl
theorem wq_1698 : (Jvm.Cond.code ({ cls := "Sourcewright", name := "input", desc := "(I)I" } : Jvm.MethodName) prog_1_method_35_code (2 : Nat) (Option.some Jvm.ClassFile.FieldType.int)) ∈ lw_good := pz_in (List.mem_of_getElem? (i := 1698) (by decide +kernel)) rfl
theorem wq_1700 : (Jvm.Cond.methodLink "SourcewrightLaw" (264 : Nat) ({ cls := "SourcewrightLaw", name := "run", desc := "(LSourcewright;ZI[J)I" } : Jvm.MethodName)) ∈ lw_good := pz_in (List.mem_of_getElem? (i := 1700) (by decide +kernel)) rfl
theorem wq_1701 : (Jvm.Cond.static ({ cls := "SourcewrightLaw", name := "run", desc := "(LSourcewright;ZI[J)I" } : Jvm.MethodName)) ∈ lw_good := pz_in (List.mem_of_getElem? (i := 1701) (by decide +kernel)) rfl
theorem wq_1702 : (Jvm.Cond.codeWith ({ cls := "SourcewrightLaw", name := "run", desc := "(LSourcewright;ZI[J)I" } : Jvm.MethodName) method_33_code (5 : Nat) (Option.some Jvm.ClassFile.FieldType.int) [((0 : Nat), (10 : Nat), (13 : Nat), (13 : Nat)), ((0 : Nat), (10 : Nat), (17 : Nat), (29 : Nat))]) ∈ lw_good := pz_in (List.mem_of_getElem? (i := 1702) (by decide +kernel)) rfl
theorem wq_1703 : (Jvm.Cond.methodLink "SourcewrightLaw" (117 : Nat) ({ cls := "Sourcewright", name := "run", desc := "(ZI)C" } : Jvm.MethodName)) ∈ lw_good := pz_in (List.mem_of_getElem? (i := 1703) (by decide +kernel)) rfl
theorem wq_1704 : (Jvm.Cond.instanceMethod ({ cls := "Sourcewright", name := "run", desc := "(ZI)C" } : Jvm.MethodName)) ∈ lw_good := pz_in (List.mem_of_getElem? (i := 1704) (by decide +kernel)) rfl
theorem wq_1705 : (Jvm.Cond.selects "Sourcewright" ({ cls := "Sourcewright", name := "run", desc := "(ZI)C" } : Jvm.MethodName) ({ cls := "Sourcewright", name := "run", desc := "(ZI)C" } : Jvm.MethodName)) ∈ lw_good := pz_in (List.mem_of_getElem? (i := 1705) (by decide +kernel)) rfl
theorem wq_1706 : (Jvm.Cond.code ({ cls := "Sourcewright", name := "run", desc := "(ZI)C" } : Jvm.MethodName) prog_1_method_37_code (3 : Nat) (Option.some Jvm.ClassFile.FieldType.char)) ∈ lw_good := pz_in (List.mem_of_getElem? (i := 1706) (by decide +kernel)) rfl
theorem wq_1707 : (Jvm.Cond.methodLink "Sourcewright" (276 : Nat) ({ cls := "Sourcewright", name := "checkSteps", desc := "(I)V" } : Jvm.MethodName)) ∈ lw_good := pz_in (List.mem_of_getElem? (i := 1707) (by decide +kernel)) rfl
theorem wq_1709 : (Jvm.Cond.instanceMethod ({ cls := "Sourcewright", name := "checkSteps", desc := "(I)V" } : Jvm.MethodName)) ∈ lw_good := pz_in (List.mem_of_getElem? (i := 1709) (by decide +kernel)) rfl
theorem wq_1710 : (Jvm.Cond.code ({ cls := "Sourcewright", name := "checkSteps", desc := "(I)V" } : Jvm.MethodName) prog_1_method_54_code (2 : Nat) (Option.none : Option Jvm.ClassFile.FieldType)) ∈ lw_good := pz_in (List.mem_of_getElem? (i := 1710) (by decide +kernel)) rfl
theorem wq_1712 : (Jvm.Cond.methodLink "SourcewrightLaw" (272 : Nat) ({ cls := "SourcewrightLaw", name := "output", desc := "(LSourcewright;I[J)I" } : Jvm.MethodName)) ∈ lw_good := pz_in (List.mem_of_getElem? (i := 1712) (by decide +kernel)) rfl
theorem wq_1713 : (Jvm.Cond.static ({ cls := "SourcewrightLaw", name := "output", desc := "(LSourcewright;I[J)I" } : Jvm.MethodName)) ∈ lw_good := pz_in (List.mem_of_getElem? (i := 1713) (by decide +kernel)) rfl
theorem wq_1714 : (Jvm.Cond.codeWith ({ cls := "SourcewrightLaw", name := "output", desc := "(LSourcewright;I[J)I" } : Jvm.MethodName) method_34_code (4 : Nat) (Option.some Jvm.ClassFile.FieldType.int) [((0 : Nat), (9 : Nat), (12 : Nat), (48 : Nat))]) ∈ lw_good := pz_in (List.mem_of_getElem? (i := 1714) (by decide +kernel)) rfl
theorem wq_1715 : (Jvm.Cond.methodLink "SourcewrightLaw" (121 : Nat) ({ cls := "Sourcewright", name := "output", desc := "(I)I" } : Jvm.MethodName)) ∈ lw_good := pz_in (List.mem_of_getElem? (i := 1715) (by decide +kernel)) rfl
theorem wq_1716 : (Jvm.Cond.instanceMethod ({ cls := "Sourcewright", name := "output", desc := "(I)I" } : Jvm.MethodName)) ∈ lw_good := pz_in (List.mem_of_getElem? (i := 1716) (by decide +kernel)) rfl
theorem wq_1717 : (Jvm.Cond.selects "Sourcewright" ({ cls := "Sourcewright", name := "output", desc := "(I)I" } : Jvm.MethodName) ({ cls := "Sourcewright", name := "output", desc := "(I)I" } : Jvm.MethodName)) ∈ lw_good := pz_in (List.mem_of_getElem? (i := 1717) (by decide +kernel)) rfl
theorem wq_1718 : (Jvm.Cond.code ({ cls := "Sourcewright", name := "output", desc := "(I)I" } : Jvm.MethodName) prog_1_method_39_code (2 : Nat) (Option.some Jvm.ClassFile.FieldType.int)) ∈ lw_good := pz_in (List.mem_of_getElem? (i := 1718) (by decide +kernel)) rfl
theorem wq_1720 : (Jvm.Cond.methodLink "SourcewrightLaw" (279 : Nat) ({ cls := "SourcewrightLaw", name := "agree", desc := "(LSourcewright;I[J)I" } : Jvm.MethodName)) ∈ lw_good := pz_in (List.mem_of_getElem? (i := 1720) (by decide +kernel)) rfl
theorem wq_1721 : (Jvm.Cond.static ({ cls := "SourcewrightLaw", name := "agree", desc := "(LSourcewright;I[J)I" } : Jvm.MethodName)) ∈ lw_good := pz_in (List.mem_of_getElem? (i := 1721) (by decide +kernel)) rfl
theorem wq_1722 : (Jvm.Cond.codeWith ({ cls := "SourcewrightLaw", name := "agree", desc := "(LSourcewright;I[J)I" } : Jvm.MethodName) method_35_code (4 : Nat) (Option.some Jvm.ClassFile.FieldType.int) [((0 : Nat), (16 : Nat), (19 : Nat), (13 : Nat)), ((0 : Nat), (16 : Nat), (22 : Nat), (29 : Nat))]) ∈ lw_good := pz_in (List.mem_of_getElem? (i := 1722) (by decide +kernel)) rfl
theorem wq_1723 : (Jvm.Cond.methodLink "SourcewrightLaw" (124 : Nat) ({ cls := "Sourcewright", name := "agree", desc := "(I)Z" } : Jvm.MethodName)) ∈ lw_good := pz_in (List.mem_of_getElem? (i := 1723) (by decide +kernel)) rfl
theorem wq_1724 : (Jvm.Cond.instanceMethod ({ cls := "Sourcewright", name := "agree", desc := "(I)Z" } : Jvm.MethodName)) ∈ lw_good := pz_in (List.mem_of_getElem? (i := 1724) (by decide +kernel)) rfl
theorem wq_1725 : (Jvm.Cond.selects "Sourcewright" ({ cls := "Sourcewright", name := "agree", desc := "(I)Z" } : Jvm.MethodName) ({ cls := "Sourcewright", name := "agree", desc := "(I)Z" } : Jvm.MethodName)) ∈ lw_good := pz_in (List.mem_of_getElem? (i := 1725) (by decide +kernel)) rfl
theorem wq_1726 : (Jvm.Cond.code ({ cls := "Sourcewright", name := "agree", desc := "(I)Z" } : Jvm.MethodName) prog_1_method_41_code (2 : Nat) (Option.some Jvm.ClassFile.FieldType.boolean)) ∈ lw_good := pz_in (List.mem_of_getElem? (i := 1726) (by decide +kernel)) rfl
theorem wq_1727 : (Jvm.Cond.methodLink "SourcewrightLaw" (286 : Nat) ({ cls := "SourcewrightLaw", name := "match", desc := "(LSourcewright;I[J)I" } : Jvm.MethodName)) ∈ lw_good := pz_in (List.mem_of_getElem? (i := 1727) (by decide +kernel)) rfl
theorem wq_1728 : (Jvm.Cond.static ({ cls := "SourcewrightLaw", name := "match", desc := "(LSourcewright;I[J)I" } : Jvm.MethodName)) ∈ lw_good := pz_in (List.mem_of_getElem? (i := 1728) (by decide +kernel)) rfl
theorem wq_1729 : (Jvm.Cond.codeWith ({ cls := "SourcewrightLaw", name := "match", desc := "(LSourcewright;I[J)I" } : Jvm.MethodName) method_36_code (4 : Nat) (Option.some Jvm.ClassFile.FieldType.int) [((0 : Nat), (9 : Nat), (12 : Nat), (21 : Nat)), ((0 : Nat), (9 : Nat), (15 : Nat), (48 : Nat))]) ∈ lw_good := pz_in (List.mem_of_getElem? (i := 1729) (by decide +kernel)) rfl
theorem wq_1730 : (Jvm.Cond.methodLink "SourcewrightLaw" (127 : Nat) ({ cls := "Sourcewright", name := "match", desc := "(I)I" } : Jvm.MethodName)) ∈ lw_good := pz_in (List.mem_of_getElem? (i := 1730) (by decide +kernel)) rfl
theorem wq_1731 : (Jvm.Cond.instanceMethod ({ cls := "Sourcewright", name := "match", desc := "(I)I" } : Jvm.MethodName)) ∈ lw_good := pz_in (List.mem_of_getElem? (i := 1731) (by decide +kernel)) rfl
theorem wq_1732 : (Jvm.Cond.selects "Sourcewright" ({ cls := "Sourcewright", name := "match", desc := "(I)I" } : Jvm.MethodName) ({ cls := "Sourcewright", name := "match", desc := "(I)I" } : Jvm.MethodName)) ∈ lw_good := pz_in (List.mem_of_getElem? (i := 1732) (by decide +kernel)) rfl
theorem wq_1733 : (Jvm.Cond.code ({ cls := "Sourcewright", name := "match", desc := "(I)I" } : Jvm.MethodName) prog_1_method_43_code (3 : Nat) (Option.some Jvm.ClassFile.FieldType.int)) ∈ lw_good := pz_in (List.mem_of_getElem? (i := 1733) (by decide +kernel)) rfl
theorem wq_1747 : (Jvm.Cond.methodLink "SourcewrightLaw" (294 : Nat) ({ cls := "SourcewrightLaw", name := "codeShare", desc := "(LSourcewright;[D)I" } : Jvm.MethodName)) ∈ lw_good := pz_in (List.mem_of_getElem? (i := 1747) (by decide +kernel)) rfl
theorem wq_1748 : (Jvm.Cond.static ({ cls := "SourcewrightLaw", name := "codeShare", desc := "(LSourcewright;[D)I" } : Jvm.MethodName)) ∈ lw_good := pz_in (List.mem_of_getElem? (i := 1748) (by decide +kernel)) rfl
theorem wq_1749 : (Jvm.Cond.codeWith ({ cls := "SourcewrightLaw", name := "codeShare", desc := "(LSourcewright;[D)I" } : Jvm.MethodName) method_37_code (3 : Nat) (Option.some Jvm.ClassFile.FieldType.int) [((0 : Nat), (8 : Nat), (11 : Nat), (134 : Nat))]) ∈ lw_good := pz_in (List.mem_of_getElem? (i := 1749) (by decide +kernel)) rfl
theorem wq_1750 : (Jvm.Cond.classLink "SourcewrightLaw" (134 : Nat) "java/lang/ArithmeticException") ∈ lw_good := pz_in (List.mem_of_getElem? (i := 1750) (by decide +kernel)) rfl
theorem wq_1764 : (Jvm.Cond.methodLink "SourcewrightLaw" (130 : Nat) ({ cls := "Sourcewright", name := "codeShare", desc := "()F" } : Jvm.MethodName)) ∈ lw_good := pz_in (List.mem_of_getElem? (i := 1764) (by decide +kernel)) rfl
theorem wq_1765 : (Jvm.Cond.instanceMethod ({ cls := "Sourcewright", name := "codeShare", desc := "()F" } : Jvm.MethodName)) ∈ lw_good := pz_in (List.mem_of_getElem? (i := 1765) (by decide +kernel)) rfl
theorem wq_1766 : (Jvm.Cond.selects "Sourcewright" ({ cls := "Sourcewright", name := "codeShare", desc := "()F" } : Jvm.MethodName) ({ cls := "Sourcewright", name := "codeShare", desc := "()F" } : Jvm.MethodName)) ∈ lw_good := pz_in (List.mem_of_getElem? (i := 1766) (by decide +kernel)) rfl
theorem wq_1767 : (Jvm.Cond.code ({ cls := "Sourcewright", name := "codeShare", desc := "()F" } : Jvm.MethodName) prog_1_method_45_code (4 : Nat) (Option.some Jvm.ClassFile.FieldType.float)) ∈ lw_good := pz_in (List.mem_of_getElem? (i := 1767) (by decide +kernel)) rfl
theorem wq_1768 : (Jvm.Cond.classLink "Sourcewright" (318 : Nat) "java/lang/ArithmeticException") ∈ lw_good := pz_in (List.mem_of_getElem? (i := 1768) (by decide +kernel)) rfl
theorem wq_1771 : (Jvm.Cond.methodLink "SourcewrightLaw" (298 : Nat) ({ cls := "SourcewrightLaw", name := "meanBlock", desc := "(LSourcewright;I[D)I" } : Jvm.MethodName)) ∈ lw_good := pz_in (List.mem_of_getElem? (i := 1771) (by decide +kernel)) rfl
theorem wq_1772 : (Jvm.Cond.static ({ cls := "SourcewrightLaw", name := "meanBlock", desc := "(LSourcewright;I[D)I" } : Jvm.MethodName)) ∈ lw_good := pz_in (List.mem_of_getElem? (i := 1772) (by decide +kernel)) rfl
theorem wq_1773 : (Jvm.Cond.codeWith ({ cls := "SourcewrightLaw", name := "meanBlock", desc := "(LSourcewright;I[D)I" } : Jvm.MethodName) method_38_code (4 : Nat) (Option.some Jvm.ClassFile.FieldType.int) [((0 : Nat), (8 : Nat), (11 : Nat), (21 : Nat))]) ∈ lw_good := pz_in (List.mem_of_getElem? (i := 1773) (by decide +kernel)) rfl
theorem wq_1774 : (Jvm.Cond.methodLink "SourcewrightLaw" (136 : Nat) ({ cls := "Sourcewright", name := "meanBlock", desc := "(I)D" } : Jvm.MethodName)) ∈ lw_good := pz_in (List.mem_of_getElem? (i := 1774) (by decide +kernel)) rfl
theorem wq_1775 : (Jvm.Cond.instanceMethod ({ cls := "Sourcewright", name := "meanBlock", desc := "(I)D" } : Jvm.MethodName)) ∈ lw_good := pz_in (List.mem_of_getElem? (i := 1775) (by decide +kernel)) rfl
theorem wq_1776 : (Jvm.Cond.selects "Sourcewright" ({ cls := "Sourcewright", name := "meanBlock", desc := "(I)D" } : Jvm.MethodName) ({ cls := "Sourcewright", name := "meanBlock", desc := "(I)D" } : Jvm.MethodName)) ∈ lw_good := pz_in (List.mem_of_getElem? (i := 1776) (by decide +kernel)) rfl
theorem wq_1777 : (Jvm.Cond.code ({ cls := "Sourcewright", name := "meanBlock", desc := "(I)D" } : Jvm.MethodName) prog_1_method_46_code (4 : Nat) (Option.some Jvm.ClassFile.FieldType.double)) ∈ lw_good := pz_in (List.mem_of_getElem? (i := 1777) (by decide +kernel)) rfl
theorem wq_1783 : (Jvm.Cond.methodLink "SourcewrightModel" (11 : Nat) ({ cls := "java/lang/Object", name := "<init>", desc := "()V" } : Jvm.MethodName)) ∈ lw_good := pz_in (List.mem_of_getElem? (i := 1783) (by decide +kernel)) rfl
theorem wq_1784 : (Jvm.Cond.classLink "SourcewrightModel" (17 : Nat) "java/util/ArrayList") ∈ lw_good := pz_in (List.mem_of_getElem? (i := 1784) (by decide +kernel)) rfl
theorem wq_1785 : (Jvm.Cond.instantiable "java/util/ArrayList" (3 : Nat)) ∈ lw_good := pz_in (List.mem_of_getElem? (i := 1785) (by decide +kernel)) rfl
theorem wq_1786 : (Jvm.Cond.methodLink "SourcewrightModel" (19 : Nat) ({ cls := "java/util/ArrayList", name := "<init>", desc := "()V" } : Jvm.MethodName)) ∈ lw_good := pz_in (List.mem_of_getElem? (i := 1786) (by decide +kernel)) rfl
theorem wq_1787 : (Jvm.Cond.instanceMethod ({ cls := "java/util/ArrayList", name := "<init>", desc := "()V" } : Jvm.MethodName)) ∈ lw_good := pz_in (List.mem_of_getElem? (i := 1787) (by decide +kernel)) rfl
theorem wq_1788 : (Jvm.Cond.code ({ cls := "java/util/ArrayList", name := "<init>", desc := "()V" } : Jvm.MethodName) prog_50_method_2_code (1 : Nat) (Option.none : Option Jvm.ClassFile.FieldType)) ∈ lw_good := pz_in (List.mem_of_getElem? (i := 1788) (by decide +kernel)) rfl
theorem wq_1789 : (Jvm.Cond.methodLink "java/util/ArrayList" (1 : Nat) ({ cls := "java/util/AbstractList", name := "<init>", desc := "()V" } : Jvm.MethodName)) ∈ lw_good := pz_in (List.mem_of_getElem? (i := 1789) (by decide +kernel)) rfl
theorem wq_1790 : (Jvm.Cond.instanceMethod ({ cls := "java/util/AbstractList", name := "<init>", desc := "()V" } : Jvm.MethodName)) ∈ lw_good := pz_in (List.mem_of_getElem? (i := 1790) (by decide +kernel)) rfl
theorem wq_1791 : (Jvm.Cond.code ({ cls := "java/util/AbstractList", name := "<init>", desc := "()V" } : Jvm.MethodName) prog_49_method_1_code (1 : Nat) (Option.none : Option Jvm.ClassFile.FieldType)) ∈ lw_good := pz_in (List.mem_of_getElem? (i := 1791) (by decide +kernel)) rfl
theorem wq_1792 : (Jvm.Cond.methodLink "java/util/AbstractList" (1 : Nat) ({ cls := "java/util/AbstractCollection", name := "<init>", desc := "()V" } : Jvm.MethodName)) ∈ lw_good := pz_in (List.mem_of_getElem? (i := 1792) (by decide +kernel)) rfl
theorem wq_1793 : (Jvm.Cond.instanceMethod ({ cls := "java/util/AbstractCollection", name := "<init>", desc := "()V" } : Jvm.MethodName)) ∈ lw_good := pz_in (List.mem_of_getElem? (i := 1793) (by decide +kernel)) rfl
theorem wq_1794 : (Jvm.Cond.code ({ cls := "java/util/AbstractCollection", name := "<init>", desc := "()V" } : Jvm.MethodName) prog_48_method_1_code (1 : Nat) (Option.none : Option Jvm.ClassFile.FieldType)) ∈ lw_good := pz_in (List.mem_of_getElem? (i := 1794) (by decide +kernel)) rfl
theorem wq_1795 : (Jvm.Cond.methodLink "java/util/AbstractCollection" (1 : Nat) ({ cls := "java/lang/Object", name := "<init>", desc := "()V" } : Jvm.MethodName)) ∈ lw_good := pz_in (List.mem_of_getElem? (i := 1795) (by decide +kernel)) rfl
theorem wq_1796 : (Jvm.Cond.fieldLink "java/util/ArrayList" (39 : Nat) "java/util/ArrayList" "DEFAULTCAPACITY_EMPTY_ELEMENTDATA" "[Ljava/lang/Object;") ∈ lw_good := pz_in (List.mem_of_getElem? (i := 1796) (by decide +kernel)) rfl
theorem wq_1798 : (Jvm.Cond.fieldLink "java/util/ArrayList" (9 : Nat) "java/util/ArrayList" "elementData" "[Ljava/lang/Object;") ∈ lw_good := pz_in (List.mem_of_getElem? (i := 1798) (by decide +kernel)) rfl
theorem wq_1799 : (Jvm.Cond.fieldLink "java/util/ArrayList$Itr" (37 : Nat) "java/util/ArrayList" "elementData" "[Ljava/lang/Object;") ∈ lw_good := pz_in (List.mem_of_getElem? (i := 1799) (by decide +kernel)) rfl
theorem wq_1801 : (Jvm.Cond.fieldLink "java/util/ArrayList" (48 : Nat) "java/util/ArrayList" "size" "I") ∈ lw_good := pz_in (List.mem_of_getElem? (i := 1801) (by decide +kernel)) rfl
theorem wq_1802 : (Jvm.Cond.fieldLink "java/util/AbstractList" (7 : Nat) "java/util/AbstractList" "modCount" "I") ∈ lw_good := pz_in (List.mem_of_getElem? (i := 1802) (by decide +kernel)) rfl
theorem wq_1803 : (Jvm.Cond.fieldLink "java/util/ArrayList$Itr" (17 : Nat) "java/util/ArrayList" "modCount" "I") ∈ lw_good := pz_in (List.mem_of_getElem? (i := 1803) (by decide +kernel)) rfl
theorem wq_1804 : (Jvm.Cond.sameField "java/util/ArrayList" "java/util/AbstractList" "modCount" "I") ∈ lw_good := pz_in (List.mem_of_getElem? (i := 1804) (by decide +kernel)) rfl
theorem wq_1805 : (Jvm.Cond.fieldLink "java/util/ArrayList" (63 : Nat) "java/util/ArrayList" "modCount" "I") ∈ lw_good := pz_in (List.mem_of_getElem? (i := 1805) (by decide +kernel)) rfl
theorem wq_1806 : (Jvm.Cond.lays "java/util/ArrayList" "java/util/ArrayList" "elementData" "[Ljava/lang/Object;") ∈ lw_good := pz_in (List.mem_of_getElem? (i := 1806) (by decide +kernel)) rfl
theorem wq_1808 : (Jvm.Cond.lays "java/util/ArrayList" "java/util/ArrayList" "size" "I") ∈ lw_good := pz_in (List.mem_of_getElem? (i := 1808) (by decide +kernel)) rfl
theorem wq_1810 : (Jvm.Cond.lays "java/util/ArrayList" "java/util/AbstractList" "modCount" "I") ∈ lw_good := pz_in (List.mem_of_getElem? (i := 1810) (by decide +kernel)) rfl
theorem wq_1813 : (Jvm.Cond.fieldLink "SourcewrightModel" (33 : Nat) "SourcewrightModel" "thrown" "I") ∈ lw_good := pz_in (List.mem_of_getElem? (i := 1813) (by decide +kernel)) rfl
theorem wq_1814 : (Jvm.Cond.fieldLink "SourcewrightModel" (20 : Nat) "SourcewrightModel" "bytes" "Ljava/util/ArrayList;") ∈ lw_good := pz_in (List.mem_of_getElem? (i := 1814) (by decide +kernel)) rfl
theorem wq_1815 : (Jvm.Cond.fieldLink "SourcewrightModel" (24 : Nat) "SourcewrightModel" "entries" "Ljava/util/ArrayList;") ∈ lw_good := pz_in (List.mem_of_getElem? (i := 1815) (by decide +kernel)) rfl
theorem wq_1816 : (Jvm.Cond.fieldLink "SourcewrightModel" (27 : Nat) "SourcewrightModel" "inputs" "Ljava/util/ArrayList;") ∈ lw_good := pz_in (List.mem_of_getElem? (i := 1816) (by decide +kernel)) rfl
theorem wq_1817 : (Jvm.Cond.fieldLink "SourcewrightModel" (30 : Nat) "SourcewrightModel" "kept" "Ljava/util/ArrayList;") ∈ lw_good := pz_in (List.mem_of_getElem? (i := 1817) (by decide +kernel)) rfl
theorem wq_1818 : (Jvm.Cond.fieldLink "SourcewrightModel" (185 : Nat) "SourcewrightModel" "isTidy" "Z") ∈ lw_good := pz_in (List.mem_of_getElem? (i := 1818) (by decide +kernel)) rfl
theorem wq_1819 : (Jvm.Cond.fieldLink "SourcewrightModel" (218 : Nat) "SourcewrightModel" "last" "LSourcewrightModel$Run;") ∈ lw_good := pz_in (List.mem_of_getElem? (i := 1819) (by decide +kernel)) rfl
theorem wq_1820 : (Jvm.Cond.lays "SourcewrightModel" "SourcewrightModel" "thrown" "I") ∈ lw_good := pz_in (List.mem_of_getElem? (i := 1820) (by decide +kernel)) rfl
theorem wq_1822 : (Jvm.Cond.laysFinal "SourcewrightModel" "SourcewrightModel" "bytes" "Ljava/util/ArrayList;") ∈ lw_good := pz_in (List.mem_of_getElem? (i := 1822) (by decide +kernel)) rfl
theorem wq_1824 : (Jvm.Cond.laysFinal "SourcewrightModel" "SourcewrightModel" "entries" "Ljava/util/ArrayList;") ∈ lw_good := pz_in (List.mem_of_getElem? (i := 1824) (by decide +kernel)) rfl
theorem wq_1826 : (Jvm.Cond.laysFinal "SourcewrightModel" "SourcewrightModel" "inputs" "Ljava/util/ArrayList;") ∈ lw_good := pz_in (List.mem_of_getElem? (i := 1826) (by decide +kernel)) rfl
theorem wq_1828 : (Jvm.Cond.laysFinal "SourcewrightModel" "SourcewrightModel" "kept" "Ljava/util/ArrayList;") ∈ lw_good := pz_in (List.mem_of_getElem? (i := 1828) (by decide +kernel)) rfl
theorem wq_1830 : (Jvm.Cond.lays "SourcewrightModel" "SourcewrightModel" "isTidy" "Z") ∈ lw_good := pz_in (List.mem_of_getElem? (i := 1830) (by decide +kernel)) rfl
theorem wq_1832 : (Jvm.Cond.lays "SourcewrightModel" "SourcewrightModel" "last" "LSourcewrightModel$Run;") ∈ lw_good := pz_in (List.mem_of_getElem? (i := 1832) (by decide +kernel)) rfl
theorem wq_1835 : (Jvm.Cond.methodLink "SourcewrightLaw" (150 : Nat) ({ cls := "SourcewrightModel", name := "thrown", desc := "()I" } : Jvm.MethodName)) ∈ lw_good := pz_in (List.mem_of_getElem? (i := 1835) (by decide +kernel)) rfl
theorem wq_1836 : (Jvm.Cond.instanceMethod ({ cls := "SourcewrightModel", name := "thrown", desc := "()I" } : Jvm.MethodName)) ∈ lw_good := pz_in (List.mem_of_getElem? (i := 1836) (by decide +kernel)) rfl
theorem wq_1837 : (Jvm.Cond.selects "SourcewrightModel" ({ cls := "SourcewrightModel", name := "thrown", desc := "()I" } : Jvm.MethodName) ({ cls := "SourcewrightModel", name := "thrown", desc := "()I" } : Jvm.MethodName)) ∈ lw_good := pz_in (List.mem_of_getElem? (i := 1837) (by decide +kernel)) rfl
theorem wq_1838 : (Jvm.Cond.code ({ cls := "SourcewrightModel", name := "thrown", desc := "()I" } : Jvm.MethodName) prog_14_method_10_code (1 : Nat) (Option.some Jvm.ClassFile.FieldType.int)) ∈ lw_good := pz_in (List.mem_of_getElem? (i := 1838) (by decide +kernel)) rfl
theorem wq_1839 : (Jvm.Cond.methodLink "SourcewrightLaw" (149 : Nat) ({ cls := "SourcewrightModel", name := "type", desc := "(I)I" } : Jvm.MethodName)) ∈ lw_good := pz_in (List.mem_of_getElem? (i := 1839) (by decide +kernel)) rfl
theorem wq_1840 : (Jvm.Cond.instanceMethod ({ cls := "SourcewrightModel", name := "type", desc := "(I)I" } : Jvm.MethodName)) ∈ lw_good := pz_in (List.mem_of_getElem? (i := 1840) (by decide +kernel)) rfl
theorem wq_1841 : (Jvm.Cond.selects "SourcewrightModel" ({ cls := "SourcewrightModel", name := "type", desc := "(I)I" } : Jvm.MethodName) ({ cls := "SourcewrightModel", name := "type", desc := "(I)I" } : Jvm.MethodName)) ∈ lw_good := pz_in (List.mem_of_getElem? (i := 1841) (by decide +kernel)) rfl
theorem wq_1842 : (Jvm.Cond.code ({ cls := "SourcewrightModel", name := "type", desc := "(I)I" } : Jvm.MethodName) prog_14_method_18_code (2 : Nat) (Option.some Jvm.ClassFile.FieldType.int)) ∈ lw_good := pz_in (List.mem_of_getElem? (i := 1842) (by decide +kernel)) rfl
theorem wq_1843 : (Jvm.Cond.methodLink "SourcewrightModel" (3 : Nat) ({ cls := "SourcewrightModel", name := "in", desc := "(III)Z" } : Jvm.MethodName)) ∈ lw_good := pz_in (List.mem_of_getElem? (i := 1843) (by decide +kernel)) rfl
theorem wq_1844 : (Jvm.Cond.static ({ cls := "SourcewrightModel", name := "in", desc := "(III)Z" } : Jvm.MethodName)) ∈ lw_good := pz_in (List.mem_of_getElem? (i := 1844) (by decide +kernel)) rfl
theorem wq_1845 : (Jvm.Cond.code ({ cls := "SourcewrightModel", name := "in", desc := "(III)Z" } : Jvm.MethodName) prog_14_method_1_code (3 : Nat) (Option.some Jvm.ClassFile.FieldType.boolean)) ∈ lw_good := pz_in (List.mem_of_getElem? (i := 1845) (by decide +kernel)) rfl
theorem wq_1846 : (Jvm.Cond.methodLink "SourcewrightModel" (37 : Nat) ({ cls := "java/util/ArrayList", name := "size", desc := "()I" } : Jvm.MethodName)) ∈ lw_good := pz_in (List.mem_of_getElem? (i := 1846) (by decide +kernel)) rfl
theorem wq_1847 : (Jvm.Cond.instanceMethod ({ cls := "java/util/ArrayList", name := "size", desc := "()I" } : Jvm.MethodName)) ∈ lw_good := pz_in (List.mem_of_getElem? (i := 1847) (by decide +kernel)) rfl
theorem wq_1848 : (Jvm.Cond.selects "java/util/ArrayList" ({ cls := "java/util/ArrayList", name := "size", desc := "()I" } : Jvm.MethodName) ({ cls := "java/util/ArrayList", name := "size", desc := "()I" } : Jvm.MethodName)) ∈ lw_good := pz_in (List.mem_of_getElem? (i := 1848) (by decide +kernel)) rfl
theorem wq_1849 : (Jvm.Cond.code ({ cls := "java/util/ArrayList", name := "size", desc := "()I" } : Jvm.MethodName) prog_50_method_8_code (1 : Nat) (Option.some Jvm.ClassFile.FieldType.int)) ∈ lw_good := pz_in (List.mem_of_getElem? (i := 1849) (by decide +kernel)) rfl
theorem wq_1850 : (Jvm.Cond.methodLink "SourcewrightModel" (80 : Nat) ({ cls := "java/lang/Integer", name := "valueOf", desc := "(I)Ljava/lang/Integer;" } : Jvm.MethodName)) ∈ lw_good := pz_in (List.mem_of_getElem? (i := 1850) (by decide +kernel)) rfl
theorem wq_1851 : (Jvm.Cond.static ({ cls := "java/lang/Integer", name := "valueOf", desc := "(I)Ljava/lang/Integer;" } : Jvm.MethodName)) ∈ lw_good := pz_in (List.mem_of_getElem? (i := 1851) (by decide +kernel)) rfl
theorem wq_1852 : (Jvm.Cond.code ({ cls := "java/lang/Integer", name := "valueOf", desc := "(I)Ljava/lang/Integer;" } : Jvm.MethodName) prog_32_method_22_code (1 : Nat) (Option.some (Jvm.ClassFile.FieldType.object "java/lang/Integer"))) ∈ lw_good := pz_in (List.mem_of_getElem? (i := 1852) (by decide +kernel)) rfl
theorem wq_1853 : (Jvm.Cond.fieldLink "java/lang/Integer" (191 : Nat) "java/lang/Integer$IntegerCache" "high" "I") ∈ lw_good := pz_in (List.mem_of_getElem? (i := 1853) (by decide +kernel)) rfl
theorem wq_1855 : (Jvm.Cond.fieldLink "java/lang/Integer" (195 : Nat) "java/lang/Integer$IntegerCache" "cache" "[Ljava/lang/Integer;") ∈ lw_good := pz_in (List.mem_of_getElem? (i := 1855) (by decide +kernel)) rfl
theorem wq_1857 : (Jvm.Cond.classLink "java/lang/Integer" (1 : Nat) "java/lang/Integer") ∈ lw_good := pz_in (List.mem_of_getElem? (i := 1857) (by decide +kernel)) rfl
theorem wq_1858 : (Jvm.Cond.instantiable "java/lang/Integer" (1 : Nat)) ∈ lw_good := pz_in (List.mem_of_getElem? (i := 1858) (by decide +kernel)) rfl
theorem wq_1859 : (Jvm.Cond.methodLink "java/lang/Integer" (199 : Nat) ({ cls := "java/lang/Integer", name := "<init>", desc := "(I)V" } : Jvm.MethodName)) ∈ lw_good := pz_in (List.mem_of_getElem? (i := 1859) (by decide +kernel)) rfl
theorem wq_1860 : (Jvm.Cond.instanceMethod ({ cls := "java/lang/Integer", name := "<init>", desc := "(I)V" } : Jvm.MethodName)) ∈ lw_good := pz_in (List.mem_of_getElem? (i := 1860) (by decide +kernel)) rfl
theorem wq_1861 : (Jvm.Cond.code ({ cls := "java/lang/Integer", name := "<init>", desc := "(I)V" } : Jvm.MethodName) prog_32_method_23_code (2 : Nat) (Option.none : Option Jvm.ClassFile.FieldType)) ∈ lw_good := pz_in (List.mem_of_getElem? (i := 1861) (by decide +kernel)) rfl
theorem wq_1862 : (Jvm.Cond.methodLink "java/lang/Integer" (202 : Nat) ({ cls := "java/lang/Number", name := "<init>", desc := "()V" } : Jvm.MethodName)) ∈ lw_good := pz_in (List.mem_of_getElem? (i := 1862) (by decide +kernel)) rfl
theorem wq_1863 : (Jvm.Cond.instanceMethod ({ cls := "java/lang/Number", name := "<init>", desc := "()V" } : Jvm.MethodName)) ∈ lw_good := pz_in (List.mem_of_getElem? (i := 1863) (by decide +kernel)) rfl
theorem wq_1864 : (Jvm.Cond.code ({ cls := "java/lang/Number", name := "<init>", desc := "()V" } : Jvm.MethodName) prog_36_method_1_code (1 : Nat) (Option.none : Option Jvm.ClassFile.FieldType)) ∈ lw_good := pz_in (List.mem_of_getElem? (i := 1864) (by decide +kernel)) rfl
theorem wq_1865 : (Jvm.Cond.methodLink "java/lang/Number" (1 : Nat) ({ cls := "java/lang/Object", name := "<init>", desc := "()V" } : Jvm.MethodName)) ∈ lw_good := pz_in (List.mem_of_getElem? (i := 1865) (by decide +kernel)) rfl
theorem wq_1866 : (Jvm.Cond.fieldLink "java/lang/Integer" (205 : Nat) "java/lang/Integer" "value" "I") ∈ lw_good := pz_in (List.mem_of_getElem? (i := 1866) (by decide +kernel)) rfl
theorem wq_1867 : (Jvm.Cond.laysFinal "java/lang/Integer" "java/lang/Integer" "value" "I") ∈ lw_good := pz_in (List.mem_of_getElem? (i := 1867) (by decide +kernel)) rfl
theorem wq_1870 : (Jvm.Cond.methodLink "SourcewrightModel" (84 : Nat) ({ cls := "java/util/ArrayList", name := "add", desc := "(Ljava/lang/Object;)Z" } : Jvm.MethodName)) ∈ lw_good := pz_in (List.mem_of_getElem? (i := 1870) (by decide +kernel)) rfl
theorem wq_1871 : (Jvm.Cond.instanceMethod ({ cls := "java/util/ArrayList", name := "add", desc := "(Ljava/lang/Object;)Z" } : Jvm.MethodName)) ∈ lw_good := pz_in (List.mem_of_getElem? (i := 1871) (by decide +kernel)) rfl
theorem wq_1872 : (Jvm.Cond.selects "java/util/ArrayList" ({ cls := "java/util/ArrayList", name := "add", desc := "(Ljava/lang/Object;)Z" } : Jvm.MethodName) ({ cls := "java/util/ArrayList", name := "add", desc := "(Ljava/lang/Object;)Z" } : Jvm.MethodName)) ∈ lw_good := pz_in (List.mem_of_getElem? (i := 1872) (by decide +kernel)) rfl
theorem wq_1873 : (Jvm.Cond.code ({ cls := "java/util/ArrayList", name := "add", desc := "(Ljava/lang/Object;)Z" } : Jvm.MethodName) prog_50_method_25_code (2 : Nat) (Option.some Jvm.ClassFile.FieldType.boolean)) ∈ lw_good := pz_in (List.mem_of_getElem? (i := 1873) (by decide +kernel)) rfl
theorem wq_1874 : (Jvm.Cond.methodLink "java/util/ArrayList" (131 : Nat) ({ cls := "java/util/ArrayList", name := "add", desc := "(Ljava/lang/Object;[Ljava/lang/Object;I)V" } : Jvm.MethodName)) ∈ lw_good := pz_in (List.mem_of_getElem? (i := 1874) (by decide +kernel)) rfl
theorem wq_1876 : (Jvm.Cond.instanceMethod ({ cls := "java/util/ArrayList", name := "add", desc := "(Ljava/lang/Object;[Ljava/lang/Object;I)V" } : Jvm.MethodName)) ∈ lw_good := pz_in (List.mem_of_getElem? (i := 1876) (by decide +kernel)) rfl
theorem wq_1877 : (Jvm.Cond.code ({ cls := "java/util/ArrayList", name := "add", desc := "(Ljava/lang/Object;[Ljava/lang/Object;I)V" } : Jvm.MethodName) prog_50_method_24_code (4 : Nat) (Option.none : Option Jvm.ClassFile.FieldType)) ∈ lw_good := pz_in (List.mem_of_getElem? (i := 1877) (by decide +kernel)) rfl
theorem wq_1878 : (Jvm.Cond.methodLink "java/util/ArrayList" (129 : Nat) ({ cls := "java/util/ArrayList", name := "grow", desc := "()[Ljava/lang/Object;" } : Jvm.MethodName)) ∈ lw_good := pz_in (List.mem_of_getElem? (i := 1878) (by decide +kernel)) rfl
theorem wq_1880 : (Jvm.Cond.instanceMethod ({ cls := "java/util/ArrayList", name := "grow", desc := "()[Ljava/lang/Object;" } : Jvm.MethodName)) ∈ lw_good := pz_in (List.mem_of_getElem? (i := 1880) (by decide +kernel)) rfl
theorem wq_1881 : (Jvm.Cond.code ({ cls := "java/util/ArrayList", name := "grow", desc := "()[Ljava/lang/Object;" } : Jvm.MethodName) prog_50_method_7_code (1 : Nat) (Option.some (Jvm.ClassFile.FieldType.array (Jvm.ClassFile.FieldType.object "java/lang/Object")))) ∈ lw_good := pz_in (List.mem_of_getElem? (i := 1881) (by decide +kernel)) rfl
theorem wq_1882 : (Jvm.Cond.methodLink "java/util/ArrayList" (69 : Nat) ({ cls := "java/util/ArrayList", name := "grow", desc := "(I)[Ljava/lang/Object;" } : Jvm.MethodName)) ∈ lw_good := pz_in (List.mem_of_getElem? (i := 1882) (by decide +kernel)) rfl
theorem wq_1884 : (Jvm.Cond.instanceMethod ({ cls := "java/util/ArrayList", name := "grow", desc := "(I)[Ljava/lang/Object;" } : Jvm.MethodName)) ∈ lw_good := pz_in (List.mem_of_getElem? (i := 1884) (by decide +kernel)) rfl
theorem wq_1885 : (Jvm.Cond.code ({ cls := "java/util/ArrayList", name := "grow", desc := "(I)[Ljava/lang/Object;" } : Jvm.MethodName) prog_50_method_6_code (4 : Nat) (Option.some (Jvm.ClassFile.FieldType.array (Jvm.ClassFile.FieldType.object "java/lang/Object")))) ∈ lw_good := pz_in (List.mem_of_getElem? (i := 1885) (by decide +kernel)) rfl
theorem wq_1894 : (Jvm.Cond.methodLink "java/util/ArrayList" (66 : Nat) ({ cls := "java/util/Arrays", name := "copyOf", desc := "([Ljava/lang/Object;I)[Ljava/lang/Object;" } : Jvm.MethodName)) ∈ lw_good := pz_in (List.mem_of_getElem? (i := 1894) (by decide +kernel)) rfl
theorem wq_1895 : (Jvm.Cond.static ({ cls := "java/util/Arrays", name := "copyOf", desc := "([Ljava/lang/Object;I)[Ljava/lang/Object;" } : Jvm.MethodName)) ∈ lw_good := pz_in (List.mem_of_getElem? (i := 1895) (by decide +kernel)) rfl
theorem wq_1896 : (Jvm.Cond.code ({ cls := "java/util/Arrays", name := "copyOf", desc := "([Ljava/lang/Object;I)[Ljava/lang/Object;" } : Jvm.MethodName) prog_52_method_119_code (2 : Nat) (Option.some (Jvm.ClassFile.FieldType.array (Jvm.ClassFile.FieldType.object "java/lang/Object")))) ∈ lw_good := pz_in (List.mem_of_getElem? (i := 1896) (by decide +kernel)) rfl
theorem wq_1897 : (Jvm.Cond.methodLink "java/util/Arrays" (86 : Nat) ({ cls := "java/lang/Object", name := "getClass", desc := "()Ljava/lang/Class;" } : Jvm.MethodName)) ∈ lw_good := pz_in (List.mem_of_getElem? (i := 1897) (by decide +kernel)) rfl
theorem wq_1898 : (Jvm.Cond.instanceMethod ({ cls := "java/lang/Object", name := "getClass", desc := "()Ljava/lang/Class;" } : Jvm.MethodName)) ∈ lw_good := pz_in (List.mem_of_getElem? (i := 1898) (by decide +kernel)) rfl
theorem wq_1930 : (Jvm.Cond.native ({ cls := "java/lang/Object", name := "getClass", desc := "()Ljava/lang/Class;" } : Jvm.MethodName)) ∈ lw_good := pz_in (List.mem_of_getElem? (i := 1930) (by decide +kernel)) rfl
theorem wq_1931 : (Jvm.Cond.methodLink "java/util/Arrays" (300 : Nat) ({ cls := "java/util/Arrays", name := "copyOf", desc := "([Ljava/lang/Object;ILjava/lang/Class;)[Ljava/lang/Object;" } : Jvm.MethodName)) ∈ lw_good := pz_in (List.mem_of_getElem? (i := 1931) (by decide +kernel)) rfl
theorem wq_1932 : (Jvm.Cond.static ({ cls := "java/util/Arrays", name := "copyOf", desc := "([Ljava/lang/Object;ILjava/lang/Class;)[Ljava/lang/Object;" } : Jvm.MethodName)) ∈ lw_good := pz_in (List.mem_of_getElem? (i := 1932) (by decide +kernel)) rfl
theorem wq_1933 : (Jvm.Cond.code ({ cls := "java/util/Arrays", name := "copyOf", desc := "([Ljava/lang/Object;ILjava/lang/Class;)[Ljava/lang/Object;" } : Jvm.MethodName) prog_52_method_120_code (4 : Nat) (Option.some (Jvm.ClassFile.FieldType.array (Jvm.ClassFile.FieldType.object "java/lang/Object")))) ∈ lw_good := pz_in (List.mem_of_getElem? (i := 1933) (by decide +kernel)) rfl
theorem wq_1934 : (Jvm.Cond.classLink "java/util/Arrays" (110 : Nat) "[Ljava/lang/Object;") ∈ lw_good := pz_in (List.mem_of_getElem? (i := 1934) (by decide +kernel)) rfl
theorem wq_1936 : (Jvm.Cond.classLink "java/util/Arrays" (2 : Nat) "java/lang/Object") ∈ lw_good := pz_in (List.mem_of_getElem? (i := 1936) (by decide +kernel)) rfl
theorem wq_1937 : (Jvm.Cond.methodLink "java/util/Arrays" (304 : Nat) ({ cls := "java/lang/Math", name := "min", desc := "(II)I" } : Jvm.MethodName)) ∈ lw_good := pz_in (List.mem_of_getElem? (i := 1937) (by decide +kernel)) rfl
theorem wq_1938 : (Jvm.Cond.methodLink "java/util/Arrays" (150 : Nat) ({ cls := "java/lang/System", name := "arraycopy", desc := "(Ljava/lang/Object;ILjava/lang/Object;II)V" } : Jvm.MethodName)) ∈ lw_good := pz_in (List.mem_of_getElem? (i := 1938) (by decide +kernel)) rfl
theorem wq_1939 : (Jvm.Cond.methodLink "java/util/ArrayList" (79 : Nat) ({ cls := "java/lang/Math", name := "max", desc := "(II)I" } : Jvm.MethodName)) ∈ lw_good := pz_in (List.mem_of_getElem? (i := 1939) (by decide +kernel)) rfl
theorem wq_1940 : (Jvm.Cond.classLink "java/util/ArrayList" (7 : Nat) "java/lang/Object") ∈ lw_good := pz_in (List.mem_of_getElem? (i := 1940) (by decide +kernel)) rfl
theorem wq_1941 : (Jvm.Cond.methodLink "SourcewrightLaw" (156 : Nat) ({ cls := "SourcewrightModel", name := "set", desc := "(II)I" } : Jvm.MethodName)) ∈ lw_good := pz_in (List.mem_of_getElem? (i := 1941) (by decide +kernel)) rfl
theorem wq_1942 : (Jvm.Cond.instanceMethod ({ cls := "SourcewrightModel", name := "set", desc := "(II)I" } : Jvm.MethodName)) ∈ lw_good := pz_in (List.mem_of_getElem? (i := 1942) (by decide +kernel)) rfl
theorem wq_1943 : (Jvm.Cond.selects "SourcewrightModel" ({ cls := "SourcewrightModel", name := "set", desc := "(II)I" } : Jvm.MethodName) ({ cls := "SourcewrightModel", name := "set", desc := "(II)I" } : Jvm.MethodName)) ∈ lw_good := pz_in (List.mem_of_getElem? (i := 1943) (by decide +kernel)) rfl
theorem wq_1944 : (Jvm.Cond.code ({ cls := "SourcewrightModel", name := "set", desc := "(II)I" } : Jvm.MethodName) prog_14_method_19_code (3 : Nat) (Option.some Jvm.ClassFile.FieldType.int)) ∈ lw_good := pz_in (List.mem_of_getElem? (i := 1944) (by decide +kernel)) rfl
theorem wq_1945 : (Jvm.Cond.methodLink "SourcewrightModel" (88 : Nat) ({ cls := "SourcewrightModel", name := "noByte", desc := "(I)Z" } : Jvm.MethodName)) ∈ lw_good := pz_in (List.mem_of_getElem? (i := 1945) (by decide +kernel)) rfl
theorem wq_1947 : (Jvm.Cond.instanceMethod ({ cls := "SourcewrightModel", name := "noByte", desc := "(I)Z" } : Jvm.MethodName)) ∈ lw_good := pz_in (List.mem_of_getElem? (i := 1947) (by decide +kernel)) rfl
theorem wq_1948 : (Jvm.Cond.code ({ cls := "SourcewrightModel", name := "noByte", desc := "(I)Z" } : Jvm.MethodName) prog_14_method_14_code (2 : Nat) (Option.some Jvm.ClassFile.FieldType.boolean)) ∈ lw_good := pz_in (List.mem_of_getElem? (i := 1948) (by decide +kernel)) rfl
theorem wq_1953 : (Jvm.Cond.methodLink "java/util/ArrayList" (118 : Nat) ({ cls := "java/util/Objects", name := "checkIndex", desc := "(II)I" } : Jvm.MethodName)) ∈ lw_good := pz_in (List.mem_of_getElem? (i := 1953) (by decide +kernel)) rfl
theorem wq_1954 : (Jvm.Cond.static ({ cls := "java/util/Objects", name := "checkIndex", desc := "(II)I" } : Jvm.MethodName)) ∈ lw_good := pz_in (List.mem_of_getElem? (i := 1954) (by decide +kernel)) rfl
theorem wq_1955 : (Jvm.Cond.code ({ cls := "java/util/Objects", name := "checkIndex", desc := "(II)I" } : Jvm.MethodName) prog_57_method_17_code (2 : Nat) (Option.some Jvm.ClassFile.FieldType.int)) ∈ lw_good := pz_in (List.mem_of_getElem? (i := 1955) (by decide +kernel)) rfl
theorem wq_1956 : (Jvm.Cond.methodLink "java/util/Objects" (105 : Nat) ({ cls := "jdk/internal/util/Preconditions", name := "checkIndex", desc := "(IILjava/util/function/BiFunction;)I" } : Jvm.MethodName)) ∈ lw_good := pz_in (List.mem_of_getElem? (i := 1956) (by decide +kernel)) rfl
theorem wq_1957 : (Jvm.Cond.methodLink "java/util/ArrayList" (123 : Nat) ({ cls := "java/util/ArrayList", name := "elementData", desc := "(I)Ljava/lang/Object;" } : Jvm.MethodName)) ∈ lw_good := pz_in (List.mem_of_getElem? (i := 1957) (by decide +kernel)) rfl
theorem wq_1958 : (Jvm.Cond.instanceMethod ({ cls := "java/util/ArrayList", name := "elementData", desc := "(I)Ljava/lang/Object;" } : Jvm.MethodName)) ∈ lw_good := pz_in (List.mem_of_getElem? (i := 1958) (by decide +kernel)) rfl
theorem wq_1959 : (Jvm.Cond.selects "java/util/ArrayList" ({ cls := "java/util/ArrayList", name := "elementData", desc := "(I)Ljava/lang/Object;" } : Jvm.MethodName) ({ cls := "java/util/ArrayList", name := "elementData", desc := "(I)Ljava/lang/Object;" } : Jvm.MethodName)) ∈ lw_good := pz_in (List.mem_of_getElem? (i := 1959) (by decide +kernel)) rfl
theorem wq_1960 : (Jvm.Cond.code ({ cls := "java/util/ArrayList", name := "elementData", desc := "(I)Ljava/lang/Object;" } : Jvm.MethodName) prog_50_method_18_code (2 : Nat) (Option.some (Jvm.ClassFile.FieldType.object "java/lang/Object"))) ∈ lw_good := pz_in (List.mem_of_getElem? (i := 1960) (by decide +kernel)) rfl
theorem wq_1961 : (Jvm.Cond.classLink "SourcewrightModel" (45 : Nat) "java/lang/Integer") ∈ lw_good := pz_in (List.mem_of_getElem? (i := 1961) (by decide +kernel)) rfl
theorem wq_1962 : (Jvm.Cond.methodLink "SourcewrightModel" (47 : Nat) ({ cls := "java/lang/Integer", name := "intValue", desc := "()I" } : Jvm.MethodName)) ∈ lw_good := pz_in (List.mem_of_getElem? (i := 1962) (by decide +kernel)) rfl
theorem wq_1963 : (Jvm.Cond.instanceMethod ({ cls := "java/lang/Integer", name := "intValue", desc := "()I" } : Jvm.MethodName)) ∈ lw_good := pz_in (List.mem_of_getElem? (i := 1963) (by decide +kernel)) rfl
theorem wq_1964 : (Jvm.Cond.selects "java/lang/Integer" ({ cls := "java/lang/Integer", name := "intValue", desc := "()I" } : Jvm.MethodName) ({ cls := "java/lang/Integer", name := "intValue", desc := "()I" } : Jvm.MethodName)) ∈ lw_good := pz_in (List.mem_of_getElem? (i := 1964) (by decide +kernel)) rfl
theorem wq_1965 : (Jvm.Cond.code ({ cls := "java/lang/Integer", name := "intValue", desc := "()I" } : Jvm.MethodName) prog_32_method_27_code (1 : Nat) (Option.some Jvm.ClassFile.FieldType.int)) ∈ lw_good := pz_in (List.mem_of_getElem? (i := 1965) (by decide +kernel)) rfl
theorem wq_1966 : (Jvm.Cond.methodLink "SourcewrightLaw" (160 : Nat) ({ cls := "SourcewrightModel", name := "wipe", desc := "()I" } : Jvm.MethodName)) ∈ lw_good := pz_in (List.mem_of_getElem? (i := 1966) (by decide +kernel)) rfl
theorem wq_1967 : (Jvm.Cond.instanceMethod ({ cls := "SourcewrightModel", name := "wipe", desc := "()I" } : Jvm.MethodName)) ∈ lw_good := pz_in (List.mem_of_getElem? (i := 1967) (by decide +kernel)) rfl
theorem wq_1968 : (Jvm.Cond.selects "SourcewrightModel" ({ cls := "SourcewrightModel", name := "wipe", desc := "()I" } : Jvm.MethodName) ({ cls := "SourcewrightModel", name := "wipe", desc := "()I" } : Jvm.MethodName)) ∈ lw_good := pz_in (List.mem_of_getElem? (i := 1968) (by decide +kernel)) rfl
theorem wq_1969 : (Jvm.Cond.code ({ cls := "SourcewrightModel", name := "wipe", desc := "()I" } : Jvm.MethodName) prog_14_method_20_code (2 : Nat) (Option.some Jvm.ClassFile.FieldType.int)) ∈ lw_good := pz_in (List.mem_of_getElem? (i := 1969) (by decide +kernel)) rfl
theorem wq_1970 : (Jvm.Cond.methodLink "SourcewrightModel" (96 : Nat) ({ cls := "java/util/ArrayList", name := "clear", desc := "()V" } : Jvm.MethodName)) ∈ lw_good := pz_in (List.mem_of_getElem? (i := 1970) (by decide +kernel)) rfl
theorem wq_1971 : (Jvm.Cond.instanceMethod ({ cls := "java/util/ArrayList", name := "clear", desc := "()V" } : Jvm.MethodName)) ∈ lw_good := pz_in (List.mem_of_getElem? (i := 1971) (by decide +kernel)) rfl
theorem wq_1972 : (Jvm.Cond.selects "java/util/ArrayList" ({ cls := "java/util/ArrayList", name := "clear", desc := "()V" } : Jvm.MethodName) ({ cls := "java/util/ArrayList", name := "clear", desc := "()V" } : Jvm.MethodName)) ∈ lw_good := pz_in (List.mem_of_getElem? (i := 1972) (by decide +kernel)) rfl
theorem wq_1973 : (Jvm.Cond.code ({ cls := "java/util/ArrayList", name := "clear", desc := "()V" } : Jvm.MethodName) prog_50_method_40_code (4 : Nat) (Option.none : Option Jvm.ClassFile.FieldType)) ∈ lw_good := pz_in (List.mem_of_getElem? (i := 1973) (by decide +kernel)) rfl
theorem wq_1974 : (Jvm.Cond.methodLink "SourcewrightLaw" (163 : Nat) ({ cls := "SourcewrightModel", name := "byteAt", desc := "(I)I" } : Jvm.MethodName)) ∈ lw_good := pz_in (List.mem_of_getElem? (i := 1974) (by decide +kernel)) rfl
theorem wq_1975 : (Jvm.Cond.instanceMethod ({ cls := "SourcewrightModel", name := "byteAt", desc := "(I)I" } : Jvm.MethodName)) ∈ lw_good := pz_in (List.mem_of_getElem? (i := 1975) (by decide +kernel)) rfl
theorem wq_1976 : (Jvm.Cond.selects "SourcewrightModel" ({ cls := "SourcewrightModel", name := "byteAt", desc := "(I)I" } : Jvm.MethodName) ({ cls := "SourcewrightModel", name := "byteAt", desc := "(I)I" } : Jvm.MethodName)) ∈ lw_good := pz_in (List.mem_of_getElem? (i := 1976) (by decide +kernel)) rfl
theorem wq_1977 : (Jvm.Cond.code ({ cls := "SourcewrightModel", name := "byteAt", desc := "(I)I" } : Jvm.MethodName) prog_14_method_21_code (2 : Nat) (Option.some Jvm.ClassFile.FieldType.int)) ∈ lw_good := pz_in (List.mem_of_getElem? (i := 1977) (by decide +kernel)) rfl
theorem wq_1978 : (Jvm.Cond.methodLink "SourcewrightModel" (41 : Nat) ({ cls := "java/util/ArrayList", name := "get", desc := "(I)Ljava/lang/Object;" } : Jvm.MethodName)) ∈ lw_good := pz_in (List.mem_of_getElem? (i := 1978) (by decide +kernel)) rfl
theorem wq_1979 : (Jvm.Cond.instanceMethod ({ cls := "java/util/ArrayList", name := "get", desc := "(I)Ljava/lang/Object;" } : Jvm.MethodName)) ∈ lw_good := pz_in (List.mem_of_getElem? (i := 1979) (by decide +kernel)) rfl
theorem wq_1980 : (Jvm.Cond.selects "java/util/ArrayList" ({ cls := "java/util/ArrayList", name := "get", desc := "(I)Ljava/lang/Object;" } : Jvm.MethodName) ({ cls := "java/util/ArrayList", name := "get", desc := "(I)Ljava/lang/Object;" } : Jvm.MethodName)) ∈ lw_good := pz_in (List.mem_of_getElem? (i := 1980) (by decide +kernel)) rfl
theorem wq_1981 : (Jvm.Cond.code ({ cls := "java/util/ArrayList", name := "get", desc := "(I)Ljava/lang/Object;" } : Jvm.MethodName) prog_50_method_20_code (2 : Nat) (Option.some (Jvm.ClassFile.FieldType.object "java/lang/Object"))) ∈ lw_good := pz_in (List.mem_of_getElem? (i := 1981) (by decide +kernel)) rfl
theorem wq_1982 : (Jvm.Cond.methodLink "SourcewrightLaw" (166 : Nat) ({ cls := "SourcewrightModel", name := "entry", desc := "(I)I" } : Jvm.MethodName)) ∈ lw_good := pz_in (List.mem_of_getElem? (i := 1982) (by decide +kernel)) rfl
theorem wq_1983 : (Jvm.Cond.instanceMethod ({ cls := "SourcewrightModel", name := "entry", desc := "(I)I" } : Jvm.MethodName)) ∈ lw_good := pz_in (List.mem_of_getElem? (i := 1983) (by decide +kernel)) rfl
theorem wq_1984 : (Jvm.Cond.selects "SourcewrightModel" ({ cls := "SourcewrightModel", name := "entry", desc := "(I)I" } : Jvm.MethodName) ({ cls := "SourcewrightModel", name := "entry", desc := "(I)I" } : Jvm.MethodName)) ∈ lw_good := pz_in (List.mem_of_getElem? (i := 1984) (by decide +kernel)) rfl
theorem wq_1985 : (Jvm.Cond.code ({ cls := "SourcewrightModel", name := "entry", desc := "(I)I" } : Jvm.MethodName) prog_14_method_22_code (2 : Nat) (Option.some Jvm.ClassFile.FieldType.int)) ∈ lw_good := pz_in (List.mem_of_getElem? (i := 1985) (by decide +kernel)) rfl
theorem wq_2039 : (Jvm.Cond.methodLink "SourcewrightLaw" (169 : Nat) ({ cls := "SourcewrightModel", name := "kind", desc := "(I)C" } : Jvm.MethodName)) ∈ lw_good := pz_in (List.mem_of_getElem? (i := 2039) (by decide +kernel)) rfl
theorem wq_2040 : (Jvm.Cond.instanceMethod ({ cls := "SourcewrightModel", name := "kind", desc := "(I)C" } : Jvm.MethodName)) ∈ lw_good := pz_in (List.mem_of_getElem? (i := 2040) (by decide +kernel)) rfl
theorem wq_2041 : (Jvm.Cond.selects "SourcewrightModel" ({ cls := "SourcewrightModel", name := "kind", desc := "(I)C" } : Jvm.MethodName) ({ cls := "SourcewrightModel", name := "kind", desc := "(I)C" } : Jvm.MethodName)) ∈ lw_good := pz_in (List.mem_of_getElem? (i := 2041) (by decide +kernel)) rfl
theorem wq_2042 : (Jvm.Cond.code ({ cls := "SourcewrightModel", name := "kind", desc := "(I)C" } : Jvm.MethodName) prog_14_method_23_code (2 : Nat) (Option.some Jvm.ClassFile.FieldType.char)) ∈ lw_good := pz_in (List.mem_of_getElem? (i := 2042) (by decide +kernel)) rfl
theorem wq_2043 : (Jvm.Cond.methodLink "SourcewrightModel" (59 : Nat) ({ cls := "SourcewrightModel", name := "read", desc := "()LSourcewrightModel$Reading;" } : Jvm.MethodName)) ∈ lw_good := pz_in (List.mem_of_getElem? (i := 2043) (by decide +kernel)) rfl
theorem wq_2045 : (Jvm.Cond.instanceMethod ({ cls := "SourcewrightModel", name := "read", desc := "()LSourcewrightModel$Reading;" } : Jvm.MethodName)) ∈ lw_good := pz_in (List.mem_of_getElem? (i := 2045) (by decide +kernel)) rfl
theorem wq_2046 : (Jvm.Cond.code ({ cls := "SourcewrightModel", name := "read", desc := "()LSourcewrightModel$Reading;" } : Jvm.MethodName) prog_14_method_13_code (1 : Nat) (Option.some (Jvm.ClassFile.FieldType.object "SourcewrightModel$Reading"))) ∈ lw_good := pz_in (List.mem_of_getElem? (i := 2046) (by decide +kernel)) rfl
theorem wq_2047 : (Jvm.Cond.classLink "SourcewrightModel" (50 : Nat) "SourcewrightModel$Reading") ∈ lw_good := pz_in (List.mem_of_getElem? (i := 2047) (by decide +kernel)) rfl
theorem wq_2048 : (Jvm.Cond.instantiable "SourcewrightModel$Reading" (4 : Nat)) ∈ lw_good := pz_in (List.mem_of_getElem? (i := 2048) (by decide +kernel)) rfl
theorem wq_2049 : (Jvm.Cond.methodLink "SourcewrightModel" (52 : Nat) ({ cls := "SourcewrightModel", name := "rowOf", desc := "(Ljava/util/ArrayList;)[I" } : Jvm.MethodName)) ∈ lw_good := pz_in (List.mem_of_getElem? (i := 2049) (by decide +kernel)) rfl
theorem wq_2050 : (Jvm.Cond.static ({ cls := "SourcewrightModel", name := "rowOf", desc := "(Ljava/util/ArrayList;)[I" } : Jvm.MethodName)) ∈ lw_good := pz_in (List.mem_of_getElem? (i := 2050) (by decide +kernel)) rfl
theorem wq_2051 : (Jvm.Cond.code ({ cls := "SourcewrightModel", name := "rowOf", desc := "(Ljava/util/ArrayList;)[I" } : Jvm.MethodName) prog_14_method_12_code (3 : Nat) (Option.some (Jvm.ClassFile.FieldType.array Jvm.ClassFile.FieldType.int))) ∈ lw_good := pz_in (List.mem_of_getElem? (i := 2051) (by decide +kernel)) rfl
theorem wq_2052 : (Jvm.Cond.methodLink "SourcewrightModel" (56 : Nat) ({ cls := "SourcewrightModel$Reading", name := "<init>", desc := "([ILjava/util/ArrayList;)V" } : Jvm.MethodName)) ∈ lw_good := pz_in (List.mem_of_getElem? (i := 2052) (by decide +kernel)) rfl
theorem wq_2053 : (Jvm.Cond.instanceMethod ({ cls := "SourcewrightModel$Reading", name := "<init>", desc := "([ILjava/util/ArrayList;)V" } : Jvm.MethodName)) ∈ lw_good := pz_in (List.mem_of_getElem? (i := 2053) (by decide +kernel)) rfl
theorem wq_2054 : (Jvm.Cond.code ({ cls := "SourcewrightModel$Reading", name := "<init>", desc := "([ILjava/util/ArrayList;)V" } : Jvm.MethodName) prog_16_method_1_code (7 : Nat) (Option.none : Option Jvm.ClassFile.FieldType)) ∈ lw_good := pz_in (List.mem_of_getElem? (i := 2054) (by decide +kernel)) rfl
theorem wq_2055 : (Jvm.Cond.methodLink "SourcewrightModel$Reading" (3 : Nat) ({ cls := "java/lang/Object", name := "<init>", desc := "()V" } : Jvm.MethodName)) ∈ lw_good := pz_in (List.mem_of_getElem? (i := 2055) (by decide +kernel)) rfl
theorem wq_2056 : (Jvm.Cond.classLink "SourcewrightModel$Reading" (9 : Nat) "java/util/ArrayList") ∈ lw_good := pz_in (List.mem_of_getElem? (i := 2056) (by decide +kernel)) rfl
theorem wq_2057 : (Jvm.Cond.methodLink "SourcewrightModel$Reading" (11 : Nat) ({ cls := "java/util/ArrayList", name := "<init>", desc := "()V" } : Jvm.MethodName)) ∈ lw_good := pz_in (List.mem_of_getElem? (i := 2057) (by decide +kernel)) rfl
theorem wq_2058 : (Jvm.Cond.methodLink "SourcewrightModel$Reading" (29 : Nat) ({ cls := "java/lang/Integer", name := "valueOf", desc := "(I)Ljava/lang/Integer;" } : Jvm.MethodName)) ∈ lw_good := pz_in (List.mem_of_getElem? (i := 2058) (by decide +kernel)) rfl
theorem wq_2059 : (Jvm.Cond.methodLink "SourcewrightModel$Reading" (35 : Nat) ({ cls := "java/util/ArrayList", name := "add", desc := "(Ljava/lang/Object;)Z" } : Jvm.MethodName)) ∈ lw_good := pz_in (List.mem_of_getElem? (i := 2059) (by decide +kernel)) rfl
theorem wq_2060 : (Jvm.Cond.methodLink "SourcewrightModel$Reading" (39 : Nat) ({ cls := "java/util/ArrayList", name := "addAll", desc := "(Ljava/util/Collection;)Z" } : Jvm.MethodName)) ∈ lw_good := pz_in (List.mem_of_getElem? (i := 2060) (by decide +kernel)) rfl
theorem wq_2061 : (Jvm.Cond.instanceMethod ({ cls := "java/util/ArrayList", name := "addAll", desc := "(Ljava/util/Collection;)Z" } : Jvm.MethodName)) ∈ lw_good := pz_in (List.mem_of_getElem? (i := 2061) (by decide +kernel)) rfl
theorem wq_2062 : (Jvm.Cond.selects "java/util/ArrayList" ({ cls := "java/util/ArrayList", name := "addAll", desc := "(Ljava/util/Collection;)Z" } : Jvm.MethodName) ({ cls := "java/util/ArrayList", name := "addAll", desc := "(Ljava/util/Collection;)Z" } : Jvm.MethodName)) ∈ lw_good := pz_in (List.mem_of_getElem? (i := 2062) (by decide +kernel)) rfl
theorem wq_2063 : (Jvm.Cond.code ({ cls := "java/util/ArrayList", name := "addAll", desc := "(Ljava/util/Collection;)Z" } : Jvm.MethodName) prog_50_method_41_code (6 : Nat) (Option.some Jvm.ClassFile.FieldType.boolean)) ∈ lw_good := pz_in (List.mem_of_getElem? (i := 2063) (by decide +kernel)) rfl
theorem wq_2065 : (Jvm.Cond.methodLink "java/util/ArrayList" (42 : Nat) ({ cls := "java/util/Collection", name := "toArray", desc := "()[Ljava/lang/Object;" } : Jvm.MethodName)) ∈ lw_good := pz_in (List.mem_of_getElem? (i := 2065) (by decide +kernel)) rfl
theorem wq_2069 : (Jvm.Cond.selects "java/util/ArrayList" ({ cls := "java/util/Collection", name := "toArray", desc := "()[Ljava/lang/Object;" } : Jvm.MethodName) ({ cls := "java/util/ArrayList", name := "toArray", desc := "()[Ljava/lang/Object;" } : Jvm.MethodName)) ∈ lw_good := pz_in (List.mem_of_getElem? (i := 2069) (by decide +kernel)) rfl
theorem wq_2071 : (Jvm.Cond.instanceMethod ({ cls := "java/util/ArrayList", name := "toArray", desc := "()[Ljava/lang/Object;" } : Jvm.MethodName)) ∈ lw_good := pz_in (List.mem_of_getElem? (i := 2071) (by decide +kernel)) rfl
theorem wq_2073 : (Jvm.Cond.code ({ cls := "java/util/ArrayList", name := "toArray", desc := "()[Ljava/lang/Object;" } : Jvm.MethodName) prog_50_method_16_code (1 : Nat) (Option.some (Jvm.ClassFile.FieldType.array (Jvm.ClassFile.FieldType.object "java/lang/Object")))) ∈ lw_good := pz_in (List.mem_of_getElem? (i := 2073) (by decide +kernel)) rfl
theorem wq_2075 : (Jvm.Cond.methodLink "SourcewrightModel$Reading" (43 : Nat) ({ cls := "SourcewrightModel$Reading", name := "walked", desc := "([Z)[Z" } : Jvm.MethodName)) ∈ lw_good := pz_in (List.mem_of_getElem? (i := 2075) (by decide +kernel)) rfl
theorem wq_2077 : (Jvm.Cond.instanceMethod ({ cls := "SourcewrightModel$Reading", name := "walked", desc := "([Z)[Z" } : Jvm.MethodName)) ∈ lw_good := pz_in (List.mem_of_getElem? (i := 2077) (by decide +kernel)) rfl
theorem wq_2078 : (Jvm.Cond.code ({ cls := "SourcewrightModel$Reading", name := "walked", desc := "([Z)[Z" } : Jvm.MethodName) prog_16_method_2_code (9 : Nat) (Option.some (Jvm.ClassFile.FieldType.array Jvm.ClassFile.FieldType.boolean))) ∈ lw_good := pz_in (List.mem_of_getElem? (i := 2078) (by decide +kernel)) rfl
theorem wq_2079 : (Jvm.Cond.methodLink "SourcewrightModel$Reading" (60 : Nat) ({ cls := "java/util/ArrayList", name := "iterator", desc := "()Ljava/util/Iterator;" } : Jvm.MethodName)) ∈ lw_good := pz_in (List.mem_of_getElem? (i := 2079) (by decide +kernel)) rfl
theorem wq_2080 : (Jvm.Cond.instanceMethod ({ cls := "java/util/ArrayList", name := "iterator", desc := "()Ljava/util/Iterator;" } : Jvm.MethodName)) ∈ lw_good := pz_in (List.mem_of_getElem? (i := 2080) (by decide +kernel)) rfl
theorem wq_2081 : (Jvm.Cond.selects "java/util/ArrayList" ({ cls := "java/util/ArrayList", name := "iterator", desc := "()Ljava/util/Iterator;" } : Jvm.MethodName) ({ cls := "java/util/ArrayList", name := "iterator", desc := "()Ljava/util/Iterator;" } : Jvm.MethodName)) ∈ lw_good := pz_in (List.mem_of_getElem? (i := 2081) (by decide +kernel)) rfl
theorem wq_2082 : (Jvm.Cond.code ({ cls := "java/util/ArrayList", name := "iterator", desc := "()Ljava/util/Iterator;" } : Jvm.MethodName) prog_50_method_55_code (1 : Nat) (Option.some (Jvm.ClassFile.FieldType.object "java/util/Iterator"))) ∈ lw_good := pz_in (List.mem_of_getElem? (i := 2082) (by decide +kernel)) rfl
theorem wq_2083 : (Jvm.Cond.classLink "java/util/ArrayList" (267 : Nat) "java/util/ArrayList$Itr") ∈ lw_good := pz_in (List.mem_of_getElem? (i := 2083) (by decide +kernel)) rfl
theorem wq_2084 : (Jvm.Cond.instantiable "java/util/ArrayList$Itr" (4 : Nat)) ∈ lw_good := pz_in (List.mem_of_getElem? (i := 2084) (by decide +kernel)) rfl
theorem wq_2085 : (Jvm.Cond.methodLink "java/util/ArrayList" (269 : Nat) ({ cls := "java/util/ArrayList$Itr", name := "<init>", desc := "(Ljava/util/ArrayList;)V" } : Jvm.MethodName)) ∈ lw_good := pz_in (List.mem_of_getElem? (i := 2085) (by decide +kernel)) rfl
theorem wq_2086 : (Jvm.Cond.instanceMethod ({ cls := "java/util/ArrayList$Itr", name := "<init>", desc := "(Ljava/util/ArrayList;)V" } : Jvm.MethodName)) ∈ lw_good := pz_in (List.mem_of_getElem? (i := 2086) (by decide +kernel)) rfl
theorem wq_2087 : (Jvm.Cond.code ({ cls := "java/util/ArrayList$Itr", name := "<init>", desc := "(Ljava/util/ArrayList;)V" } : Jvm.MethodName) prog_51_method_1_code (2 : Nat) (Option.none : Option Jvm.ClassFile.FieldType)) ∈ lw_good := pz_in (List.mem_of_getElem? (i := 2087) (by decide +kernel)) rfl
theorem wq_2088 : (Jvm.Cond.methodLink "java/util/ArrayList$Itr" (7 : Nat) ({ cls := "java/lang/Object", name := "<init>", desc := "()V" } : Jvm.MethodName)) ∈ lw_good := pz_in (List.mem_of_getElem? (i := 2088) (by decide +kernel)) rfl
theorem wq_2089 : (Jvm.Cond.fieldLink "java/util/ArrayList$Itr" (25 : Nat) "java/util/ArrayList$Itr" "cursor" "I") ∈ lw_good := pz_in (List.mem_of_getElem? (i := 2089) (by decide +kernel)) rfl
theorem wq_2090 : (Jvm.Cond.fieldLink "java/util/ArrayList$Itr" (13 : Nat) "java/util/ArrayList$Itr" "lastRet" "I") ∈ lw_good := pz_in (List.mem_of_getElem? (i := 2090) (by decide +kernel)) rfl
theorem wq_2091 : (Jvm.Cond.fieldLink "java/util/ArrayList$Itr" (22 : Nat) "java/util/ArrayList$Itr" "expectedModCount" "I") ∈ lw_good := pz_in (List.mem_of_getElem? (i := 2091) (by decide +kernel)) rfl
theorem wq_2092 : (Jvm.Cond.fieldLink "java/util/ArrayList$Itr" (1 : Nat) "java/util/ArrayList$Itr" "this$0" "Ljava/util/ArrayList;") ∈ lw_good := pz_in (List.mem_of_getElem? (i := 2092) (by decide +kernel)) rfl
theorem wq_2093 : (Jvm.Cond.lays "java/util/ArrayList$Itr" "java/util/ArrayList$Itr" "cursor" "I") ∈ lw_good := pz_in (List.mem_of_getElem? (i := 2093) (by decide +kernel)) rfl
theorem wq_2095 : (Jvm.Cond.lays "java/util/ArrayList$Itr" "java/util/ArrayList$Itr" "lastRet" "I") ∈ lw_good := pz_in (List.mem_of_getElem? (i := 2095) (by decide +kernel)) rfl
theorem wq_2097 : (Jvm.Cond.lays "java/util/ArrayList$Itr" "java/util/ArrayList$Itr" "expectedModCount" "I") ∈ lw_good := pz_in (List.mem_of_getElem? (i := 2097) (by decide +kernel)) rfl
theorem wq_2099 : (Jvm.Cond.laysFinal "java/util/ArrayList$Itr" "java/util/ArrayList$Itr" "this$0" "Ljava/util/ArrayList;") ∈ lw_good := pz_in (List.mem_of_getElem? (i := 2099) (by decide +kernel)) rfl
theorem wq_2103 : (Jvm.Cond.methodLink "SourcewrightModel$Reading" (64 : Nat) ({ cls := "java/util/Iterator", name := "hasNext", desc := "()Z" } : Jvm.MethodName)) ∈ lw_good := pz_in (List.mem_of_getElem? (i := 2103) (by decide +kernel)) rfl
theorem wq_2107 : (Jvm.Cond.selects "java/util/ArrayList$Itr" ({ cls := "java/util/Iterator", name := "hasNext", desc := "()Z" } : Jvm.MethodName) ({ cls := "java/util/ArrayList$Itr", name := "hasNext", desc := "()Z" } : Jvm.MethodName)) ∈ lw_good := pz_in (List.mem_of_getElem? (i := 2107) (by decide +kernel)) rfl
theorem wq_2109 : (Jvm.Cond.instanceMethod ({ cls := "java/util/ArrayList$Itr", name := "hasNext", desc := "()Z" } : Jvm.MethodName)) ∈ lw_good := pz_in (List.mem_of_getElem? (i := 2109) (by decide +kernel)) rfl
theorem wq_2111 : (Jvm.Cond.code ({ cls := "java/util/ArrayList$Itr", name := "hasNext", desc := "()Z" } : Jvm.MethodName) prog_51_method_2_code (1 : Nat) (Option.some Jvm.ClassFile.FieldType.boolean)) ∈ lw_good := pz_in (List.mem_of_getElem? (i := 2111) (by decide +kernel)) rfl
theorem wq_2113 : (Jvm.Cond.methodLink "SourcewrightModel$Reading" (70 : Nat) ({ cls := "java/util/Iterator", name := "next", desc := "()Ljava/lang/Object;" } : Jvm.MethodName)) ∈ lw_good := pz_in (List.mem_of_getElem? (i := 2113) (by decide +kernel)) rfl
theorem wq_2116 : (Jvm.Cond.selects "java/util/ArrayList$Itr" ({ cls := "java/util/Iterator", name := "next", desc := "()Ljava/lang/Object;" } : Jvm.MethodName) ({ cls := "java/util/ArrayList$Itr", name := "next", desc := "()Ljava/lang/Object;" } : Jvm.MethodName)) ∈ lw_good := pz_in (List.mem_of_getElem? (i := 2116) (by decide +kernel)) rfl
theorem wq_2118 : (Jvm.Cond.instanceMethod ({ cls := "java/util/ArrayList$Itr", name := "next", desc := "()Ljava/lang/Object;" } : Jvm.MethodName)) ∈ lw_good := pz_in (List.mem_of_getElem? (i := 2118) (by decide +kernel)) rfl
theorem wq_2120 : (Jvm.Cond.code ({ cls := "java/util/ArrayList$Itr", name := "next", desc := "()Ljava/lang/Object;" } : Jvm.MethodName) prog_51_method_3_code (3 : Nat) (Option.some (Jvm.ClassFile.FieldType.object "java/lang/Object"))) ∈ lw_good := pz_in (List.mem_of_getElem? (i := 2120) (by decide +kernel)) rfl
theorem wq_2121 : (Jvm.Cond.methodLink "java/util/ArrayList$Itr" (31 : Nat) ({ cls := "java/util/ArrayList$Itr", name := "checkForComodification", desc := "()V" } : Jvm.MethodName)) ∈ lw_good := pz_in (List.mem_of_getElem? (i := 2121) (by decide +kernel)) rfl
theorem wq_2122 : (Jvm.Cond.instanceMethod ({ cls := "java/util/ArrayList$Itr", name := "checkForComodification", desc := "()V" } : Jvm.MethodName)) ∈ lw_good := pz_in (List.mem_of_getElem? (i := 2122) (by decide +kernel)) rfl
theorem wq_2123 : (Jvm.Cond.selects "java/util/ArrayList$Itr" ({ cls := "java/util/ArrayList$Itr", name := "checkForComodification", desc := "()V" } : Jvm.MethodName) ({ cls := "java/util/ArrayList$Itr", name := "checkForComodification", desc := "()V" } : Jvm.MethodName)) ∈ lw_good := pz_in (List.mem_of_getElem? (i := 2123) (by decide +kernel)) rfl
theorem wq_2124 : (Jvm.Cond.code ({ cls := "java/util/ArrayList$Itr", name := "checkForComodification", desc := "()V" } : Jvm.MethodName) prog_51_method_6_code (1 : Nat) (Option.none : Option Jvm.ClassFile.FieldType)) ∈ lw_good := pz_in (List.mem_of_getElem? (i := 2124) (by decide +kernel)) rfl
theorem wq_2136 : (Jvm.Cond.classLink "SourcewrightModel$Reading" (30 : Nat) "java/lang/Integer") ∈ lw_good := pz_in (List.mem_of_getElem? (i := 2136) (by decide +kernel)) rfl
theorem wq_2137 : (Jvm.Cond.methodLink "SourcewrightModel$Reading" (74 : Nat) ({ cls := "java/lang/Integer", name := "intValue", desc := "()I" } : Jvm.MethodName)) ∈ lw_good := pz_in (List.mem_of_getElem? (i := 2137) (by decide +kernel)) rfl
theorem wq_2139 : (Jvm.Cond.static ({ cls := "SourcewrightModel", name := "isWhole", desc := "([II)Z" } : Jvm.MethodName)) ∈ lw_good := pz_in (List.mem_of_getElem? (i := 2139) (by decide +kernel)) rfl
theorem wq_2140 : (Jvm.Cond.code ({ cls := "SourcewrightModel", name := "isWhole", desc := "([II)Z" } : Jvm.MethodName) prog_14_method_3_code (2 : Nat) (Option.some Jvm.ClassFile.FieldType.boolean)) ∈ lw_good := pz_in (List.mem_of_getElem? (i := 2140) (by decide +kernel)) rfl
theorem wq_2141 : (Jvm.Cond.methodLink "SourcewrightModel" (7 : Nat) ({ cls := "SourcewrightModel", name := "told", desc := "(I)I" } : Jvm.MethodName)) ∈ lw_good := pz_in (List.mem_of_getElem? (i := 2141) (by decide +kernel)) rfl
theorem wq_2142 : (Jvm.Cond.static ({ cls := "SourcewrightModel", name := "told", desc := "(I)I" } : Jvm.MethodName)) ∈ lw_good := pz_in (List.mem_of_getElem? (i := 2142) (by decide +kernel)) rfl
theorem wq_2143 : (Jvm.Cond.code ({ cls := "SourcewrightModel", name := "told", desc := "(I)I" } : Jvm.MethodName) prog_14_method_2_code (3 : Nat) (Option.some Jvm.ClassFile.FieldType.int)) ∈ lw_good := pz_in (List.mem_of_getElem? (i := 2143) (by decide +kernel)) rfl
theorem wq_2144 : (Jvm.Cond.methodLink "SourcewrightModel$Reading" (82 : Nat) ({ cls := "java/util/ArrayList", name := "isEmpty", desc := "()Z" } : Jvm.MethodName)) ∈ lw_good := pz_in (List.mem_of_getElem? (i := 2144) (by decide +kernel)) rfl
theorem wq_2145 : (Jvm.Cond.instanceMethod ({ cls := "java/util/ArrayList", name := "isEmpty", desc := "()Z" } : Jvm.MethodName)) ∈ lw_good := pz_in (List.mem_of_getElem? (i := 2145) (by decide +kernel)) rfl
theorem wq_2146 : (Jvm.Cond.selects "java/util/ArrayList" ({ cls := "java/util/ArrayList", name := "isEmpty", desc := "()Z" } : Jvm.MethodName) ({ cls := "java/util/ArrayList", name := "isEmpty", desc := "()Z" } : Jvm.MethodName)) ∈ lw_good := pz_in (List.mem_of_getElem? (i := 2146) (by decide +kernel)) rfl
theorem wq_2147 : (Jvm.Cond.code ({ cls := "java/util/ArrayList", name := "isEmpty", desc := "()Z" } : Jvm.MethodName) prog_50_method_9_code (1 : Nat) (Option.some Jvm.ClassFile.FieldType.boolean)) ∈ lw_good := pz_in (List.mem_of_getElem? (i := 2147) (by decide +kernel)) rfl
theorem wq_2148 : (Jvm.Cond.methodLink "SourcewrightModel$Reading" (85 : Nat) ({ cls := "java/util/ArrayList", name := "size", desc := "()I" } : Jvm.MethodName)) ∈ lw_good := pz_in (List.mem_of_getElem? (i := 2148) (by decide +kernel)) rfl
theorem wq_2158 : (Jvm.Cond.static ({ cls := "SourcewrightModel", name := "isGood", desc := "([II)Z" } : Jvm.MethodName)) ∈ lw_good := pz_in (List.mem_of_getElem? (i := 2158) (by decide +kernel)) rfl
theorem wq_2159 : (Jvm.Cond.code ({ cls := "SourcewrightModel", name := "isGood", desc := "([II)Z" } : Jvm.MethodName) prog_14_method_4_code (4 : Nat) (Option.some Jvm.ClassFile.FieldType.boolean)) ∈ lw_good := pz_in (List.mem_of_getElem? (i := 2159) (by decide +kernel)) rfl
theorem wq_2339 : (Jvm.Cond.fieldLink "SourcewrightModel$Reading" (21 : Nat) "SourcewrightModel$Reading" "code" "[I") ∈ lw_good := pz_in (List.mem_of_getElem? (i := 2339) (by decide +kernel)) rfl
theorem wq_2342 : (Jvm.Cond.fieldLink "SourcewrightModel$Reading" (12 : Nat) "SourcewrightModel$Reading" "entries" "Ljava/util/ArrayList;") ∈ lw_good := pz_in (List.mem_of_getElem? (i := 2342) (by decide +kernel)) rfl
theorem wq_2343 : (Jvm.Cond.fieldLink "SourcewrightModel$Reading" (25 : Nat) "SourcewrightModel$Reading" "isWalked" "[Z") ∈ lw_good := pz_in (List.mem_of_getElem? (i := 2343) (by decide +kernel)) rfl
theorem wq_2344 : (Jvm.Cond.fieldLink "SourcewrightModel$Reading" (18 : Nat) "SourcewrightModel$Reading" "functions" "Ljava/util/ArrayList;") ∈ lw_good := pz_in (List.mem_of_getElem? (i := 2344) (by decide +kernel)) rfl
theorem wq_2347 : (Jvm.Cond.laysFinal "SourcewrightModel$Reading" "SourcewrightModel$Reading" "code" "[I") ∈ lw_good := pz_in (List.mem_of_getElem? (i := 2347) (by decide +kernel)) rfl
theorem wq_2349 : (Jvm.Cond.laysFinal "SourcewrightModel$Reading" "SourcewrightModel$Reading" "entries" "Ljava/util/ArrayList;") ∈ lw_good := pz_in (List.mem_of_getElem? (i := 2349) (by decide +kernel)) rfl
theorem wq_2351 : (Jvm.Cond.laysFinal "SourcewrightModel$Reading" "SourcewrightModel$Reading" "isWalked" "[Z") ∈ lw_good := pz_in (List.mem_of_getElem? (i := 2351) (by decide +kernel)) rfl
theorem wq_2353 : (Jvm.Cond.laysFinal "SourcewrightModel$Reading" "SourcewrightModel$Reading" "functions" "Ljava/util/ArrayList;") ∈ lw_good := pz_in (List.mem_of_getElem? (i := 2353) (by decide +kernel)) rfl
theorem wq_2365 : (Jvm.Cond.methodLink "SourcewrightLaw" (172 : Nat) ({ cls := "SourcewrightModel", name := "isInDoubt", desc := "(I)Z" } : Jvm.MethodName)) ∈ lw_good := pz_in (List.mem_of_getElem? (i := 2365) (by decide +kernel)) rfl
theorem wq_2366 : (Jvm.Cond.instanceMethod ({ cls := "SourcewrightModel", name := "isInDoubt", desc := "(I)Z" } : Jvm.MethodName)) ∈ lw_good := pz_in (List.mem_of_getElem? (i := 2366) (by decide +kernel)) rfl
theorem wq_2367 : (Jvm.Cond.selects "SourcewrightModel" ({ cls := "SourcewrightModel", name := "isInDoubt", desc := "(I)Z" } : Jvm.MethodName) ({ cls := "SourcewrightModel", name := "isInDoubt", desc := "(I)Z" } : Jvm.MethodName)) ∈ lw_good := pz_in (List.mem_of_getElem? (i := 2367) (by decide +kernel)) rfl
theorem wq_2368 : (Jvm.Cond.code ({ cls := "SourcewrightModel", name := "isInDoubt", desc := "(I)Z" } : Jvm.MethodName) prog_14_method_24_code (2 : Nat) (Option.some Jvm.ClassFile.FieldType.boolean)) ∈ lw_good := pz_in (List.mem_of_getElem? (i := 2368) (by decide +kernel)) rfl
theorem wq_2373 : (Jvm.Cond.methodLink "SourcewrightLaw" (176 : Nat) ({ cls := "SourcewrightModel", name := "doubts", desc := "()I" } : Jvm.MethodName)) ∈ lw_good := pz_in (List.mem_of_getElem? (i := 2373) (by decide +kernel)) rfl
theorem wq_2374 : (Jvm.Cond.instanceMethod ({ cls := "SourcewrightModel", name := "doubts", desc := "()I" } : Jvm.MethodName)) ∈ lw_good := pz_in (List.mem_of_getElem? (i := 2374) (by decide +kernel)) rfl
theorem wq_2375 : (Jvm.Cond.selects "SourcewrightModel" ({ cls := "SourcewrightModel", name := "doubts", desc := "()I" } : Jvm.MethodName) ({ cls := "SourcewrightModel", name := "doubts", desc := "()I" } : Jvm.MethodName)) ∈ lw_good := pz_in (List.mem_of_getElem? (i := 2375) (by decide +kernel)) rfl
theorem wq_2376 : (Jvm.Cond.code ({ cls := "SourcewrightModel", name := "doubts", desc := "()I" } : Jvm.MethodName) prog_14_method_25_code (4 : Nat) (Option.some Jvm.ClassFile.FieldType.int)) ∈ lw_good := pz_in (List.mem_of_getElem? (i := 2376) (by decide +kernel)) rfl
theorem wq_2377 : (Jvm.Cond.methodLink "SourcewrightLaw" (179 : Nat) ({ cls := "SourcewrightModel", name := "length", desc := "(I)I" } : Jvm.MethodName)) ∈ lw_good := pz_in (List.mem_of_getElem? (i := 2377) (by decide +kernel)) rfl
theorem wq_2378 : (Jvm.Cond.instanceMethod ({ cls := "SourcewrightModel", name := "length", desc := "(I)I" } : Jvm.MethodName)) ∈ lw_good := pz_in (List.mem_of_getElem? (i := 2378) (by decide +kernel)) rfl
theorem wq_2379 : (Jvm.Cond.selects "SourcewrightModel" ({ cls := "SourcewrightModel", name := "length", desc := "(I)I" } : Jvm.MethodName) ({ cls := "SourcewrightModel", name := "length", desc := "(I)I" } : Jvm.MethodName)) ∈ lw_good := pz_in (List.mem_of_getElem? (i := 2379) (by decide +kernel)) rfl
theorem wq_2380 : (Jvm.Cond.code ({ cls := "SourcewrightModel", name := "length", desc := "(I)I" } : Jvm.MethodName) prog_14_method_26_code (3 : Nat) (Option.some Jvm.ClassFile.FieldType.int)) ∈ lw_good := pz_in (List.mem_of_getElem? (i := 2380) (by decide +kernel)) rfl
theorem wq_2383 : (Jvm.Cond.methodLink "SourcewrightLaw" (183 : Nat) ({ cls := "SourcewrightModel", name := "functions", desc := "()I" } : Jvm.MethodName)) ∈ lw_good := pz_in (List.mem_of_getElem? (i := 2383) (by decide +kernel)) rfl
theorem wq_2384 : (Jvm.Cond.instanceMethod ({ cls := "SourcewrightModel", name := "functions", desc := "()I" } : Jvm.MethodName)) ∈ lw_good := pz_in (List.mem_of_getElem? (i := 2384) (by decide +kernel)) rfl
theorem wq_2385 : (Jvm.Cond.selects "SourcewrightModel" ({ cls := "SourcewrightModel", name := "functions", desc := "()I" } : Jvm.MethodName) ({ cls := "SourcewrightModel", name := "functions", desc := "()I" } : Jvm.MethodName)) ∈ lw_good := pz_in (List.mem_of_getElem? (i := 2385) (by decide +kernel)) rfl
theorem wq_2386 : (Jvm.Cond.code ({ cls := "SourcewrightModel", name := "functions", desc := "()I" } : Jvm.MethodName) prog_14_method_27_code (1 : Nat) (Option.some Jvm.ClassFile.FieldType.int)) ∈ lw_good := pz_in (List.mem_of_getElem? (i := 2386) (by decide +kernel)) rfl
theorem wq_2387 : (Jvm.Cond.methodLink "SourcewrightLaw" (186 : Nat) ({ cls := "SourcewrightModel", name := "entryOf", desc := "(I)I" } : Jvm.MethodName)) ∈ lw_good := pz_in (List.mem_of_getElem? (i := 2387) (by decide +kernel)) rfl
theorem wq_2388 : (Jvm.Cond.instanceMethod ({ cls := "SourcewrightModel", name := "entryOf", desc := "(I)I" } : Jvm.MethodName)) ∈ lw_good := pz_in (List.mem_of_getElem? (i := 2388) (by decide +kernel)) rfl
theorem wq_2389 : (Jvm.Cond.selects "SourcewrightModel" ({ cls := "SourcewrightModel", name := "entryOf", desc := "(I)I" } : Jvm.MethodName) ({ cls := "SourcewrightModel", name := "entryOf", desc := "(I)I" } : Jvm.MethodName)) ∈ lw_good := pz_in (List.mem_of_getElem? (i := 2389) (by decide +kernel)) rfl
theorem wq_2390 : (Jvm.Cond.code ({ cls := "SourcewrightModel", name := "entryOf", desc := "(I)I" } : Jvm.MethodName) prog_14_method_28_code (3 : Nat) (Option.some Jvm.ClassFile.FieldType.int)) ∈ lw_good := pz_in (List.mem_of_getElem? (i := 2390) (by decide +kernel)) rfl
theorem wq_2391 : (Jvm.Cond.methodLink "SourcewrightModel" (68 : Nat) ({ cls := "SourcewrightModel", name := "function", desc := "(I)LSourcewrightModel$Function;" } : Jvm.MethodName)) ∈ lw_good := pz_in (List.mem_of_getElem? (i := 2391) (by decide +kernel)) rfl
theorem wq_2393 : (Jvm.Cond.instanceMethod ({ cls := "SourcewrightModel", name := "function", desc := "(I)LSourcewrightModel$Function;" } : Jvm.MethodName)) ∈ lw_good := pz_in (List.mem_of_getElem? (i := 2393) (by decide +kernel)) rfl
theorem wq_2394 : (Jvm.Cond.code ({ cls := "SourcewrightModel", name := "function", desc := "(I)LSourcewrightModel$Function;" } : Jvm.MethodName) prog_14_method_15_code (3 : Nat) (Option.some (Jvm.ClassFile.FieldType.object "SourcewrightModel$Function"))) ∈ lw_good := pz_in (List.mem_of_getElem? (i := 2394) (by decide +kernel)) rfl
theorem wq_2396 : (Jvm.Cond.methodLink "SourcewrightLaw" (189 : Nat) ({ cls := "SourcewrightModel", name := "functionOf", desc := "(I)I" } : Jvm.MethodName)) ∈ lw_good := pz_in (List.mem_of_getElem? (i := 2396) (by decide +kernel)) rfl
theorem wq_2397 : (Jvm.Cond.instanceMethod ({ cls := "SourcewrightModel", name := "functionOf", desc := "(I)I" } : Jvm.MethodName)) ∈ lw_good := pz_in (List.mem_of_getElem? (i := 2397) (by decide +kernel)) rfl
theorem wq_2398 : (Jvm.Cond.selects "SourcewrightModel" ({ cls := "SourcewrightModel", name := "functionOf", desc := "(I)I" } : Jvm.MethodName) ({ cls := "SourcewrightModel", name := "functionOf", desc := "(I)I" } : Jvm.MethodName)) ∈ lw_good := pz_in (List.mem_of_getElem? (i := 2398) (by decide +kernel)) rfl
theorem wq_2399 : (Jvm.Cond.code ({ cls := "SourcewrightModel", name := "functionOf", desc := "(I)I" } : Jvm.MethodName) prog_14_method_29_code (4 : Nat) (Option.some Jvm.ClassFile.FieldType.int)) ∈ lw_good := pz_in (List.mem_of_getElem? (i := 2399) (by decide +kernel)) rfl
theorem wq_2404 : (Jvm.Cond.methodLink "SourcewrightLaw" (192 : Nat) ({ cls := "SourcewrightModel", name := "sharers", desc := "(I)I" } : Jvm.MethodName)) ∈ lw_good := pz_in (List.mem_of_getElem? (i := 2404) (by decide +kernel)) rfl
theorem wq_2405 : (Jvm.Cond.instanceMethod ({ cls := "SourcewrightModel", name := "sharers", desc := "(I)I" } : Jvm.MethodName)) ∈ lw_good := pz_in (List.mem_of_getElem? (i := 2405) (by decide +kernel)) rfl
theorem wq_2406 : (Jvm.Cond.selects "SourcewrightModel" ({ cls := "SourcewrightModel", name := "sharers", desc := "(I)I" } : Jvm.MethodName) ({ cls := "SourcewrightModel", name := "sharers", desc := "(I)I" } : Jvm.MethodName)) ∈ lw_good := pz_in (List.mem_of_getElem? (i := 2406) (by decide +kernel)) rfl
theorem wq_2407 : (Jvm.Cond.code ({ cls := "SourcewrightModel", name := "sharers", desc := "(I)I" } : Jvm.MethodName) prog_14_method_30_code (5 : Nat) (Option.some Jvm.ClassFile.FieldType.int)) ∈ lw_good := pz_in (List.mem_of_getElem? (i := 2407) (by decide +kernel)) rfl
theorem wq_2408 : (Jvm.Cond.methodLink "SourcewrightModel" (122 : Nat) ({ cls := "java/util/ArrayList", name := "iterator", desc := "()Ljava/util/Iterator;" } : Jvm.MethodName)) ∈ lw_good := pz_in (List.mem_of_getElem? (i := 2408) (by decide +kernel)) rfl
theorem wq_2410 : (Jvm.Cond.methodLink "SourcewrightModel" (126 : Nat) ({ cls := "java/util/Iterator", name := "hasNext", desc := "()Z" } : Jvm.MethodName)) ∈ lw_good := pz_in (List.mem_of_getElem? (i := 2410) (by decide +kernel)) rfl
theorem wq_2413 : (Jvm.Cond.methodLink "SourcewrightLaw" (195 : Nat) ({ cls := "SourcewrightModel", name := "mayReturn", desc := "(I)Z" } : Jvm.MethodName)) ∈ lw_good := pz_in (List.mem_of_getElem? (i := 2413) (by decide +kernel)) rfl
theorem wq_2414 : (Jvm.Cond.instanceMethod ({ cls := "SourcewrightModel", name := "mayReturn", desc := "(I)Z" } : Jvm.MethodName)) ∈ lw_good := pz_in (List.mem_of_getElem? (i := 2414) (by decide +kernel)) rfl
theorem wq_2415 : (Jvm.Cond.selects "SourcewrightModel" ({ cls := "SourcewrightModel", name := "mayReturn", desc := "(I)Z" } : Jvm.MethodName) ({ cls := "SourcewrightModel", name := "mayReturn", desc := "(I)Z" } : Jvm.MethodName)) ∈ lw_good := pz_in (List.mem_of_getElem? (i := 2415) (by decide +kernel)) rfl
theorem wq_2416 : (Jvm.Cond.code ({ cls := "SourcewrightModel", name := "mayReturn", desc := "(I)Z" } : Jvm.MethodName) prog_14_method_31_code (3 : Nat) (Option.some Jvm.ClassFile.FieldType.boolean)) ∈ lw_good := pz_in (List.mem_of_getElem? (i := 2416) (by decide +kernel)) rfl
theorem wq_2421 : (Jvm.Cond.methodLink "SourcewrightLaw" (198 : Nat) ({ cls := "SourcewrightModel", name := "calls", desc := "(II)I" } : Jvm.MethodName)) ∈ lw_good := pz_in (List.mem_of_getElem? (i := 2421) (by decide +kernel)) rfl
theorem wq_2422 : (Jvm.Cond.instanceMethod ({ cls := "SourcewrightModel", name := "calls", desc := "(II)I" } : Jvm.MethodName)) ∈ lw_good := pz_in (List.mem_of_getElem? (i := 2422) (by decide +kernel)) rfl
theorem wq_2423 : (Jvm.Cond.selects "SourcewrightModel" ({ cls := "SourcewrightModel", name := "calls", desc := "(II)I" } : Jvm.MethodName) ({ cls := "SourcewrightModel", name := "calls", desc := "(II)I" } : Jvm.MethodName)) ∈ lw_good := pz_in (List.mem_of_getElem? (i := 2423) (by decide +kernel)) rfl
theorem wq_2424 : (Jvm.Cond.code ({ cls := "SourcewrightModel", name := "calls", desc := "(II)I" } : Jvm.MethodName) prog_14_method_32_code (8 : Nat) (Option.some Jvm.ClassFile.FieldType.int)) ∈ lw_good := pz_in (List.mem_of_getElem? (i := 2424) (by decide +kernel)) rfl
theorem wq_2426 : (Jvm.Cond.methodLink "SourcewrightLaw" (201 : Nat) ({ cls := "SourcewrightModel", name := "blocks", desc := "(I)I" } : Jvm.MethodName)) ∈ lw_good := pz_in (List.mem_of_getElem? (i := 2426) (by decide +kernel)) rfl
theorem wq_2427 : (Jvm.Cond.instanceMethod ({ cls := "SourcewrightModel", name := "blocks", desc := "(I)I" } : Jvm.MethodName)) ∈ lw_good := pz_in (List.mem_of_getElem? (i := 2427) (by decide +kernel)) rfl
theorem wq_2428 : (Jvm.Cond.selects "SourcewrightModel" ({ cls := "SourcewrightModel", name := "blocks", desc := "(I)I" } : Jvm.MethodName) ({ cls := "SourcewrightModel", name := "blocks", desc := "(I)I" } : Jvm.MethodName)) ∈ lw_good := pz_in (List.mem_of_getElem? (i := 2428) (by decide +kernel)) rfl
theorem wq_2429 : (Jvm.Cond.code ({ cls := "SourcewrightModel", name := "blocks", desc := "(I)I" } : Jvm.MethodName) prog_14_method_33_code (3 : Nat) (Option.some Jvm.ClassFile.FieldType.int)) ∈ lw_good := pz_in (List.mem_of_getElem? (i := 2429) (by decide +kernel)) rfl
theorem wq_2430 : (Jvm.Cond.methodLink "SourcewrightLaw" (204 : Nat) ({ cls := "SourcewrightModel", name := "first", desc := "(II)I" } : Jvm.MethodName)) ∈ lw_good := pz_in (List.mem_of_getElem? (i := 2430) (by decide +kernel)) rfl
theorem wq_2431 : (Jvm.Cond.instanceMethod ({ cls := "SourcewrightModel", name := "first", desc := "(II)I" } : Jvm.MethodName)) ∈ lw_good := pz_in (List.mem_of_getElem? (i := 2431) (by decide +kernel)) rfl
theorem wq_2432 : (Jvm.Cond.selects "SourcewrightModel" ({ cls := "SourcewrightModel", name := "first", desc := "(II)I" } : Jvm.MethodName) ({ cls := "SourcewrightModel", name := "first", desc := "(II)I" } : Jvm.MethodName)) ∈ lw_good := pz_in (List.mem_of_getElem? (i := 2432) (by decide +kernel)) rfl
theorem wq_2433 : (Jvm.Cond.code ({ cls := "SourcewrightModel", name := "first", desc := "(II)I" } : Jvm.MethodName) prog_14_method_34_code (4 : Nat) (Option.some Jvm.ClassFile.FieldType.int)) ∈ lw_good := pz_in (List.mem_of_getElem? (i := 2433) (by decide +kernel)) rfl
theorem wq_2434 : (Jvm.Cond.methodLink "SourcewrightModel" (145 : Nat) ({ cls := "SourcewrightModel", name := "withBlock", desc := "(II)LSourcewrightModel$Function;" } : Jvm.MethodName)) ∈ lw_good := pz_in (List.mem_of_getElem? (i := 2434) (by decide +kernel)) rfl
theorem wq_2436 : (Jvm.Cond.instanceMethod ({ cls := "SourcewrightModel", name := "withBlock", desc := "(II)LSourcewrightModel$Function;" } : Jvm.MethodName)) ∈ lw_good := pz_in (List.mem_of_getElem? (i := 2436) (by decide +kernel)) rfl
theorem wq_2437 : (Jvm.Cond.code ({ cls := "SourcewrightModel", name := "withBlock", desc := "(II)LSourcewrightModel$Function;" } : Jvm.MethodName) prog_14_method_16_code (4 : Nat) (Option.some (Jvm.ClassFile.FieldType.object "SourcewrightModel$Function"))) ∈ lw_good := pz_in (List.mem_of_getElem? (i := 2437) (by decide +kernel)) rfl
theorem wq_2438 : (Jvm.Cond.methodLink "SourcewrightLaw" (207 : Nat) ({ cls := "SourcewrightModel", name := "size", desc := "(II)I" } : Jvm.MethodName)) ∈ lw_good := pz_in (List.mem_of_getElem? (i := 2438) (by decide +kernel)) rfl
theorem wq_2439 : (Jvm.Cond.instanceMethod ({ cls := "SourcewrightModel", name := "size", desc := "(II)I" } : Jvm.MethodName)) ∈ lw_good := pz_in (List.mem_of_getElem? (i := 2439) (by decide +kernel)) rfl
theorem wq_2440 : (Jvm.Cond.selects "SourcewrightModel" ({ cls := "SourcewrightModel", name := "size", desc := "(II)I" } : Jvm.MethodName) ({ cls := "SourcewrightModel", name := "size", desc := "(II)I" } : Jvm.MethodName)) ∈ lw_good := pz_in (List.mem_of_getElem? (i := 2440) (by decide +kernel)) rfl
theorem wq_2441 : (Jvm.Cond.code ({ cls := "SourcewrightModel", name := "size", desc := "(II)I" } : Jvm.MethodName) prog_14_method_35_code (4 : Nat) (Option.some Jvm.ClassFile.FieldType.int)) ∈ lw_good := pz_in (List.mem_of_getElem? (i := 2441) (by decide +kernel)) rfl
theorem wq_2446 : (Jvm.Cond.methodLink "SourcewrightLaw" (210 : Nat) ({ cls := "SourcewrightModel", name := "nexts", desc := "(II)I" } : Jvm.MethodName)) ∈ lw_good := pz_in (List.mem_of_getElem? (i := 2446) (by decide +kernel)) rfl
theorem wq_2447 : (Jvm.Cond.instanceMethod ({ cls := "SourcewrightModel", name := "nexts", desc := "(II)I" } : Jvm.MethodName)) ∈ lw_good := pz_in (List.mem_of_getElem? (i := 2447) (by decide +kernel)) rfl
theorem wq_2448 : (Jvm.Cond.selects "SourcewrightModel" ({ cls := "SourcewrightModel", name := "nexts", desc := "(II)I" } : Jvm.MethodName) ({ cls := "SourcewrightModel", name := "nexts", desc := "(II)I" } : Jvm.MethodName)) ∈ lw_good := pz_in (List.mem_of_getElem? (i := 2448) (by decide +kernel)) rfl
theorem wq_2449 : (Jvm.Cond.code ({ cls := "SourcewrightModel", name := "nexts", desc := "(II)I" } : Jvm.MethodName) prog_14_method_36_code (4 : Nat) (Option.some Jvm.ClassFile.FieldType.int)) ∈ lw_good := pz_in (List.mem_of_getElem? (i := 2449) (by decide +kernel)) rfl
theorem wq_2451 : (Jvm.Cond.methodLink "SourcewrightLaw" (214 : Nat) ({ cls := "SourcewrightModel", name := "next", desc := "(III)I" } : Jvm.MethodName)) ∈ lw_good := pz_in (List.mem_of_getElem? (i := 2451) (by decide +kernel)) rfl
theorem wq_2452 : (Jvm.Cond.instanceMethod ({ cls := "SourcewrightModel", name := "next", desc := "(III)I" } : Jvm.MethodName)) ∈ lw_good := pz_in (List.mem_of_getElem? (i := 2452) (by decide +kernel)) rfl
theorem wq_2453 : (Jvm.Cond.selects "SourcewrightModel" ({ cls := "SourcewrightModel", name := "next", desc := "(III)I" } : Jvm.MethodName) ({ cls := "SourcewrightModel", name := "next", desc := "(III)I" } : Jvm.MethodName)) ∈ lw_good := pz_in (List.mem_of_getElem? (i := 2453) (by decide +kernel)) rfl
theorem wq_2454 : (Jvm.Cond.code ({ cls := "SourcewrightModel", name := "next", desc := "(III)I" } : Jvm.MethodName) prog_14_method_37_code (5 : Nat) (Option.some Jvm.ClassFile.FieldType.int)) ∈ lw_good := pz_in (List.mem_of_getElem? (i := 2454) (by decide +kernel)) rfl
theorem wq_2455 : (Jvm.Cond.methodLink "SourcewrightLaw" (217 : Nat) ({ cls := "SourcewrightModel", name := "nearest", desc := "(II)I" } : Jvm.MethodName)) ∈ lw_good := pz_in (List.mem_of_getElem? (i := 2455) (by decide +kernel)) rfl
theorem wq_2456 : (Jvm.Cond.instanceMethod ({ cls := "SourcewrightModel", name := "nearest", desc := "(II)I" } : Jvm.MethodName)) ∈ lw_good := pz_in (List.mem_of_getElem? (i := 2456) (by decide +kernel)) rfl
theorem wq_2457 : (Jvm.Cond.selects "SourcewrightModel" ({ cls := "SourcewrightModel", name := "nearest", desc := "(II)I" } : Jvm.MethodName) ({ cls := "SourcewrightModel", name := "nearest", desc := "(II)I" } : Jvm.MethodName)) ∈ lw_good := pz_in (List.mem_of_getElem? (i := 2457) (by decide +kernel)) rfl
theorem wq_2458 : (Jvm.Cond.code ({ cls := "SourcewrightModel", name := "nearest", desc := "(II)I" } : Jvm.MethodName) prog_14_method_38_code (4 : Nat) (Option.some Jvm.ClassFile.FieldType.int)) ∈ lw_good := pz_in (List.mem_of_getElem? (i := 2458) (by decide +kernel)) rfl
theorem wq_2464 : (Jvm.Cond.methodLink "SourcewrightLaw" (220 : Nat) ({ cls := "SourcewrightModel", name := "order", desc := "(II)I" } : Jvm.MethodName)) ∈ lw_good := pz_in (List.mem_of_getElem? (i := 2464) (by decide +kernel)) rfl
theorem wq_2465 : (Jvm.Cond.instanceMethod ({ cls := "SourcewrightModel", name := "order", desc := "(II)I" } : Jvm.MethodName)) ∈ lw_good := pz_in (List.mem_of_getElem? (i := 2465) (by decide +kernel)) rfl
theorem wq_2466 : (Jvm.Cond.selects "SourcewrightModel" ({ cls := "SourcewrightModel", name := "order", desc := "(II)I" } : Jvm.MethodName) ({ cls := "SourcewrightModel", name := "order", desc := "(II)I" } : Jvm.MethodName)) ∈ lw_good := pz_in (List.mem_of_getElem? (i := 2466) (by decide +kernel)) rfl
theorem wq_2467 : (Jvm.Cond.code ({ cls := "SourcewrightModel", name := "order", desc := "(II)I" } : Jvm.MethodName) prog_14_method_39_code (4 : Nat) (Option.some Jvm.ClassFile.FieldType.int)) ∈ lw_good := pz_in (List.mem_of_getElem? (i := 2467) (by decide +kernel)) rfl
theorem wq_2468 : (Jvm.Cond.methodLink "SourcewrightLaw" (223 : Nat) ({ cls := "SourcewrightModel", name := "isHead", desc := "(II)Z" } : Jvm.MethodName)) ∈ lw_good := pz_in (List.mem_of_getElem? (i := 2468) (by decide +kernel)) rfl
theorem wq_2469 : (Jvm.Cond.instanceMethod ({ cls := "SourcewrightModel", name := "isHead", desc := "(II)Z" } : Jvm.MethodName)) ∈ lw_good := pz_in (List.mem_of_getElem? (i := 2469) (by decide +kernel)) rfl
theorem wq_2470 : (Jvm.Cond.selects "SourcewrightModel" ({ cls := "SourcewrightModel", name := "isHead", desc := "(II)Z" } : Jvm.MethodName) ({ cls := "SourcewrightModel", name := "isHead", desc := "(II)Z" } : Jvm.MethodName)) ∈ lw_good := pz_in (List.mem_of_getElem? (i := 2470) (by decide +kernel)) rfl
theorem wq_2471 : (Jvm.Cond.code ({ cls := "SourcewrightModel", name := "isHead", desc := "(II)Z" } : Jvm.MethodName) prog_14_method_40_code (4 : Nat) (Option.some Jvm.ClassFile.FieldType.boolean)) ∈ lw_good := pz_in (List.mem_of_getElem? (i := 2471) (by decide +kernel)) rfl
theorem wq_2480 : (Jvm.Cond.methodLink "SourcewrightLaw" (226 : Nat) ({ cls := "SourcewrightModel", name := "depth", desc := "(II)I" } : Jvm.MethodName)) ∈ lw_good := pz_in (List.mem_of_getElem? (i := 2480) (by decide +kernel)) rfl
theorem wq_2481 : (Jvm.Cond.instanceMethod ({ cls := "SourcewrightModel", name := "depth", desc := "(II)I" } : Jvm.MethodName)) ∈ lw_good := pz_in (List.mem_of_getElem? (i := 2481) (by decide +kernel)) rfl
theorem wq_2482 : (Jvm.Cond.selects "SourcewrightModel" ({ cls := "SourcewrightModel", name := "depth", desc := "(II)I" } : Jvm.MethodName) ({ cls := "SourcewrightModel", name := "depth", desc := "(II)I" } : Jvm.MethodName)) ∈ lw_good := pz_in (List.mem_of_getElem? (i := 2482) (by decide +kernel)) rfl
theorem wq_2483 : (Jvm.Cond.code ({ cls := "SourcewrightModel", name := "depth", desc := "(II)I" } : Jvm.MethodName) prog_14_method_41_code (4 : Nat) (Option.some Jvm.ClassFile.FieldType.int)) ∈ lw_good := pz_in (List.mem_of_getElem? (i := 2483) (by decide +kernel)) rfl
theorem wq_2493 : (Jvm.Cond.methodLink "SourcewrightLaw" (229 : Nat) ({ cls := "SourcewrightModel", name := "isMeeting", desc := "(II)Z" } : Jvm.MethodName)) ∈ lw_good := pz_in (List.mem_of_getElem? (i := 2493) (by decide +kernel)) rfl
theorem wq_2494 : (Jvm.Cond.instanceMethod ({ cls := "SourcewrightModel", name := "isMeeting", desc := "(II)Z" } : Jvm.MethodName)) ∈ lw_good := pz_in (List.mem_of_getElem? (i := 2494) (by decide +kernel)) rfl
theorem wq_2495 : (Jvm.Cond.selects "SourcewrightModel" ({ cls := "SourcewrightModel", name := "isMeeting", desc := "(II)Z" } : Jvm.MethodName) ({ cls := "SourcewrightModel", name := "isMeeting", desc := "(II)Z" } : Jvm.MethodName)) ∈ lw_good := pz_in (List.mem_of_getElem? (i := 2495) (by decide +kernel)) rfl
theorem wq_2496 : (Jvm.Cond.code ({ cls := "SourcewrightModel", name := "isMeeting", desc := "(II)Z" } : Jvm.MethodName) prog_14_method_42_code (4 : Nat) (Option.some Jvm.ClassFile.FieldType.boolean)) ∈ lw_good := pz_in (List.mem_of_getElem? (i := 2496) (by decide +kernel)) rfl
theorem wq_2505 : (Jvm.Cond.methodLink "SourcewrightLaw" (232 : Nat) ({ cls := "SourcewrightModel", name := "leaps", desc := "(I)I" } : Jvm.MethodName)) ∈ lw_good := pz_in (List.mem_of_getElem? (i := 2505) (by decide +kernel)) rfl
theorem wq_2506 : (Jvm.Cond.instanceMethod ({ cls := "SourcewrightModel", name := "leaps", desc := "(I)I" } : Jvm.MethodName)) ∈ lw_good := pz_in (List.mem_of_getElem? (i := 2506) (by decide +kernel)) rfl
theorem wq_2507 : (Jvm.Cond.selects "SourcewrightModel" ({ cls := "SourcewrightModel", name := "leaps", desc := "(I)I" } : Jvm.MethodName) ({ cls := "SourcewrightModel", name := "leaps", desc := "(I)I" } : Jvm.MethodName)) ∈ lw_good := pz_in (List.mem_of_getElem? (i := 2507) (by decide +kernel)) rfl
theorem wq_2508 : (Jvm.Cond.code ({ cls := "SourcewrightModel", name := "leaps", desc := "(I)I" } : Jvm.MethodName) prog_14_method_43_code (3 : Nat) (Option.some Jvm.ClassFile.FieldType.int)) ∈ lw_good := pz_in (List.mem_of_getElem? (i := 2508) (by decide +kernel)) rfl
theorem wq_2513 : (Jvm.Cond.methodLink "SourcewrightLaw" (235 : Nat) ({ cls := "SourcewrightModel", name := "live", desc := "(II)I" } : Jvm.MethodName)) ∈ lw_good := pz_in (List.mem_of_getElem? (i := 2513) (by decide +kernel)) rfl
theorem wq_2514 : (Jvm.Cond.instanceMethod ({ cls := "SourcewrightModel", name := "live", desc := "(II)I" } : Jvm.MethodName)) ∈ lw_good := pz_in (List.mem_of_getElem? (i := 2514) (by decide +kernel)) rfl
theorem wq_2515 : (Jvm.Cond.selects "SourcewrightModel" ({ cls := "SourcewrightModel", name := "live", desc := "(II)I" } : Jvm.MethodName) ({ cls := "SourcewrightModel", name := "live", desc := "(II)I" } : Jvm.MethodName)) ∈ lw_good := pz_in (List.mem_of_getElem? (i := 2515) (by decide +kernel)) rfl
theorem wq_2516 : (Jvm.Cond.code ({ cls := "SourcewrightModel", name := "live", desc := "(II)I" } : Jvm.MethodName) prog_14_method_44_code (4 : Nat) (Option.some Jvm.ClassFile.FieldType.int)) ∈ lw_good := pz_in (List.mem_of_getElem? (i := 2516) (by decide +kernel)) rfl
theorem wq_2517 : (Jvm.Cond.methodLink "SourcewrightModel" (176 : Nat) ({ cls := "SourcewrightModel", name := "withPlace", desc := "(II)LSourcewrightModel$Function;" } : Jvm.MethodName)) ∈ lw_good := pz_in (List.mem_of_getElem? (i := 2517) (by decide +kernel)) rfl
theorem wq_2519 : (Jvm.Cond.instanceMethod ({ cls := "SourcewrightModel", name := "withPlace", desc := "(II)LSourcewrightModel$Function;" } : Jvm.MethodName)) ∈ lw_good := pz_in (List.mem_of_getElem? (i := 2519) (by decide +kernel)) rfl
theorem wq_2520 : (Jvm.Cond.code ({ cls := "SourcewrightModel", name := "withPlace", desc := "(II)LSourcewrightModel$Function;" } : Jvm.MethodName) prog_14_method_17_code (4 : Nat) (Option.some (Jvm.ClassFile.FieldType.object "SourcewrightModel$Function"))) ∈ lw_good := pz_in (List.mem_of_getElem? (i := 2520) (by decide +kernel)) rfl
theorem wq_2543 : (Jvm.Cond.methodLink "SourcewrightLaw" (238 : Nat) ({ cls := "SourcewrightModel", name := "isIdle", desc := "(II)Z" } : Jvm.MethodName)) ∈ lw_good := pz_in (List.mem_of_getElem? (i := 2543) (by decide +kernel)) rfl
theorem wq_2544 : (Jvm.Cond.instanceMethod ({ cls := "SourcewrightModel", name := "isIdle", desc := "(II)Z" } : Jvm.MethodName)) ∈ lw_good := pz_in (List.mem_of_getElem? (i := 2544) (by decide +kernel)) rfl
theorem wq_2545 : (Jvm.Cond.selects "SourcewrightModel" ({ cls := "SourcewrightModel", name := "isIdle", desc := "(II)Z" } : Jvm.MethodName) ({ cls := "SourcewrightModel", name := "isIdle", desc := "(II)Z" } : Jvm.MethodName)) ∈ lw_good := pz_in (List.mem_of_getElem? (i := 2545) (by decide +kernel)) rfl
theorem wq_2546 : (Jvm.Cond.code ({ cls := "SourcewrightModel", name := "isIdle", desc := "(II)Z" } : Jvm.MethodName) prog_14_method_45_code (4 : Nat) (Option.some Jvm.ClassFile.FieldType.boolean)) ∈ lw_good := pz_in (List.mem_of_getElem? (i := 2546) (by decide +kernel)) rfl
theorem wq_2551 : (Jvm.Cond.methodLink "SourcewrightLaw" (243 : Nat) ({ cls := "SourcewrightModel", name := "tidy", desc := "(Z)Z" } : Jvm.MethodName)) ∈ lw_good := pz_in (List.mem_of_getElem? (i := 2551) (by decide +kernel)) rfl
theorem wq_2552 : (Jvm.Cond.instanceMethod ({ cls := "SourcewrightModel", name := "tidy", desc := "(Z)Z" } : Jvm.MethodName)) ∈ lw_good := pz_in (List.mem_of_getElem? (i := 2552) (by decide +kernel)) rfl
theorem wq_2553 : (Jvm.Cond.selects "SourcewrightModel" ({ cls := "SourcewrightModel", name := "tidy", desc := "(Z)Z" } : Jvm.MethodName) ({ cls := "SourcewrightModel", name := "tidy", desc := "(Z)Z" } : Jvm.MethodName)) ∈ lw_good := pz_in (List.mem_of_getElem? (i := 2553) (by decide +kernel)) rfl
theorem wq_2554 : (Jvm.Cond.code ({ cls := "SourcewrightModel", name := "tidy", desc := "(Z)Z" } : Jvm.MethodName) prog_14_method_46_code (3 : Nat) (Option.some Jvm.ClassFile.FieldType.boolean)) ∈ lw_good := pz_in (List.mem_of_getElem? (i := 2554) (by decide +kernel)) rfl
theorem wq_2555 : (Jvm.Cond.methodLink "SourcewrightLaw" (246 : Nat) ({ cls := "SourcewrightModel", name := "source", desc := "(I)I" } : Jvm.MethodName)) ∈ lw_good := pz_in (List.mem_of_getElem? (i := 2555) (by decide +kernel)) rfl
theorem wq_2556 : (Jvm.Cond.instanceMethod ({ cls := "SourcewrightModel", name := "source", desc := "(I)I" } : Jvm.MethodName)) ∈ lw_good := pz_in (List.mem_of_getElem? (i := 2556) (by decide +kernel)) rfl
theorem wq_2557 : (Jvm.Cond.selects "SourcewrightModel" ({ cls := "SourcewrightModel", name := "source", desc := "(I)I" } : Jvm.MethodName) ({ cls := "SourcewrightModel", name := "source", desc := "(I)I" } : Jvm.MethodName)) ∈ lw_good := pz_in (List.mem_of_getElem? (i := 2557) (by decide +kernel)) rfl
theorem wq_2558 : (Jvm.Cond.code ({ cls := "SourcewrightModel", name := "source", desc := "(I)I" } : Jvm.MethodName) prog_14_method_47_code (3 : Nat) (Option.some Jvm.ClassFile.FieldType.int)) ∈ lw_good := pz_in (List.mem_of_getElem? (i := 2558) (by decide +kernel)) rfl
theorem wq_2946 : (Jvm.Cond.methodLink "SourcewrightLaw" (249 : Nat) ({ cls := "SourcewrightModel", name := "sign", desc := "(II)C" } : Jvm.MethodName)) ∈ lw_good := pz_in (List.mem_of_getElem? (i := 2946) (by decide +kernel)) rfl
theorem wq_2947 : (Jvm.Cond.instanceMethod ({ cls := "SourcewrightModel", name := "sign", desc := "(II)C" } : Jvm.MethodName)) ∈ lw_good := pz_in (List.mem_of_getElem? (i := 2947) (by decide +kernel)) rfl
theorem wq_2948 : (Jvm.Cond.selects "SourcewrightModel" ({ cls := "SourcewrightModel", name := "sign", desc := "(II)C" } : Jvm.MethodName) ({ cls := "SourcewrightModel", name := "sign", desc := "(II)C" } : Jvm.MethodName)) ∈ lw_good := pz_in (List.mem_of_getElem? (i := 2948) (by decide +kernel)) rfl
theorem wq_2949 : (Jvm.Cond.code ({ cls := "SourcewrightModel", name := "sign", desc := "(II)C" } : Jvm.MethodName) prog_14_method_48_code (5 : Nat) (Option.some Jvm.ClassFile.FieldType.char)) ∈ lw_good := pz_in (List.mem_of_getElem? (i := 2949) (by decide +kernel)) rfl
theorem wq_2951 : (Jvm.Cond.methodLink "SourcewrightLaw" (253 : Nat) ({ cls := "SourcewrightModel", name := "compiled", desc := "()I" } : Jvm.MethodName)) ∈ lw_good := pz_in (List.mem_of_getElem? (i := 2951) (by decide +kernel)) rfl
theorem wq_2952 : (Jvm.Cond.instanceMethod ({ cls := "SourcewrightModel", name := "compiled", desc := "()I" } : Jvm.MethodName)) ∈ lw_good := pz_in (List.mem_of_getElem? (i := 2952) (by decide +kernel)) rfl
theorem wq_2953 : (Jvm.Cond.selects "SourcewrightModel" ({ cls := "SourcewrightModel", name := "compiled", desc := "()I" } : Jvm.MethodName) ({ cls := "SourcewrightModel", name := "compiled", desc := "()I" } : Jvm.MethodName)) ∈ lw_good := pz_in (List.mem_of_getElem? (i := 2953) (by decide +kernel)) rfl
theorem wq_2954 : (Jvm.Cond.code ({ cls := "SourcewrightModel", name := "compiled", desc := "()I" } : Jvm.MethodName) prog_14_method_50_code (2 : Nat) (Option.some Jvm.ClassFile.FieldType.int)) ∈ lw_good := pz_in (List.mem_of_getElem? (i := 2954) (by decide +kernel)) rfl
theorem wq_2955 : (Jvm.Cond.methodLink "SourcewrightModel" (209 : Nat) ({ cls := "SourcewrightModel", name := "back", desc := "()[I" } : Jvm.MethodName)) ∈ lw_good := pz_in (List.mem_of_getElem? (i := 2955) (by decide +kernel)) rfl
theorem wq_2957 : (Jvm.Cond.instanceMethod ({ cls := "SourcewrightModel", name := "back", desc := "()[I" } : Jvm.MethodName)) ∈ lw_good := pz_in (List.mem_of_getElem? (i := 2957) (by decide +kernel)) rfl
theorem wq_2958 : (Jvm.Cond.code ({ cls := "SourcewrightModel", name := "back", desc := "()[I" } : Jvm.MethodName) prog_14_method_49_code (1 : Nat) (Option.some (Jvm.ClassFile.FieldType.array Jvm.ClassFile.FieldType.int))) ∈ lw_good := pz_in (List.mem_of_getElem? (i := 2958) (by decide +kernel)) rfl
theorem wq_2959 : (Jvm.Cond.classLink "SourcewrightModel" (201 : Nat) "SourcewrightModel$Writer") ∈ lw_good := pz_in (List.mem_of_getElem? (i := 2959) (by decide +kernel)) rfl
theorem wq_2960 : (Jvm.Cond.instantiable "SourcewrightModel$Writer" (6 : Nat)) ∈ lw_good := pz_in (List.mem_of_getElem? (i := 2960) (by decide +kernel)) rfl
theorem wq_2961 : (Jvm.Cond.methodLink "SourcewrightModel" (203 : Nat) ({ cls := "SourcewrightModel$Writer", name := "<init>", desc := "(LSourcewrightModel$Reading;Z)V" } : Jvm.MethodName)) ∈ lw_good := pz_in (List.mem_of_getElem? (i := 2961) (by decide +kernel)) rfl
theorem wq_2962 : (Jvm.Cond.instanceMethod ({ cls := "SourcewrightModel$Writer", name := "<init>", desc := "(LSourcewrightModel$Reading;Z)V" } : Jvm.MethodName)) ∈ lw_good := pz_in (List.mem_of_getElem? (i := 2962) (by decide +kernel)) rfl
theorem wq_2963 : (Jvm.Cond.code ({ cls := "SourcewrightModel$Writer", name := "<init>", desc := "(LSourcewrightModel$Reading;Z)V" } : Jvm.MethodName) prog_18_method_1_code (4 : Nat) (Option.none : Option Jvm.ClassFile.FieldType)) ∈ lw_good := pz_in (List.mem_of_getElem? (i := 2963) (by decide +kernel)) rfl
theorem wq_2964 : (Jvm.Cond.methodLink "SourcewrightModel$Writer" (3 : Nat) ({ cls := "java/lang/Object", name := "<init>", desc := "()V" } : Jvm.MethodName)) ∈ lw_good := pz_in (List.mem_of_getElem? (i := 2964) (by decide +kernel)) rfl
theorem wq_2965 : (Jvm.Cond.classLink "SourcewrightModel$Writer" (9 : Nat) "java/util/ArrayList") ∈ lw_good := pz_in (List.mem_of_getElem? (i := 2965) (by decide +kernel)) rfl
theorem wq_2966 : (Jvm.Cond.methodLink "SourcewrightModel$Writer" (11 : Nat) ({ cls := "java/util/ArrayList", name := "<init>", desc := "()V" } : Jvm.MethodName)) ∈ lw_good := pz_in (List.mem_of_getElem? (i := 2966) (by decide +kernel)) rfl
theorem wq_2967 : (Jvm.Cond.methodLink "SourcewrightModel$Writer" (31 : Nat) ({ cls := "java/util/ArrayList", name := "size", desc := "()I" } : Jvm.MethodName)) ∈ lw_good := pz_in (List.mem_of_getElem? (i := 2967) (by decide +kernel)) rfl
theorem wq_2968 : (Jvm.Cond.classLink "SourcewrightModel$Writer" (39 : Nat) "[[I") ∈ lw_good := pz_in (List.mem_of_getElem? (i := 2968) (by decide +kernel)) rfl
theorem wq_2969 : (Jvm.Cond.methodLink "SourcewrightModel$Writer" (44 : Nat) ({ cls := "java/util/ArrayList", name := "clear", desc := "()V" } : Jvm.MethodName)) ∈ lw_good := pz_in (List.mem_of_getElem? (i := 2969) (by decide +kernel)) rfl
theorem wq_2970 : (Jvm.Cond.methodLink "SourcewrightModel$Writer" (47 : Nat) ({ cls := "SourcewrightModel$Reading", name := "numberOf", desc := "(I)I" } : Jvm.MethodName)) ∈ lw_good := pz_in (List.mem_of_getElem? (i := 2970) (by decide +kernel)) rfl
theorem wq_2971 : (Jvm.Cond.instanceMethod ({ cls := "SourcewrightModel$Reading", name := "numberOf", desc := "(I)I" } : Jvm.MethodName)) ∈ lw_good := pz_in (List.mem_of_getElem? (i := 2971) (by decide +kernel)) rfl
theorem wq_2972 : (Jvm.Cond.selects "SourcewrightModel$Reading" ({ cls := "SourcewrightModel$Reading", name := "numberOf", desc := "(I)I" } : Jvm.MethodName) ({ cls := "SourcewrightModel$Reading", name := "numberOf", desc := "(I)I" } : Jvm.MethodName)) ∈ lw_good := pz_in (List.mem_of_getElem? (i := 2972) (by decide +kernel)) rfl
theorem wq_2973 : (Jvm.Cond.code ({ cls := "SourcewrightModel$Reading", name := "numberOf", desc := "(I)I" } : Jvm.MethodName) prog_16_method_9_code (3 : Nat) (Option.some Jvm.ClassFile.FieldType.int)) ∈ lw_good := pz_in (List.mem_of_getElem? (i := 2973) (by decide +kernel)) rfl
theorem wq_2975 : (Jvm.Cond.methodLink "SourcewrightModel$Writer" (51 : Nat) ({ cls := "SourcewrightModel$Writer", name := "goTo", desc := "(I)V" } : Jvm.MethodName)) ∈ lw_good := pz_in (List.mem_of_getElem? (i := 2975) (by decide +kernel)) rfl
theorem wq_2977 : (Jvm.Cond.instanceMethod ({ cls := "SourcewrightModel$Writer", name := "goTo", desc := "(I)V" } : Jvm.MethodName)) ∈ lw_good := pz_in (List.mem_of_getElem? (i := 2977) (by decide +kernel)) rfl
theorem wq_2978 : (Jvm.Cond.code ({ cls := "SourcewrightModel$Writer", name := "goTo", desc := "(I)V" } : Jvm.MethodName) prog_18_method_2_code (2 : Nat) (Option.none : Option Jvm.ClassFile.FieldType)) ∈ lw_good := pz_in (List.mem_of_getElem? (i := 2978) (by decide +kernel)) rfl
theorem wq_2979 : (Jvm.Cond.methodLink "SourcewrightModel$Writer" (75 : Nat) ({ cls := "java/lang/Integer", name := "valueOf", desc := "(I)Ljava/lang/Integer;" } : Jvm.MethodName)) ∈ lw_good := pz_in (List.mem_of_getElem? (i := 2979) (by decide +kernel)) rfl
theorem wq_2980 : (Jvm.Cond.methodLink "SourcewrightModel$Writer" (81 : Nat) ({ cls := "java/util/ArrayList", name := "add", desc := "(Ljava/lang/Object;)Z" } : Jvm.MethodName)) ∈ lw_good := pz_in (List.mem_of_getElem? (i := 2980) (by decide +kernel)) rfl
theorem wq_3024 : (Jvm.Cond.fieldLink "SourcewrightModel$Writer" (18 : Nat) "SourcewrightModel$Writer" "in" "LSourcewrightModel$Reading;") ∈ lw_good := pz_in (List.mem_of_getElem? (i := 3024) (by decide +kernel)) rfl
theorem wq_3025 : (Jvm.Cond.fieldLink "SourcewrightModel$Writer" (22 : Nat) "SourcewrightModel$Writer" "isTidy" "Z") ∈ lw_good := pz_in (List.mem_of_getElem? (i := 3025) (by decide +kernel)) rfl
theorem wq_3026 : (Jvm.Cond.fieldLink "SourcewrightModel$Writer" (12 : Nat) "SourcewrightModel$Writer" "made" "Ljava/util/ArrayList;") ∈ lw_good := pz_in (List.mem_of_getElem? (i := 3026) (by decide +kernel)) rfl
theorem wq_3028 : (Jvm.Cond.fieldLink "SourcewrightModel$Writer" (41 : Nat) "SourcewrightModel$Writer" "places" "[[I") ∈ lw_good := pz_in (List.mem_of_getElem? (i := 3028) (by decide +kernel)) rfl
theorem wq_3030 : (Jvm.Cond.fieldLink "SourcewrightModel$Writer" (55 : Nat) "SourcewrightModel$Writer" "number" "I") ∈ lw_good := pz_in (List.mem_of_getElem? (i := 3030) (by decide +kernel)) rfl
theorem wq_3031 : (Jvm.Cond.laysFinal "SourcewrightModel$Writer" "SourcewrightModel$Writer" "in" "LSourcewrightModel$Reading;") ∈ lw_good := pz_in (List.mem_of_getElem? (i := 3031) (by decide +kernel)) rfl
theorem wq_3033 : (Jvm.Cond.laysFinal "SourcewrightModel$Writer" "SourcewrightModel$Writer" "isTidy" "Z") ∈ lw_good := pz_in (List.mem_of_getElem? (i := 3033) (by decide +kernel)) rfl
theorem wq_3035 : (Jvm.Cond.laysFinal "SourcewrightModel$Writer" "SourcewrightModel$Writer" "made" "Ljava/util/ArrayList;") ∈ lw_good := pz_in (List.mem_of_getElem? (i := 3035) (by decide +kernel)) rfl
theorem wq_3037 : (Jvm.Cond.laysFinal "SourcewrightModel$Writer" "SourcewrightModel$Writer" "places" "[[I") ∈ lw_good := pz_in (List.mem_of_getElem? (i := 3037) (by decide +kernel)) rfl
theorem wq_3039 : (Jvm.Cond.lays "SourcewrightModel$Writer" "SourcewrightModel$Writer" "function" "LSourcewrightModel$Function;") ∈ lw_good := pz_in (List.mem_of_getElem? (i := 3039) (by decide +kernel)) rfl
theorem wq_3041 : (Jvm.Cond.lays "SourcewrightModel$Writer" "SourcewrightModel$Writer" "number" "I") ∈ lw_good := pz_in (List.mem_of_getElem? (i := 3041) (by decide +kernel)) rfl
theorem wq_3044 : (Jvm.Cond.methodLink "SourcewrightLaw" (256 : Nat) ({ cls := "SourcewrightModel", name := "compiledByte", desc := "(I)I" } : Jvm.MethodName)) ∈ lw_good := pz_in (List.mem_of_getElem? (i := 3044) (by decide +kernel)) rfl
theorem wq_3045 : (Jvm.Cond.instanceMethod ({ cls := "SourcewrightModel", name := "compiledByte", desc := "(I)I" } : Jvm.MethodName)) ∈ lw_good := pz_in (List.mem_of_getElem? (i := 3045) (by decide +kernel)) rfl
theorem wq_3046 : (Jvm.Cond.selects "SourcewrightModel" ({ cls := "SourcewrightModel", name := "compiledByte", desc := "(I)I" } : Jvm.MethodName) ({ cls := "SourcewrightModel", name := "compiledByte", desc := "(I)I" } : Jvm.MethodName)) ∈ lw_good := pz_in (List.mem_of_getElem? (i := 3046) (by decide +kernel)) rfl
theorem wq_3047 : (Jvm.Cond.code ({ cls := "SourcewrightModel", name := "compiledByte", desc := "(I)I" } : Jvm.MethodName) prog_14_method_51_code (3 : Nat) (Option.some Jvm.ClassFile.FieldType.int)) ∈ lw_good := pz_in (List.mem_of_getElem? (i := 3047) (by decide +kernel)) rfl
theorem wq_3048 : (Jvm.Cond.methodLink "SourcewrightLaw" (259 : Nat) ({ cls := "SourcewrightModel", name := "input", desc := "(I)I" } : Jvm.MethodName)) ∈ lw_good := pz_in (List.mem_of_getElem? (i := 3048) (by decide +kernel)) rfl
theorem wq_3049 : (Jvm.Cond.instanceMethod ({ cls := "SourcewrightModel", name := "input", desc := "(I)I" } : Jvm.MethodName)) ∈ lw_good := pz_in (List.mem_of_getElem? (i := 3049) (by decide +kernel)) rfl
theorem wq_3050 : (Jvm.Cond.selects "SourcewrightModel" ({ cls := "SourcewrightModel", name := "input", desc := "(I)I" } : Jvm.MethodName) ({ cls := "SourcewrightModel", name := "input", desc := "(I)I" } : Jvm.MethodName)) ∈ lw_good := pz_in (List.mem_of_getElem? (i := 3050) (by decide +kernel)) rfl
theorem wq_3051 : (Jvm.Cond.code ({ cls := "SourcewrightModel", name := "input", desc := "(I)I" } : Jvm.MethodName) prog_14_method_52_code (2 : Nat) (Option.some Jvm.ClassFile.FieldType.int)) ∈ lw_good := pz_in (List.mem_of_getElem? (i := 3051) (by decide +kernel)) rfl
theorem wq_3052 : (Jvm.Cond.methodLink "SourcewrightLaw" (263 : Nat) ({ cls := "SourcewrightModel", name := "dry", desc := "()I" } : Jvm.MethodName)) ∈ lw_good := pz_in (List.mem_of_getElem? (i := 3052) (by decide +kernel)) rfl
theorem wq_3053 : (Jvm.Cond.instanceMethod ({ cls := "SourcewrightModel", name := "dry", desc := "()I" } : Jvm.MethodName)) ∈ lw_good := pz_in (List.mem_of_getElem? (i := 3053) (by decide +kernel)) rfl
theorem wq_3054 : (Jvm.Cond.selects "SourcewrightModel" ({ cls := "SourcewrightModel", name := "dry", desc := "()I" } : Jvm.MethodName) ({ cls := "SourcewrightModel", name := "dry", desc := "()I" } : Jvm.MethodName)) ∈ lw_good := pz_in (List.mem_of_getElem? (i := 3054) (by decide +kernel)) rfl
theorem wq_3055 : (Jvm.Cond.code ({ cls := "SourcewrightModel", name := "dry", desc := "()I" } : Jvm.MethodName) prog_14_method_53_code (2 : Nat) (Option.some Jvm.ClassFile.FieldType.int)) ∈ lw_good := pz_in (List.mem_of_getElem? (i := 3055) (by decide +kernel)) rfl
theorem wq_3056 : (Jvm.Cond.methodLink "SourcewrightLaw" (267 : Nat) ({ cls := "SourcewrightModel", name := "run", desc := "(ZI)C" } : Jvm.MethodName)) ∈ lw_good := pz_in (List.mem_of_getElem? (i := 3056) (by decide +kernel)) rfl
theorem wq_3057 : (Jvm.Cond.instanceMethod ({ cls := "SourcewrightModel", name := "run", desc := "(ZI)C" } : Jvm.MethodName)) ∈ lw_good := pz_in (List.mem_of_getElem? (i := 3057) (by decide +kernel)) rfl
theorem wq_3058 : (Jvm.Cond.selects "SourcewrightModel" ({ cls := "SourcewrightModel", name := "run", desc := "(ZI)C" } : Jvm.MethodName) ({ cls := "SourcewrightModel", name := "run", desc := "(ZI)C" } : Jvm.MethodName)) ∈ lw_good := pz_in (List.mem_of_getElem? (i := 3058) (by decide +kernel)) rfl
theorem wq_3059 : (Jvm.Cond.code ({ cls := "SourcewrightModel", name := "run", desc := "(ZI)C" } : Jvm.MethodName) prog_14_method_54_code (4 : Nat) (Option.some Jvm.ClassFile.FieldType.char)) ∈ lw_good := pz_in (List.mem_of_getElem? (i := 3059) (by decide +kernel)) rfl
theorem wq_3060 : (Jvm.Cond.classLink "SourcewrightModel" (213 : Nat) "SourcewrightModel$Run") ∈ lw_good := pz_in (List.mem_of_getElem? (i := 3060) (by decide +kernel)) rfl
theorem wq_3061 : (Jvm.Cond.instantiable "SourcewrightModel$Run" (3 : Nat)) ∈ lw_good := pz_in (List.mem_of_getElem? (i := 3061) (by decide +kernel)) rfl
theorem wq_3062 : (Jvm.Cond.methodLink "SourcewrightModel" (215 : Nat) ({ cls := "SourcewrightModel$Run", name := "<init>", desc := "([ILjava/util/ArrayList;I)V" } : Jvm.MethodName)) ∈ lw_good := pz_in (List.mem_of_getElem? (i := 3062) (by decide +kernel)) rfl
theorem wq_3063 : (Jvm.Cond.instanceMethod ({ cls := "SourcewrightModel$Run", name := "<init>", desc := "([ILjava/util/ArrayList;I)V" } : Jvm.MethodName)) ∈ lw_good := pz_in (List.mem_of_getElem? (i := 3063) (by decide +kernel)) rfl
theorem wq_3064 : (Jvm.Cond.code ({ cls := "SourcewrightModel$Run", name := "<init>", desc := "([ILjava/util/ArrayList;I)V" } : Jvm.MethodName) prog_17_method_1_code (18 : Nat) (Option.none : Option Jvm.ClassFile.FieldType)) ∈ lw_good := pz_in (List.mem_of_getElem? (i := 3064) (by decide +kernel)) rfl
theorem wq_3065 : (Jvm.Cond.methodLink "SourcewrightModel$Run" (3 : Nat) ({ cls := "java/lang/Object", name := "<init>", desc := "()V" } : Jvm.MethodName)) ∈ lw_good := pz_in (List.mem_of_getElem? (i := 3065) (by decide +kernel)) rfl
theorem wq_3066 : (Jvm.Cond.classLink "SourcewrightModel$Run" (9 : Nat) "java/util/ArrayList") ∈ lw_good := pz_in (List.mem_of_getElem? (i := 3066) (by decide +kernel)) rfl
theorem wq_3067 : (Jvm.Cond.methodLink "SourcewrightModel$Run" (11 : Nat) ({ cls := "java/util/ArrayList", name := "<init>", desc := "()V" } : Jvm.MethodName)) ∈ lw_good := pz_in (List.mem_of_getElem? (i := 3067) (by decide +kernel)) rfl
theorem wq_3081 : (Jvm.Cond.fieldLink "SourcewrightModel$Run" (18 : Nat) "SourcewrightModel$Run" "end" "C") ∈ lw_good := pz_in (List.mem_of_getElem? (i := 3081) (by decide +kernel)) rfl
theorem wq_3083 : (Jvm.Cond.fieldLink "SourcewrightModel$Run" (29 : Nat) "SourcewrightModel$Run" "steps" "I") ∈ lw_good := pz_in (List.mem_of_getElem? (i := 3083) (by decide +kernel)) rfl
theorem wq_3085 : (Jvm.Cond.fieldLink "SourcewrightModel$Run" (12 : Nat) "SourcewrightModel$Run" "out" "Ljava/util/ArrayList;") ∈ lw_good := pz_in (List.mem_of_getElem? (i := 3085) (by decide +kernel)) rfl
theorem wq_3087 : (Jvm.Cond.lays "SourcewrightModel$Run" "SourcewrightModel$Run" "end" "C") ∈ lw_good := pz_in (List.mem_of_getElem? (i := 3087) (by decide +kernel)) rfl
theorem wq_3089 : (Jvm.Cond.lays "SourcewrightModel$Run" "SourcewrightModel$Run" "steps" "I") ∈ lw_good := pz_in (List.mem_of_getElem? (i := 3089) (by decide +kernel)) rfl
theorem wq_3091 : (Jvm.Cond.laysFinal "SourcewrightModel$Run" "SourcewrightModel$Run" "out" "Ljava/util/ArrayList;") ∈ lw_good := pz_in (List.mem_of_getElem? (i := 3091) (by decide +kernel)) rfl
theorem wq_3094 : (Jvm.Cond.methodLink "SourcewrightLaw" (271 : Nat) ({ cls := "SourcewrightModel", name := "outputs", desc := "()I" } : Jvm.MethodName)) ∈ lw_good := pz_in (List.mem_of_getElem? (i := 3094) (by decide +kernel)) rfl
theorem wq_3095 : (Jvm.Cond.instanceMethod ({ cls := "SourcewrightModel", name := "outputs", desc := "()I" } : Jvm.MethodName)) ∈ lw_good := pz_in (List.mem_of_getElem? (i := 3095) (by decide +kernel)) rfl
theorem wq_3096 : (Jvm.Cond.selects "SourcewrightModel" ({ cls := "SourcewrightModel", name := "outputs", desc := "()I" } : Jvm.MethodName) ({ cls := "SourcewrightModel", name := "outputs", desc := "()I" } : Jvm.MethodName)) ∈ lw_good := pz_in (List.mem_of_getElem? (i := 3096) (by decide +kernel)) rfl
theorem wq_3097 : (Jvm.Cond.code ({ cls := "SourcewrightModel", name := "outputs", desc := "()I" } : Jvm.MethodName) prog_14_method_55_code (1 : Nat) (Option.some Jvm.ClassFile.FieldType.int)) ∈ lw_good := pz_in (List.mem_of_getElem? (i := 3097) (by decide +kernel)) rfl
theorem wq_3098 : (Jvm.Cond.methodLink "SourcewrightLaw" (274 : Nat) ({ cls := "SourcewrightModel", name := "output", desc := "(I)I" } : Jvm.MethodName)) ∈ lw_good := pz_in (List.mem_of_getElem? (i := 3098) (by decide +kernel)) rfl
theorem wq_3099 : (Jvm.Cond.instanceMethod ({ cls := "SourcewrightModel", name := "output", desc := "(I)I" } : Jvm.MethodName)) ∈ lw_good := pz_in (List.mem_of_getElem? (i := 3099) (by decide +kernel)) rfl
theorem wq_3100 : (Jvm.Cond.selects "SourcewrightModel" ({ cls := "SourcewrightModel", name := "output", desc := "(I)I" } : Jvm.MethodName) ({ cls := "SourcewrightModel", name := "output", desc := "(I)I" } : Jvm.MethodName)) ∈ lw_good := pz_in (List.mem_of_getElem? (i := 3100) (by decide +kernel)) rfl
theorem wq_3101 : (Jvm.Cond.code ({ cls := "SourcewrightModel", name := "output", desc := "(I)I" } : Jvm.MethodName) prog_14_method_56_code (2 : Nat) (Option.some Jvm.ClassFile.FieldType.int)) ∈ lw_good := pz_in (List.mem_of_getElem? (i := 3101) (by decide +kernel)) rfl
theorem wq_3102 : (Jvm.Cond.methodLink "SourcewrightLaw" (278 : Nat) ({ cls := "SourcewrightModel", name := "steps", desc := "()I" } : Jvm.MethodName)) ∈ lw_good := pz_in (List.mem_of_getElem? (i := 3102) (by decide +kernel)) rfl
theorem wq_3103 : (Jvm.Cond.instanceMethod ({ cls := "SourcewrightModel", name := "steps", desc := "()I" } : Jvm.MethodName)) ∈ lw_good := pz_in (List.mem_of_getElem? (i := 3103) (by decide +kernel)) rfl
theorem wq_3104 : (Jvm.Cond.selects "SourcewrightModel" ({ cls := "SourcewrightModel", name := "steps", desc := "()I" } : Jvm.MethodName) ({ cls := "SourcewrightModel", name := "steps", desc := "()I" } : Jvm.MethodName)) ∈ lw_good := pz_in (List.mem_of_getElem? (i := 3104) (by decide +kernel)) rfl
theorem wq_3105 : (Jvm.Cond.code ({ cls := "SourcewrightModel", name := "steps", desc := "()I" } : Jvm.MethodName) prog_14_method_57_code (1 : Nat) (Option.some Jvm.ClassFile.FieldType.int)) ∈ lw_good := pz_in (List.mem_of_getElem? (i := 3105) (by decide +kernel)) rfl
theorem wq_3106 : (Jvm.Cond.methodLink "SourcewrightLaw" (281 : Nat) ({ cls := "SourcewrightModel", name := "agree", desc := "(I)Z" } : Jvm.MethodName)) ∈ lw_good := pz_in (List.mem_of_getElem? (i := 3106) (by decide +kernel)) rfl
theorem wq_3107 : (Jvm.Cond.instanceMethod ({ cls := "SourcewrightModel", name := "agree", desc := "(I)Z" } : Jvm.MethodName)) ∈ lw_good := pz_in (List.mem_of_getElem? (i := 3107) (by decide +kernel)) rfl
theorem wq_3108 : (Jvm.Cond.selects "SourcewrightModel" ({ cls := "SourcewrightModel", name := "agree", desc := "(I)Z" } : Jvm.MethodName) ({ cls := "SourcewrightModel", name := "agree", desc := "(I)Z" } : Jvm.MethodName)) ∈ lw_good := pz_in (List.mem_of_getElem? (i := 3108) (by decide +kernel)) rfl
theorem wq_3109 : (Jvm.Cond.code ({ cls := "SourcewrightModel", name := "agree", desc := "(I)Z" } : Jvm.MethodName) prog_14_method_59_code (3 : Nat) (Option.some Jvm.ClassFile.FieldType.boolean)) ∈ lw_good := pz_in (List.mem_of_getElem? (i := 3109) (by decide +kernel)) rfl
theorem wq_3110 : (Jvm.Cond.methodLink "SourcewrightModel" (241 : Nat) ({ cls := "SourcewrightModel", name := "agrees", desc := "([II)Z" } : Jvm.MethodName)) ∈ lw_good := pz_in (List.mem_of_getElem? (i := 3110) (by decide +kernel)) rfl
theorem wq_3112 : (Jvm.Cond.instanceMethod ({ cls := "SourcewrightModel", name := "agrees", desc := "([II)Z" } : Jvm.MethodName)) ∈ lw_good := pz_in (List.mem_of_getElem? (i := 3112) (by decide +kernel)) rfl
theorem wq_3113 : (Jvm.Cond.code ({ cls := "SourcewrightModel", name := "agrees", desc := "([II)Z" } : Jvm.MethodName) prog_14_method_58_code (7 : Nat) (Option.some Jvm.ClassFile.FieldType.boolean)) ∈ lw_good := pz_in (List.mem_of_getElem? (i := 3113) (by decide +kernel)) rfl
theorem wq_3114 : (Jvm.Cond.methodLink "SourcewrightModel" (232 : Nat) ({ cls := "java/lang/Math", name := "min", desc := "(II)I" } : Jvm.MethodName)) ∈ lw_good := pz_in (List.mem_of_getElem? (i := 3114) (by decide +kernel)) rfl
theorem wq_3116 : (Jvm.Cond.methodLink "SourcewrightLaw" (285 : Nat) ({ cls := "SourcewrightModel", name := "keep", desc := "()I" } : Jvm.MethodName)) ∈ lw_good := pz_in (List.mem_of_getElem? (i := 3116) (by decide +kernel)) rfl
theorem wq_3117 : (Jvm.Cond.instanceMethod ({ cls := "SourcewrightModel", name := "keep", desc := "()I" } : Jvm.MethodName)) ∈ lw_good := pz_in (List.mem_of_getElem? (i := 3117) (by decide +kernel)) rfl
theorem wq_3118 : (Jvm.Cond.selects "SourcewrightModel" ({ cls := "SourcewrightModel", name := "keep", desc := "()I" } : Jvm.MethodName) ({ cls := "SourcewrightModel", name := "keep", desc := "()I" } : Jvm.MethodName)) ∈ lw_good := pz_in (List.mem_of_getElem? (i := 3118) (by decide +kernel)) rfl
theorem wq_3119 : (Jvm.Cond.code ({ cls := "SourcewrightModel", name := "keep", desc := "()I" } : Jvm.MethodName) prog_14_method_61_code (3 : Nat) (Option.some Jvm.ClassFile.FieldType.int)) ∈ lw_good := pz_in (List.mem_of_getElem? (i := 3119) (by decide +kernel)) rfl
theorem wq_3174 : (Jvm.Cond.methodLink "SourcewrightLaw" (288 : Nat) ({ cls := "SourcewrightModel", name := "match", desc := "(I)I" } : Jvm.MethodName)) ∈ lw_good := pz_in (List.mem_of_getElem? (i := 3174) (by decide +kernel)) rfl
theorem wq_3175 : (Jvm.Cond.instanceMethod ({ cls := "SourcewrightModel", name := "match", desc := "(I)I" } : Jvm.MethodName)) ∈ lw_good := pz_in (List.mem_of_getElem? (i := 3175) (by decide +kernel)) rfl
theorem wq_3176 : (Jvm.Cond.selects "SourcewrightModel" ({ cls := "SourcewrightModel", name := "match", desc := "(I)I" } : Jvm.MethodName) ({ cls := "SourcewrightModel", name := "match", desc := "(I)I" } : Jvm.MethodName)) ∈ lw_good := pz_in (List.mem_of_getElem? (i := 3176) (by decide +kernel)) rfl
theorem wq_3177 : (Jvm.Cond.code ({ cls := "SourcewrightModel", name := "match", desc := "(I)I" } : Jvm.MethodName) prog_14_method_62_code (4 : Nat) (Option.some Jvm.ClassFile.FieldType.int)) ∈ lw_good := pz_in (List.mem_of_getElem? (i := 3177) (by decide +kernel)) rfl
theorem wq_3179 : (Jvm.Cond.methodLink "SourcewrightLaw" (293 : Nat) ({ cls := "SourcewrightModel", name := "checksum", desc := "()J" } : Jvm.MethodName)) ∈ lw_good := pz_in (List.mem_of_getElem? (i := 3179) (by decide +kernel)) rfl
theorem wq_3180 : (Jvm.Cond.instanceMethod ({ cls := "SourcewrightModel", name := "checksum", desc := "()J" } : Jvm.MethodName)) ∈ lw_good := pz_in (List.mem_of_getElem? (i := 3180) (by decide +kernel)) rfl
theorem wq_3181 : (Jvm.Cond.selects "SourcewrightModel" ({ cls := "SourcewrightModel", name := "checksum", desc := "()J" } : Jvm.MethodName) ({ cls := "SourcewrightModel", name := "checksum", desc := "()J" } : Jvm.MethodName)) ∈ lw_good := pz_in (List.mem_of_getElem? (i := 3181) (by decide +kernel)) rfl
theorem wq_3182 : (Jvm.Cond.code ({ cls := "SourcewrightModel", name := "checksum", desc := "()J" } : Jvm.MethodName) prog_14_method_63_code (6 : Nat) (Option.some Jvm.ClassFile.FieldType.long)) ∈ lw_good := pz_in (List.mem_of_getElem? (i := 3182) (by decide +kernel)) rfl
theorem wq_3183 : (Jvm.Cond.constantLong "SourcewrightModel" (267 : Nat) (7 : Int64)) ∈ lw_good := pz_in (List.mem_of_getElem? (i := 3183) (by decide +kernel)) rfl
theorem wq_3185 : (Jvm.Cond.methodLink "SourcewrightLaw" (297 : Nat) ({ cls := "SourcewrightModel", name := "codeShare", desc := "()F" } : Jvm.MethodName)) ∈ lw_good := pz_in (List.mem_of_getElem? (i := 3185) (by decide +kernel)) rfl
theorem wq_3186 : (Jvm.Cond.instanceMethod ({ cls := "SourcewrightModel", name := "codeShare", desc := "()F" } : Jvm.MethodName)) ∈ lw_good := pz_in (List.mem_of_getElem? (i := 3186) (by decide +kernel)) rfl
theorem wq_3187 : (Jvm.Cond.selects "SourcewrightModel" ({ cls := "SourcewrightModel", name := "codeShare", desc := "()F" } : Jvm.MethodName) ({ cls := "SourcewrightModel", name := "codeShare", desc := "()F" } : Jvm.MethodName)) ∈ lw_good := pz_in (List.mem_of_getElem? (i := 3187) (by decide +kernel)) rfl
theorem wq_3188 : (Jvm.Cond.code ({ cls := "SourcewrightModel", name := "codeShare", desc := "()F" } : Jvm.MethodName) prog_14_method_64_code (5 : Nat) (Option.some Jvm.ClassFile.FieldType.float)) ∈ lw_good := pz_in (List.mem_of_getElem? (i := 3188) (by decide +kernel)) rfl
theorem wq_3189 : (Jvm.Cond.methodLink "SourcewrightModel" (271 : Nat) ({ cls := "java/util/ArrayList", name := "isEmpty", desc := "()Z" } : Jvm.MethodName)) ∈ lw_good := pz_in (List.mem_of_getElem? (i := 3189) (by decide +kernel)) rfl
theorem wq_3190 : (Jvm.Cond.methodLink "SourcewrightLaw" (301 : Nat) ({ cls := "SourcewrightModel", name := "meanBlock", desc := "(I)D" } : Jvm.MethodName)) ∈ lw_good := pz_in (List.mem_of_getElem? (i := 3190) (by decide +kernel)) rfl
theorem wq_3191 : (Jvm.Cond.instanceMethod ({ cls := "SourcewrightModel", name := "meanBlock", desc := "(I)D" } : Jvm.MethodName)) ∈ lw_good := pz_in (List.mem_of_getElem? (i := 3191) (by decide +kernel)) rfl
theorem wq_3192 : (Jvm.Cond.selects "SourcewrightModel" ({ cls := "SourcewrightModel", name := "meanBlock", desc := "(I)D" } : Jvm.MethodName) ({ cls := "SourcewrightModel", name := "meanBlock", desc := "(I)D" } : Jvm.MethodName)) ∈ lw_good := pz_in (List.mem_of_getElem? (i := 3192) (by decide +kernel)) rfl
theorem wq_3193 : (Jvm.Cond.code ({ cls := "SourcewrightModel", name := "meanBlock", desc := "(I)D" } : Jvm.MethodName) prog_14_method_65_code (5 : Nat) (Option.some Jvm.ClassFile.FieldType.double)) ∈ lw_good := pz_in (List.mem_of_getElem? (i := 3193) (by decide +kernel)) rfl
theorem wq_3194 : (Jvm.Cond.methodLink "SourcewrightLaw" (306 : Nat) ({ cls := "SourcewrightModel", name := "isSound", desc := "()Z" } : Jvm.MethodName)) ∈ lw_good := pz_in (List.mem_of_getElem? (i := 3194) (by decide +kernel)) rfl
theorem wq_3195 : (Jvm.Cond.instanceMethod ({ cls := "SourcewrightModel", name := "isSound", desc := "()Z" } : Jvm.MethodName)) ∈ lw_good := pz_in (List.mem_of_getElem? (i := 3195) (by decide +kernel)) rfl
theorem wq_3196 : (Jvm.Cond.selects "SourcewrightModel" ({ cls := "SourcewrightModel", name := "isSound", desc := "()Z" } : Jvm.MethodName) ({ cls := "SourcewrightModel", name := "isSound", desc := "()Z" } : Jvm.MethodName)) ∈ lw_good := pz_in (List.mem_of_getElem? (i := 3196) (by decide +kernel)) rfl
theorem wq_3197 : (Jvm.Cond.code ({ cls := "SourcewrightModel", name := "isSound", desc := "()Z" } : Jvm.MethodName) prog_14_method_66_code (1 : Nat) (Option.some Jvm.ClassFile.FieldType.boolean)) ∈ lw_good := pz_in (List.mem_of_getElem? (i := 3197) (by decide +kernel)) rfl
theorem wq_3245 : (Jvm.Cond.selects "[Ljava/lang/Object;" ({ cls := "java/lang/Object", name := "getClass", desc := "()Ljava/lang/Class;" } : Jvm.MethodName) ({ cls := "java/lang/Object", name := "getClass", desc := "()Ljava/lang/Class;" } : Jvm.MethodName)) ∈ lw_good := pz_in (List.mem_of_getElem? (i := 3245) (by decide +kernel)) rfl
theorem wqs_0 : (Jvm.Cond.selects "Sourcewright" ({ cls := "Sourcewright", name := "forget", desc := "()V" } : Jvm.MethodName) ({ cls := "Sourcewright", name := "forget", desc := "()V" } : Jvm.MethodName)) ∈ lw_good := pz_inS (List.mem_of_getElem? (i := 0) (by decide +kernel)) rfl
theorem wqs_1 : (Jvm.Cond.selects "Sourcewright" ({ cls := "Sourcewright", name := "read", desc := "()V" } : Jvm.MethodName) ({ cls := "Sourcewright", name := "read", desc := "()V" } : Jvm.MethodName)) ∈ lw_good := pz_inS (List.mem_of_getElem? (i := 1) (by decide +kernel)) rfl
theorem wqs_2 : (Jvm.Cond.selects "Sourcewright$Code" ({ cls := "Sourcewright$Code", name := "find", desc := "(I)I" } : Jvm.MethodName) ({ cls := "Sourcewright$Code", name := "find", desc := "(I)I" } : Jvm.MethodName)) ∈ lw_good := pz_inS (List.mem_of_getElem? (i := 2) (by decide +kernel)) rfl
theorem wqs_4 : (Jvm.Cond.selects "Sourcewright$Reading" ({ cls := "Sourcewright$Reading", name := "findReturns", desc := "()V" } : Jvm.MethodName) ({ cls := "Sourcewright$Reading", name := "findReturns", desc := "()V" } : Jvm.MethodName)) ∈ lw_good := pz_inS (List.mem_of_getElem? (i := 4) (by decide +kernel)) rfl
theorem wqs_6 : (Jvm.Cond.selects "Sourcewright$Reading" ({ cls := "Sourcewright$Reading", name := "findFunctions", desc := "([II)V" } : Jvm.MethodName) ({ cls := "Sourcewright$Reading", name := "findFunctions", desc := "([II)V" } : Jvm.MethodName)) ∈ lw_good := pz_inS (List.mem_of_getElem? (i := 6) (by decide +kernel)) rfl
theorem wqs_7 : (Jvm.Cond.selects "Sourcewright$Reading" ({ cls := "Sourcewright$Reading", name := "noteEntry", desc := "(I)Z" } : Jvm.MethodName) ({ cls := "Sourcewright$Reading", name := "noteEntry", desc := "(I)Z" } : Jvm.MethodName)) ∈ lw_good := pz_inS (List.mem_of_getElem? (i := 7) (by decide +kernel)) rfl
theorem wqs_10 : (Jvm.Cond.selects "Sourcewright$Reading" ({ cls := "Sourcewright$Reading", name := "markBytes", desc := "()V" } : Jvm.MethodName) ({ cls := "Sourcewright$Reading", name := "markBytes", desc := "()V" } : Jvm.MethodName)) ∈ lw_good := pz_inS (List.mem_of_getElem? (i := 10) (by decide +kernel)) rfl
theorem wqs_58 : (Jvm.Cond.selects "Sourcewright" ({ cls := "Sourcewright", name := "build", desc := "()V" } : Jvm.MethodName) ({ cls := "Sourcewright", name := "build", desc := "()V" } : Jvm.MethodName)) ∈ lw_good := pz_inS (List.mem_of_getElem? (i := 58) (by decide +kernel)) rfl
theorem wqs_59 : (Jvm.Cond.selects "Sourcewright$Builder" ({ cls := "Sourcewright$Builder", name := "put", desc := "(I)V" } : Jvm.MethodName) ({ cls := "Sourcewright$Builder", name := "put", desc := "(I)V" } : Jvm.MethodName)) ∈ lw_good := pz_inS (List.mem_of_getElem? (i := 59) (by decide +kernel)) rfl
theorem wqs_65 : (Jvm.Cond.selects "Sourcewright" ({ cls := "Sourcewright", name := "isAgreed", desc := "(I)Z" } : Jvm.MethodName) ({ cls := "Sourcewright", name := "isAgreed", desc := "(I)Z" } : Jvm.MethodName)) ∈ lw_good := pz_inS (List.mem_of_getElem? (i := 65) (by decide +kernel)) rfl
theorem wqs_66 : (Jvm.Cond.selects "Sourcewright$Machine" ({ cls := "Sourcewright$Machine", name := "reset", desc := "()V" } : Jvm.MethodName) ({ cls := "Sourcewright$Machine", name := "reset", desc := "()V" } : Jvm.MethodName)) ∈ lw_good := pz_inS (List.mem_of_getElem? (i := 66) (by decide +kernel)) rfl
theorem wqs_69 : (Jvm.Cond.selects "Sourcewright$Machine" ({ cls := "Sourcewright$Machine", name := "perform", desc := "(LSourcewright$Code;I)C" } : Jvm.MethodName) ({ cls := "Sourcewright$Machine", name := "perform", desc := "(LSourcewright$Code;I)C" } : Jvm.MethodName)) ∈ lw_good := pz_inS (List.mem_of_getElem? (i := 69) (by decide +kernel)) rfl
theorem wqs_72 : (Jvm.Cond.selects "Sourcewright$Machine" ({ cls := "Sourcewright$Machine", name := "branch", desc := "(LSourcewright$Code;I)C" } : Jvm.MethodName) ({ cls := "Sourcewright$Machine", name := "branch", desc := "(LSourcewright$Code;I)C" } : Jvm.MethodName)) ∈ lw_good := pz_inS (List.mem_of_getElem? (i := 72) (by decide +kernel)) rfl
theorem wqs_73 : (Jvm.Cond.selects "Sourcewright$Machine" ({ cls := "Sourcewright$Machine", name := "isTaken", desc := "(I)Z" } : Jvm.MethodName) ({ cls := "Sourcewright$Machine", name := "isTaken", desc := "(I)Z" } : Jvm.MethodName)) ∈ lw_good := pz_inS (List.mem_of_getElem? (i := 73) (by decide +kernel)) rfl
theorem wqs_75 : (Jvm.Cond.selects "Sourcewright" ({ cls := "Sourcewright", name := "checkPlace", desc := "(I)V" } : Jvm.MethodName) ({ cls := "Sourcewright", name := "checkPlace", desc := "(I)V" } : Jvm.MethodName)) ∈ lw_good := pz_inS (List.mem_of_getElem? (i := 75) (by decide +kernel)) rfl
theorem wqs_77 : (Jvm.Cond.selects "Sourcewright" ({ cls := "Sourcewright", name := "checkFunction", desc := "(I)V" } : Jvm.MethodName) ({ cls := "Sourcewright", name := "checkFunction", desc := "(I)V" } : Jvm.MethodName)) ∈ lw_good := pz_inS (List.mem_of_getElem? (i := 77) (by decide +kernel)) rfl
theorem wqs_78 : (Jvm.Cond.selects "Sourcewright" ({ cls := "Sourcewright", name := "checkBlock", desc := "(II)V" } : Jvm.MethodName) ({ cls := "Sourcewright", name := "checkBlock", desc := "(II)V" } : Jvm.MethodName)) ∈ lw_good := pz_inS (List.mem_of_getElem? (i := 78) (by decide +kernel)) rfl
theorem wqs_79 : (Jvm.Cond.selects "Sourcewright" ({ cls := "Sourcewright", name := "checkInstruction", desc := "(II)V" } : Jvm.MethodName) ({ cls := "Sourcewright", name := "checkInstruction", desc := "(II)V" } : Jvm.MethodName)) ∈ lw_good := pz_inS (List.mem_of_getElem? (i := 79) (by decide +kernel)) rfl
theorem wqs_80 : (Jvm.Cond.selects "Sourcewright" ({ cls := "Sourcewright", name := "checkCompiled", desc := "()V" } : Jvm.MethodName) ({ cls := "Sourcewright", name := "checkCompiled", desc := "()V" } : Jvm.MethodName)) ∈ lw_good := pz_inS (List.mem_of_getElem? (i := 80) (by decide +kernel)) rfl
theorem wqs_81 : (Jvm.Cond.selects "Sourcewright" ({ cls := "Sourcewright", name := "checkSteps", desc := "(I)V" } : Jvm.MethodName) ({ cls := "Sourcewright", name := "checkSteps", desc := "(I)V" } : Jvm.MethodName)) ∈ lw_good := pz_inS (List.mem_of_getElem? (i := 81) (by decide +kernel)) rfl
theorem wqs_84 : (Jvm.Cond.selects "java/util/ArrayList" ({ cls := "java/util/ArrayList", name := "add", desc := "(Ljava/lang/Object;[Ljava/lang/Object;I)V" } : Jvm.MethodName) ({ cls := "java/util/ArrayList", name := "add", desc := "(Ljava/lang/Object;[Ljava/lang/Object;I)V" } : Jvm.MethodName)) ∈ lw_good := pz_inS (List.mem_of_getElem? (i := 84) (by decide +kernel)) rfl
theorem wqs_85 : (Jvm.Cond.selects "java/util/ArrayList" ({ cls := "java/util/ArrayList", name := "grow", desc := "()[Ljava/lang/Object;" } : Jvm.MethodName) ({ cls := "java/util/ArrayList", name := "grow", desc := "()[Ljava/lang/Object;" } : Jvm.MethodName)) ∈ lw_good := pz_inS (List.mem_of_getElem? (i := 85) (by decide +kernel)) rfl
theorem wqs_86 : (Jvm.Cond.selects "java/util/ArrayList" ({ cls := "java/util/ArrayList", name := "grow", desc := "(I)[Ljava/lang/Object;" } : Jvm.MethodName) ({ cls := "java/util/ArrayList", name := "grow", desc := "(I)[Ljava/lang/Object;" } : Jvm.MethodName)) ∈ lw_good := pz_inS (List.mem_of_getElem? (i := 86) (by decide +kernel)) rfl
theorem wqs_87 : (Jvm.Cond.selects "SourcewrightModel" ({ cls := "SourcewrightModel", name := "noByte", desc := "(I)Z" } : Jvm.MethodName) ({ cls := "SourcewrightModel", name := "noByte", desc := "(I)Z" } : Jvm.MethodName)) ∈ lw_good := pz_inS (List.mem_of_getElem? (i := 87) (by decide +kernel)) rfl
theorem wqs_88 : (Jvm.Cond.selects "SourcewrightModel" ({ cls := "SourcewrightModel", name := "read", desc := "()LSourcewrightModel$Reading;" } : Jvm.MethodName) ({ cls := "SourcewrightModel", name := "read", desc := "()LSourcewrightModel$Reading;" } : Jvm.MethodName)) ∈ lw_good := pz_inS (List.mem_of_getElem? (i := 88) (by decide +kernel)) rfl
theorem wqs_89 : (Jvm.Cond.selects "SourcewrightModel$Reading" ({ cls := "SourcewrightModel$Reading", name := "walked", desc := "([Z)[Z" } : Jvm.MethodName) ({ cls := "SourcewrightModel$Reading", name := "walked", desc := "([Z)[Z" } : Jvm.MethodName)) ∈ lw_good := pz_inS (List.mem_of_getElem? (i := 89) (by decide +kernel)) rfl
theorem wqs_99 : (Jvm.Cond.selects "SourcewrightModel" ({ cls := "SourcewrightModel", name := "function", desc := "(I)LSourcewrightModel$Function;" } : Jvm.MethodName) ({ cls := "SourcewrightModel", name := "function", desc := "(I)LSourcewrightModel$Function;" } : Jvm.MethodName)) ∈ lw_good := pz_inS (List.mem_of_getElem? (i := 99) (by decide +kernel)) rfl
theorem wqs_101 : (Jvm.Cond.selects "SourcewrightModel" ({ cls := "SourcewrightModel", name := "withBlock", desc := "(II)LSourcewrightModel$Function;" } : Jvm.MethodName) ({ cls := "SourcewrightModel", name := "withBlock", desc := "(II)LSourcewrightModel$Function;" } : Jvm.MethodName)) ∈ lw_good := pz_inS (List.mem_of_getElem? (i := 101) (by decide +kernel)) rfl
theorem wqs_103 : (Jvm.Cond.selects "SourcewrightModel" ({ cls := "SourcewrightModel", name := "withPlace", desc := "(II)LSourcewrightModel$Function;" } : Jvm.MethodName) ({ cls := "SourcewrightModel", name := "withPlace", desc := "(II)LSourcewrightModel$Function;" } : Jvm.MethodName)) ∈ lw_good := pz_inS (List.mem_of_getElem? (i := 103) (by decide +kernel)) rfl
theorem wqs_115 : (Jvm.Cond.selects "SourcewrightModel" ({ cls := "SourcewrightModel", name := "back", desc := "()[I" } : Jvm.MethodName) ({ cls := "SourcewrightModel", name := "back", desc := "()[I" } : Jvm.MethodName)) ∈ lw_good := pz_inS (List.mem_of_getElem? (i := 115) (by decide +kernel)) rfl
theorem wqs_116 : (Jvm.Cond.selects "SourcewrightModel$Writer" ({ cls := "SourcewrightModel$Writer", name := "goTo", desc := "(I)V" } : Jvm.MethodName) ({ cls := "SourcewrightModel$Writer", name := "goTo", desc := "(I)V" } : Jvm.MethodName)) ∈ lw_good := pz_inS (List.mem_of_getElem? (i := 116) (by decide +kernel)) rfl
theorem wqs_121 : (Jvm.Cond.selects "SourcewrightModel" ({ cls := "SourcewrightModel", name := "agrees", desc := "([II)Z" } : Jvm.MethodName) ({ cls := "SourcewrightModel", name := "agrees", desc := "([II)Z" } : Jvm.MethodName)) ∈ lw_good := pz_inS (List.mem_of_getElem? (i := 121) (by decide +kernel)) rfl
theorem inX0 : ∀ w ∈ u_ws "Sourcewright$Blocks" TX0 15, w ∈ lw_good := fun w hw => by
  obtain ⟨k, hk, rfl⟩ := List.mem_map.mp hw
  have hk := List.mem_range.mp hk
  match k, hk with
  | 0, _ => exact wq_146
  | 1, _ => exact wq_148
  | 2, _ => exact wq_150
  | 3, _ => exact wq_152
  | 4, _ => exact wq_154
  | 5, _ => exact wq_156
  | 6, _ => exact wq_158
  | 7, _ => exact wq_160
  | 8, _ => exact wq_162
  | 9, _ => exact wq_164
  | 10, _ => exact wq_166
  | 11, _ => exact wq_168
  | 12, _ => exact wq_170
  | 13, _ => exact wq_172
  | 14, _ => exact wq_174
  | k + 15, h => exact absurd h (by omega)
theorem pz_dfX0 : ∀ j, j < 15 → defaultValue (tyX0 j) = vp_V [.null, .null, .null, .null, .null, .null, .null, .null, .null, .null, .null, .null, .int 0, .int 0, .int 0] j := fun j hj => match j, hj with
  | 0, _ => rfl
  | 1, _ => rfl
  | 2, _ => rfl
  | 3, _ => rfl
  | 4, _ => rfl
  | 5, _ => rfl
  | 6, _ => rfl
  | 7, _ => rfl
  | 8, _ => rfl
  | 9, _ => rfl
  | 10, _ => rfl
  | 11, _ => rfl
  | 12, _ => rfl
  | 13, _ => rfl
  | 14, _ => rfl
  | k + 15, h => absurd h (by omega)
theorem inX1 : ∀ w ∈ u_ws "Sourcewright$Builder" TX1 16, w ∈ lw_good := fun w hw => by
  obtain ⟨k, hk, rfl⟩ := List.mem_map.mp hw
  have hk := List.mem_range.mp hk
  match k, hk with
  | 0, _ => exact wq_357
  | 1, _ => exact wq_359
  | 2, _ => exact wq_361
  | 3, _ => exact wq_363
  | 4, _ => exact wq_365
  | 5, _ => exact wq_367
  | 6, _ => exact wq_369
  | 7, _ => exact wq_371
  | 8, _ => exact wq_373
  | 9, _ => exact wq_375
  | 10, _ => exact wq_377
  | 11, _ => exact wq_379
  | 12, _ => exact wq_381
  | 13, _ => exact wq_383
  | 14, _ => exact wq_385
  | 15, _ => exact wq_387
  | k + 16, h => exact absurd h (by omega)
theorem pz_dfX1 : ∀ j, j < 16 → defaultValue (tyX1 j) = vp_V [.null, .null, .null, .null, .null, .null, .null, .null, .null, .null, .null, .null, .int 0, .int 0, .int 0, .int 0] j := fun j hj => match j, hj with
  | 0, _ => rfl
  | 1, _ => rfl
  | 2, _ => rfl
  | 3, _ => rfl
  | 4, _ => rfl
  | 5, _ => rfl
  | 6, _ => rfl
  | 7, _ => rfl
  | 8, _ => rfl
  | 9, _ => rfl
  | 10, _ => rfl
  | 11, _ => rfl
  | 12, _ => rfl
  | 13, _ => rfl
  | 14, _ => rfl
  | 15, _ => rfl
  | k + 16, h => absurd h (by omega)
theorem inX2 : ∀ w ∈ u_ws "Sourcewright$Code" TX2 3, w ∈ lw_good := fun w hw => by
  obtain ⟨k, hk, rfl⟩ := List.mem_map.mp hw
  have hk := List.mem_range.mp hk
  match k, hk with
  | 0, _ => exact wq_65
  | 1, _ => exact wq_67
  | 2, _ => exact wq_69
  | k + 3, h => exact absurd h (by omega)
theorem pz_dfX2 : ∀ j, j < 3 → defaultValue (tyX2 j) = vp_V [.null, .null, .int 0] j := fun j hj => match j, hj with
  | 0, _ => rfl
  | 1, _ => rfl
  | 2, _ => rfl
  | k + 3, h => absurd h (by omega)
theorem inX3 : ∀ w ∈ u_ws "Sourcewright$Life" TX3 3, w ∈ lw_good := fun w hw => by
  obtain ⟨k, hk, rfl⟩ := List.mem_map.mp hw
  have hk := List.mem_range.mp hk
  match k, hk with
  | 0, _ => exact wq_243
  | 1, _ => exact wq_245
  | 2, _ => exact wq_247
  | k + 3, h => exact absurd h (by omega)
theorem pz_dfX3 : ∀ j, j < 3 → defaultValue (tyX3 j) = vp_V [.null, .null, .null] j := fun j hj => match j, hj with
  | 0, _ => rfl
  | 1, _ => rfl
  | 2, _ => rfl
  | k + 3, h => absurd h (by omega)
theorem inX4 : ∀ w ∈ u_ws "Sourcewright$Machine" TX4 10, w ∈ lw_good := fun w hw => by
  obtain ⟨k, hk, rfl⟩ := List.mem_map.mp hw
  have hk := List.mem_range.mp hk
  match k, hk with
  | 0, _ => exact wq_422
  | 1, _ => exact wq_424
  | 2, _ => exact wq_426
  | 3, _ => exact wq_428
  | 4, _ => exact wq_430
  | 5, _ => exact wq_432
  | 6, _ => exact wq_434
  | 7, _ => exact wq_436
  | 8, _ => exact wq_438
  | 9, _ => exact wq_440
  | k + 10, h => exact absurd h (by omega)
theorem pz_dfX4 : ∀ j, j < 10 → defaultValue (tyX4 j) = vp_V [.null, .null, .null, .null, .int 0, .int 0, .int 0, .int 0, .int 0, .int 0] j := fun j hj => match j, hj with
  | 0, _ => rfl
  | 1, _ => rfl
  | 2, _ => rfl
  | 3, _ => rfl
  | 4, _ => rfl
  | 5, _ => rfl
  | 6, _ => rfl
  | 7, _ => rfl
  | 8, _ => rfl
  | 9, _ => rfl
  | k + 10, h => absurd h (by omega)
theorem inX5 : ∀ w ∈ u_ws "Sourcewright$Reading" TX5 10, w ∈ lw_good := fun w hw => by
  obtain ⟨k, hk, rfl⟩ := List.mem_map.mp hw
  have hk := List.mem_range.mp hk
  match k, hk with
  | 0, _ => exact wq_103
  | 1, _ => exact wq_105
  | 2, _ => exact wq_107
  | 3, _ => exact wq_109
  | 4, _ => exact wq_111
  | 5, _ => exact wq_113
  | 6, _ => exact wq_115
  | 7, _ => exact wq_117
  | 8, _ => exact wq_119
  | 9, _ => exact wq_121
  | k + 10, h => exact absurd h (by omega)
theorem pz_dfX5 : ∀ j, j < 10 → defaultValue (tyX5 j) = vp_V [.null, .null, .null, .null, .null, .null, .null, .int 0, .int 0, .int 0] j := fun j hj => match j, hj with
  | 0, _ => rfl
  | 1, _ => rfl
  | 2, _ => rfl
  | 3, _ => rfl
  | 4, _ => rfl
  | 5, _ => rfl
  | 6, _ => rfl
  | 7, _ => rfl
  | 8, _ => rfl
  | 9, _ => rfl
  | k + 10, h => absurd h (by omega)
theorem inX6 : ∀ w ∈ u_ws "Sourcewright$Scribe" TX6 8, w ∈ lw_good := fun w hw => by
  obtain ⟨k, hk, rfl⟩ := List.mem_map.mp hw
  have hk := List.mem_range.mp hk
  match k, hk with
  | 0, _ => exact wq_314
  | 1, _ => exact wq_316
  | 2, _ => exact wq_318
  | 3, _ => exact wq_320
  | 4, _ => exact wq_322
  | 5, _ => exact wq_324
  | 6, _ => exact wq_326
  | 7, _ => exact wq_328
  | k + 8, h => exact absurd h (by omega)
theorem pz_dfX6 : ∀ j, j < 8 → defaultValue (tyX6 j) = vp_V [.null, .null, .null, .null, .null, .null, .int 0, .int 0] j := fun j hj => match j, hj with
  | 0, _ => rfl
  | 1, _ => rfl
  | 2, _ => rfl
  | 3, _ => rfl
  | 4, _ => rfl
  | 5, _ => rfl
  | 6, _ => rfl
  | 7, _ => rfl
  | k + 8, h => absurd h (by omega)
theorem inX7 : ∀ w ∈ u_ws "Sourcewright$Sets" TX7 2, w ∈ lw_good := fun w hw => by
  obtain ⟨k, hk, rfl⟩ := List.mem_map.mp hw
  have hk := List.mem_range.mp hk
  match k, hk with
  | 0, _ => exact wq_87
  | 1, _ => exact wq_89
  | k + 2, h => exact absurd h (by omega)
theorem pz_dfX7 : ∀ j, j < 2 → defaultValue (tyX7 j) = vp_V [.null, .null] j := fun j hj => match j, hj with
  | 0, _ => rfl
  | 1, _ => rfl
  | k + 2, h => absurd h (by omega)
theorem inX8 : ∀ w ∈ u_ws "Sourcewright$Shelf" TX8 3, w ∈ lw_good := fun w hw => by
  obtain ⟨k, hk, rfl⟩ := List.mem_map.mp hw
  have hk := List.mem_range.mp hk
  match k, hk with
  | 0, _ => exact wq_399
  | 1, _ => exact wq_401
  | 2, _ => exact wq_403
  | k + 3, h => exact absurd h (by omega)
theorem pz_dfX8 : ∀ j, j < 3 → defaultValue (tyX8 j) = vp_V [.null, .null, .int 0] j := fun j hj => match j, hj with
  | 0, _ => rfl
  | 1, _ => rfl
  | 2, _ => rfl
  | k + 3, h => absurd h (by omega)
theorem inX9 : ∀ w ∈ u_ws "Sourcewright$Tour" TX9 14, w ∈ lw_good := fun w hw => by
  obtain ⟨k, hk, rfl⟩ := List.mem_map.mp hw
  have hk := List.mem_range.mp hk
  match k, hk with
  | 0, _ => exact wq_276
  | 1, _ => exact wq_278
  | 2, _ => exact wq_280
  | 3, _ => exact wq_282
  | 4, _ => exact wq_284
  | 5, _ => exact wq_286
  | 6, _ => exact wq_288
  | 7, _ => exact wq_290
  | 8, _ => exact wq_292
  | 9, _ => exact wq_294
  | 10, _ => exact wq_296
  | 11, _ => exact wq_298
  | 12, _ => exact wq_300
  | 13, _ => exact wq_302
  | k + 14, h => exact absurd h (by omega)
theorem pz_dfX9 : ∀ j, j < 14 → defaultValue (tyX9 j) = vp_V [.null, .null, .null, .int 0, .null, .null, .null, .null, .int 0, .int 0, .int 0, .int 0, .int 0, .int 0] j := fun j hj => match j, hj with
  | 0, _ => rfl
  | 1, _ => rfl
  | 2, _ => rfl
  | 3, _ => rfl
  | 4, _ => rfl
  | 5, _ => rfl
  | 6, _ => rfl
  | 7, _ => rfl
  | 8, _ => rfl
  | 9, _ => rfl
  | 10, _ => rfl
  | 11, _ => rfl
  | 12, _ => rfl
  | 13, _ => rfl
  | k + 14, h => absurd h (by omega)
theorem inX10 : ∀ w ∈ u_ws "Sourcewright$Ways" TX10 16, w ∈ lw_good := fun w hw => by
  obtain ⟨k, hk, rfl⟩ := List.mem_map.mp hw
  have hk := List.mem_range.mp hk
  match k, hk with
  | 0, _ => exact wq_201
  | 1, _ => exact wq_203
  | 2, _ => exact wq_205
  | 3, _ => exact wq_207
  | 4, _ => exact wq_209
  | 5, _ => exact wq_211
  | 6, _ => exact wq_213
  | 7, _ => exact wq_215
  | 8, _ => exact wq_217
  | 9, _ => exact wq_219
  | 10, _ => exact wq_221
  | 11, _ => exact wq_223
  | 12, _ => exact wq_225
  | 13, _ => exact wq_227
  | 14, _ => exact wq_229
  | 15, _ => exact wq_231
  | k + 16, h => exact absurd h (by omega)
theorem pz_dfX10 : ∀ j, j < 16 → defaultValue (tyX10 j) = vp_V [.null, .null, .null, .null, .null, .null, .null, .null, .null, .null, .null, .null, .null, .null, .int 0, .int 0] j := fun j hj => match j, hj with
  | 0, _ => rfl
  | 1, _ => rfl
  | 2, _ => rfl
  | 3, _ => rfl
  | 4, _ => rfl
  | 5, _ => rfl
  | 6, _ => rfl
  | 7, _ => rfl
  | 8, _ => rfl
  | 9, _ => rfl
  | 10, _ => rfl
  | 11, _ => rfl
  | 12, _ => rfl
  | 13, _ => rfl
  | 14, _ => rfl
  | 15, _ => rfl
  | k + 16, h => absurd h (by omega)
theorem inX11 : ∀ w ∈ u_ws "Sourcewright" TX11 20, w ∈ lw_good := fun w hw => by
  obtain ⟨k, hk, rfl⟩ := List.mem_map.mp hw
  have hk := List.mem_range.mp hk
  match k, hk with
  | 0, _ => exact wq_463
  | 1, _ => exact wq_465
  | 2, _ => exact wq_467
  | 3, _ => exact wq_469
  | 4, _ => exact wq_471
  | 5, _ => exact wq_473
  | 6, _ => exact wq_475
  | 7, _ => exact wq_477
  | 8, _ => exact wq_479
  | 9, _ => exact wq_481
  | 10, _ => exact wq_483
  | 11, _ => exact wq_485
  | 12, _ => exact wq_487
  | 13, _ => exact wq_489
  | 14, _ => exact wq_491
  | 15, _ => exact wq_493
  | 16, _ => exact wq_495
  | 17, _ => exact wq_497
  | 18, _ => exact wq_499
  | 19, _ => exact wq_501
  | k + 20, h => exact absurd h (by omega)
theorem pz_dfX11 : ∀ j, j < 20 → defaultValue (tyX11 j) = vp_V [.null, .null, .int 0, .null, .int 0, .int 0, .null, .null, .null, .null, .null, .null, .null, .null, .null, .null, .int 0, .int 0, .int 0, .int 0] j := fun j hj => match j, hj with
  | 0, _ => rfl
  | 1, _ => rfl
  | 2, _ => rfl
  | 3, _ => rfl
  | 4, _ => rfl
  | 5, _ => rfl
  | 6, _ => rfl
  | 7, _ => rfl
  | 8, _ => rfl
  | 9, _ => rfl
  | 10, _ => rfl
  | 11, _ => rfl
  | 12, _ => rfl
  | 13, _ => rfl
  | 14, _ => rfl
  | 15, _ => rfl
  | 16, _ => rfl
  | 17, _ => rfl
  | 18, _ => rfl
  | 19, _ => rfl
  | k + 20, h => absurd h (by omega)
theorem inX13 : ∀ w ∈ u_ws "SourcewrightModel$Reading" TX13 4, w ∈ lw_good := fun w hw => by
  obtain ⟨k, hk, rfl⟩ := List.mem_map.mp hw
  have hk := List.mem_range.mp hk
  match k, hk with
  | 0, _ => exact wq_2347
  | 1, _ => exact wq_2349
  | 2, _ => exact wq_2351
  | 3, _ => exact wq_2353
  | k + 4, h => exact absurd h (by omega)
theorem pz_dfX13 : ∀ j, j < 4 → defaultValue (tyX13 j) = vp_V [.null, .null, .null, .null] j := fun j hj => match j, hj with
  | 0, _ => rfl
  | 1, _ => rfl
  | 2, _ => rfl
  | 3, _ => rfl
  | k + 4, h => absurd h (by omega)
theorem inX14 : ∀ w ∈ u_ws "SourcewrightModel$Run" TX14 3, w ∈ lw_good := fun w hw => by
  obtain ⟨k, hk, rfl⟩ := List.mem_map.mp hw
  have hk := List.mem_range.mp hk
  match k, hk with
  | 0, _ => exact wq_3087
  | 1, _ => exact wq_3089
  | 2, _ => exact wq_3091
  | k + 3, h => exact absurd h (by omega)
theorem pz_dfX14 : ∀ j, j < 3 → defaultValue (tyX14 j) = vp_V [.int 0, .int 0, .null] j := fun j hj => match j, hj with
  | 0, _ => rfl
  | 1, _ => rfl
  | 2, _ => rfl
  | k + 3, h => absurd h (by omega)
theorem inX15 : ∀ w ∈ u_ws "SourcewrightModel$Writer" TX15 6, w ∈ lw_good := fun w hw => by
  obtain ⟨k, hk, rfl⟩ := List.mem_map.mp hw
  have hk := List.mem_range.mp hk
  match k, hk with
  | 0, _ => exact wq_3031
  | 1, _ => exact wq_3033
  | 2, _ => exact wq_3035
  | 3, _ => exact wq_3037
  | 4, _ => exact wq_3039
  | 5, _ => exact wq_3041
  | k + 6, h => exact absurd h (by omega)
theorem pz_dfX15 : ∀ j, j < 6 → defaultValue (tyX15 j) = vp_V [.null, .int 0, .null, .null, .null, .int 0] j := fun j hj => match j, hj with
  | 0, _ => rfl
  | 1, _ => rfl
  | 2, _ => rfl
  | 3, _ => rfl
  | 4, _ => rfl
  | 5, _ => rfl
  | k + 6, h => absurd h (by omega)
theorem inX16 : ∀ w ∈ u_ws "SourcewrightModel" TX16 7, w ∈ lw_good := fun w hw => by
  obtain ⟨k, hk, rfl⟩ := List.mem_map.mp hw
  have hk := List.mem_range.mp hk
  match k, hk with
  | 0, _ => exact wq_1820
  | 1, _ => exact wq_1822
  | 2, _ => exact wq_1824
  | 3, _ => exact wq_1826
  | 4, _ => exact wq_1828
  | 5, _ => exact wq_1830
  | 6, _ => exact wq_1832
  | k + 7, h => exact absurd h (by omega)
theorem pz_dfX16 : ∀ j, j < 7 → defaultValue (tyX16 j) = vp_V [.int 0, .null, .null, .null, .null, .int 0, .null] j := fun j hj => match j, hj with
  | 0, _ => rfl
  | 1, _ => rfl
  | 2, _ => rfl
  | 3, _ => rfl
  | 4, _ => rfl
  | 5, _ => rfl
  | 6, _ => rfl
  | k + 7, h => absurd h (by omega)
theorem inJ6 : ∀ w ∈ u_ws "java/lang/Integer" TJ6 1, w ∈ lw_good := fun w hw => by
  obtain ⟨k, hk, rfl⟩ := List.mem_map.mp hw
  have hk := List.mem_range.mp hk
  match k, hk with
  | 0, _ => exact wq_1867
  | k + 1, h => exact absurd h (by omega)
theorem pz_dfJ6 : ∀ j, j < 1 → defaultValue (tyJ6 j) = vp_V [.int 0] j := fun j hj => match j, hj with
  | 0, _ => rfl
  | k + 1, h => absurd h (by omega)
theorem inJx4a65c : ∀ w ∈ u_ws "java/util/ArrayList" TJx4a65c 3, w ∈ lw_good := fun w hw => by
  obtain ⟨k, hk, rfl⟩ := List.mem_map.mp hw
  have hk := List.mem_range.mp hk
  match k, hk with
  | 0, _ => exact wq_1810
  | 1, _ => exact wq_1806
  | 2, _ => exact wq_1808
  | k + 3, h => exact absurd h (by omega)
theorem pz_dfJx4a65c : ∀ j, j < 3 → defaultValue (tyJx4a65c j) = vp_V [.int 0, .null, .int 0] j := fun j hj => match j, hj with
  | 0, _ => rfl
  | 1, _ => rfl
  | 2, _ => rfl
  | k + 3, h => absurd h (by omega)
theorem inJx35411 : ∀ w ∈ u_ws "java/util/ArrayList$Itr" TJx35411 4, w ∈ lw_good := fun w hw => by
  obtain ⟨k, hk, rfl⟩ := List.mem_map.mp hw
  have hk := List.mem_range.mp hk
  match k, hk with
  | 0, _ => exact wq_2093
  | 1, _ => exact wq_2095
  | 2, _ => exact wq_2097
  | 3, _ => exact wq_2099
  | k + 4, h => exact absurd h (by omega)
theorem pz_dfJx35411 : ∀ j, j < 4 → defaultValue (tyJx35411 j) = vp_V [.int 0, .int 0, .int 0, .null] j := fun j hj => match j, hj with
  | 0, _ => rfl
  | 1, _ => rfl
  | 2, _ => rfl
  | 3, _ => rfl
  | k + 4, h => absurd h (by omega)
def pz_nx : List Cond := [(Jvm.Cond.methodLinkNest "Sourcewright" (9 : Nat) ({ cls := "Sourcewright$Code", name := "<init>", desc := "()V" } : Jvm.MethodName) "Sourcewright"), (Jvm.Cond.methodLinkNest "Sourcewright$Reading" (11 : Nat) ({ cls := "Sourcewright$Sets", name := "<init>", desc := "()V" } : Jvm.MethodName) "Sourcewright"), (Jvm.Cond.methodLinkNest "Sourcewright$Ways" (11 : Nat) ({ cls := "Sourcewright$Sets", name := "<init>", desc := "()V" } : Jvm.MethodName) "Sourcewright"), (Jvm.Cond.methodLinkNest "Sourcewright$Builder" (11 : Nat) ({ cls := "Sourcewright$Code", name := "<init>", desc := "()V" } : Jvm.MethodName) "Sourcewright"), (Jvm.Cond.methodLinkNest "Sourcewright" (86 : Nat) ({ cls := "Sourcewright$Shelf", name := "<init>", desc := "()V" } : Jvm.MethodName) "Sourcewright"), (Jvm.Cond.methodLinkNest "Sourcewright" (93 : Nat) ({ cls := "Sourcewright$Machine", name := "<init>", desc := "()V" } : Jvm.MethodName) "Sourcewright"), (Jvm.Cond.fieldLinkNest "Sourcewright$Code" (48 : Nat) "Sourcewright" "BRANCHES" "[I" "Sourcewright"), (Jvm.Cond.fieldLinkNest "Sourcewright$Code" (51 : Nat) "Sourcewright" "PLAIN" "[I" "Sourcewright"), (Jvm.Cond.fieldLinkNest "Sourcewright$Code" (28 : Nat) "Sourcewright" "SPANS" "[I" "Sourcewright"), (Jvm.Cond.castable "java/lang/IllegalArgumentException" "java/lang/IllegalArgumentException"), (Jvm.Cond.castable "java/lang/IndexOutOfBoundsException" "java/lang/IndexOutOfBoundsException"), (Jvm.Cond.castable "java/util/NoSuchElementException" "java/util/NoSuchElementException"), (Jvm.Cond.castable "java/lang/ArithmeticException" "java/lang/ArithmeticException"), (Jvm.Cond.fieldLinkNest "java/util/ArrayList$Itr" (28 : Nat) "java/util/ArrayList" "size" "I" "java/util/ArrayList"), (Jvm.Cond.methodLinkNest "SourcewrightModel$Reading" (78 : Nat) ({ cls := "SourcewrightModel", name := "isWhole", desc := "([II)Z" } : Jvm.MethodName) "SourcewrightModel"), (Jvm.Cond.fieldLinkNest "SourcewrightModel$Writer" (35 : Nat) "SourcewrightModel$Reading" "code" "[I" "SourcewrightModel"), (Jvm.Cond.fieldLinkNest "SourcewrightModel$Writer" (26 : Nat) "SourcewrightModel$Reading" "functions" "Ljava/util/ArrayList;" "SourcewrightModel"), (Jvm.Cond.fieldLinkNest "SourcewrightModel" (63 : Nat) "SourcewrightModel$Reading" "functions" "Ljava/util/ArrayList;" "SourcewrightModel"), (Jvm.Cond.fieldLinkNest "SourcewrightModel" (206 : Nat) "SourcewrightModel$Writer" "made" "Ljava/util/ArrayList;" "SourcewrightModel"), (Jvm.Cond.methodLinkNest "SourcewrightModel$Run" (22 : Nat) ({ cls := "SourcewrightModel", name := "isWhole", desc := "([II)Z" } : Jvm.MethodName) "SourcewrightModel"), (Jvm.Cond.methodLinkNest "SourcewrightModel$Run" (26 : Nat) ({ cls := "SourcewrightModel", name := "isGood", desc := "([II)Z" } : Jvm.MethodName) "SourcewrightModel"), (Jvm.Cond.methodLinkNest "SourcewrightModel$Run" (33 : Nat) ({ cls := "SourcewrightModel", name := "told", desc := "(I)I" } : Jvm.MethodName) "SourcewrightModel"), (Jvm.Cond.fieldLinkNest "SourcewrightModel" (222 : Nat) "SourcewrightModel$Run" "end" "C" "SourcewrightModel"), (Jvm.Cond.fieldLinkNest "SourcewrightModel" (226 : Nat) "SourcewrightModel$Run" "out" "Ljava/util/ArrayList;" "SourcewrightModel"), (Jvm.Cond.castable "java/lang/Integer" "java/lang/Object"), (Jvm.Cond.declares ({ cls := "java/lang/Object", name := "getClass", desc := "()Ljava/lang/Class;" } : Jvm.MethodName)), (Jvm.Cond.superclass "java/lang/Throwable" "java/lang/Object"), (Jvm.Cond.castable "java/lang/IllegalStateException" "java/lang/IllegalStateException"), (Jvm.Cond.castable "java/lang/UnsupportedOperationException" "java/lang/UnsupportedOperationException")]
theorem nx_58 : (Jvm.Cond.methodLinkNest "Sourcewright" (9 : Nat) ({ cls := "Sourcewright$Code", name := "<init>", desc := "()V" } : Jvm.MethodName) "Sourcewright") ∈ pz_nx := List.mem_of_getElem? (i := 0) rfl
theorem nx_81 : (Jvm.Cond.methodLinkNest "Sourcewright$Reading" (11 : Nat) ({ cls := "Sourcewright$Sets", name := "<init>", desc := "()V" } : Jvm.MethodName) "Sourcewright") ∈ pz_nx := List.mem_of_getElem? (i := 1) rfl
theorem nx_184 : (Jvm.Cond.methodLinkNest "Sourcewright$Ways" (11 : Nat) ({ cls := "Sourcewright$Sets", name := "<init>", desc := "()V" } : Jvm.MethodName) "Sourcewright") ∈ pz_nx := List.mem_of_getElem? (i := 2) rfl
theorem nx_338 : (Jvm.Cond.methodLinkNest "Sourcewright$Builder" (11 : Nat) ({ cls := "Sourcewright$Code", name := "<init>", desc := "()V" } : Jvm.MethodName) "Sourcewright") ∈ pz_nx := List.mem_of_getElem? (i := 3) rfl
theorem nx_392 : (Jvm.Cond.methodLinkNest "Sourcewright" (86 : Nat) ({ cls := "Sourcewright$Shelf", name := "<init>", desc := "()V" } : Jvm.MethodName) "Sourcewright") ∈ pz_nx := List.mem_of_getElem? (i := 4) rfl
theorem nx_408 : (Jvm.Cond.methodLinkNest "Sourcewright" (93 : Nat) ({ cls := "Sourcewright$Machine", name := "<init>", desc := "()V" } : Jvm.MethodName) "Sourcewright") ∈ pz_nx := List.mem_of_getElem? (i := 5) rfl
theorem nx_546 : (Jvm.Cond.fieldLinkNest "Sourcewright$Code" (48 : Nat) "Sourcewright" "BRANCHES" "[I" "Sourcewright") ∈ pz_nx := List.mem_of_getElem? (i := 6) rfl
theorem nx_548 : (Jvm.Cond.fieldLinkNest "Sourcewright$Code" (51 : Nat) "Sourcewright" "PLAIN" "[I" "Sourcewright") ∈ pz_nx := List.mem_of_getElem? (i := 7) rfl
theorem nx_553 : (Jvm.Cond.fieldLinkNest "Sourcewright$Code" (28 : Nat) "Sourcewright" "SPANS" "[I" "Sourcewright") ∈ pz_nx := List.mem_of_getElem? (i := 8) rfl
theorem nx_1266 : (Jvm.Cond.castable "java/lang/IllegalArgumentException" "java/lang/IllegalArgumentException") ∈ pz_nx := List.mem_of_getElem? (i := 9) rfl
theorem nx_1390 : (Jvm.Cond.castable "java/lang/IndexOutOfBoundsException" "java/lang/IndexOutOfBoundsException") ∈ pz_nx := List.mem_of_getElem? (i := 10) rfl
theorem nx_1488 : (Jvm.Cond.castable "java/util/NoSuchElementException" "java/util/NoSuchElementException") ∈ pz_nx := List.mem_of_getElem? (i := 11) rfl
theorem nx_1762 : (Jvm.Cond.castable "java/lang/ArithmeticException" "java/lang/ArithmeticException") ∈ pz_nx := List.mem_of_getElem? (i := 12) rfl
theorem nx_1800 : (Jvm.Cond.fieldLinkNest "java/util/ArrayList$Itr" (28 : Nat) "java/util/ArrayList" "size" "I" "java/util/ArrayList") ∈ pz_nx := List.mem_of_getElem? (i := 13) rfl
theorem nx_2138 : (Jvm.Cond.methodLinkNest "SourcewrightModel$Reading" (78 : Nat) ({ cls := "SourcewrightModel", name := "isWhole", desc := "([II)Z" } : Jvm.MethodName) "SourcewrightModel") ∈ pz_nx := List.mem_of_getElem? (i := 14) rfl
theorem nx_2340 : (Jvm.Cond.fieldLinkNest "SourcewrightModel$Writer" (35 : Nat) "SourcewrightModel$Reading" "code" "[I" "SourcewrightModel") ∈ pz_nx := List.mem_of_getElem? (i := 15) rfl
theorem nx_2345 : (Jvm.Cond.fieldLinkNest "SourcewrightModel$Writer" (26 : Nat) "SourcewrightModel$Reading" "functions" "Ljava/util/ArrayList;" "SourcewrightModel") ∈ pz_nx := List.mem_of_getElem? (i := 16) rfl
theorem nx_2346 : (Jvm.Cond.fieldLinkNest "SourcewrightModel" (63 : Nat) "SourcewrightModel$Reading" "functions" "Ljava/util/ArrayList;" "SourcewrightModel") ∈ pz_nx := List.mem_of_getElem? (i := 17) rfl
theorem nx_3027 : (Jvm.Cond.fieldLinkNest "SourcewrightModel" (206 : Nat) "SourcewrightModel$Writer" "made" "Ljava/util/ArrayList;" "SourcewrightModel") ∈ pz_nx := List.mem_of_getElem? (i := 18) rfl
theorem nx_3068 : (Jvm.Cond.methodLinkNest "SourcewrightModel$Run" (22 : Nat) ({ cls := "SourcewrightModel", name := "isWhole", desc := "([II)Z" } : Jvm.MethodName) "SourcewrightModel") ∈ pz_nx := List.mem_of_getElem? (i := 19) rfl
theorem nx_3069 : (Jvm.Cond.methodLinkNest "SourcewrightModel$Run" (26 : Nat) ({ cls := "SourcewrightModel", name := "isGood", desc := "([II)Z" } : Jvm.MethodName) "SourcewrightModel") ∈ pz_nx := List.mem_of_getElem? (i := 20) rfl
theorem nx_3070 : (Jvm.Cond.methodLinkNest "SourcewrightModel$Run" (33 : Nat) ({ cls := "SourcewrightModel", name := "told", desc := "(I)I" } : Jvm.MethodName) "SourcewrightModel") ∈ pz_nx := List.mem_of_getElem? (i := 21) rfl
theorem nx_3082 : (Jvm.Cond.fieldLinkNest "SourcewrightModel" (222 : Nat) "SourcewrightModel$Run" "end" "C" "SourcewrightModel") ∈ pz_nx := List.mem_of_getElem? (i := 22) rfl
theorem nx_3086 : (Jvm.Cond.fieldLinkNest "SourcewrightModel" (226 : Nat) "SourcewrightModel$Run" "out" "Ljava/util/ArrayList;" "SourcewrightModel") ∈ pz_nx := List.mem_of_getElem? (i := 23) rfl
theorem nx_3213 : (Jvm.Cond.castable "java/lang/Integer" "java/lang/Object") ∈ pz_nx := List.mem_of_getElem? (i := 24) rfl
theorem nx_3246 : (Jvm.Cond.declares ({ cls := "java/lang/Object", name := "getClass", desc := "()Ljava/lang/Class;" } : Jvm.MethodName)) ∈ pz_nx := List.mem_of_getElem? (i := 25) rfl
theorem nx_1286 : (Jvm.Cond.superclass "java/lang/Throwable" "java/lang/Object") ∈ pz_nx := List.mem_of_getElem? (i := 26) rfl
theorem nx_1338 : (Jvm.Cond.castable "java/lang/IllegalStateException" "java/lang/IllegalStateException") ∈ pz_nx := List.mem_of_getElem? (i := 27) rfl
theorem nx_1423 : (Jvm.Cond.castable "java/lang/UnsupportedOperationException" "java/lang/UnsupportedOperationException") ∈ pz_nx := List.mem_of_getElem? (i := 28) rfl
def pz_wk : Cond → Bool
  | .methodLinkNest .. | .fieldLinkNest .. | .castable .. | .declares _ | .publicMethod _ | .unhidden .. | .superclass .. => true
  | _ => false
theorem pz_sup {s : State} {vm' : Vm} (h : s.vm.Alike vm') (a b : String) (h0 : (Cond.superclass a b).before #[] s = true) : (Cond.superclass a b).before #[] (s.setVm vm') = true := by
  simp only [Cond.before, Cond.holds, Cond.value, State.vm_setVm, h.findClass] at h0 ⊢
  cases ha : s.vm.findClass a with
  | none => simp [ha] at h0
  | some c =>
    cases hb : s.vm.findClass b with
    | none => simp [ha, hb] at h0
    | some d =>
      simp only [ha, hb] at h0 ⊢
      cases hc : s.vm.classes[c]? with
      | none => simp [hc] at h0
      | some k =>
        cases hd : s.vm.classes[d]? with
        | none => simp [hc, hd] at h0
        | some k2 =>
          obtain ⟨k', h1, h2⟩ := h.2.2 _ _ hc
          obtain ⟨k2', h3, h4⟩ := h.2.2 _ _ hd
          simp only [hc, hd, Option.bind_some, Option.map_some] at h0
          simp only [h1, h3, Option.bind_some, Option.map_some]
          rw [h2, h4]
          exact h0
theorem pz_warm {w : Cond} (hk : pz_wk w = true) {s U : State} (hW : s.WarmedH U.vm) (h : va_Nw w s) : va_Nw w U := by
  have hv := hW.alike
  cases w <;> first | exact absurd (show false = true from hk) Bool.false_ne_true | exact va_Nw.warmM hW h | exact va_Nw.warmF hW h | exact va_Nw.warmC hW h | exact va_Nw.warmD hW h | exact va_tabs rfl (rfl : (s.setVm U.vm).vm = U.vm) (by rw [Cond.publicMethod_setVm hv]; exact h) | exact va_tabs rfl (rfl : (s.setVm U.vm).vm = U.vm) (by rw [Cond.unhidden_setVm hv]; exact h) | exact va_tabs rfl (rfl : (s.setVm U.vm).vm = U.vm) (pz_sup hv _ _ h)
theorem pz_nx_wk : pz_nx.all pz_wk = true := by decide +kernel
theorem pz_nx_warm (w : Cond) (hw : w ∈ pz_nx) {s U : State} (hW : s.WarmedH U.vm) (h : va_Nw w s) : va_Nw w U := pz_warm (List.all_eq_true.mp pz_nx_wk w hw) hW h
def pz_strs : List (String × Nat × String) := [("Sourcewright", 122, "no byte"), ("Sourcewright", 268, "no such byte"), ("Sourcewright", 286, "no such number"), ("Sourcewright", 320, "no bytes"), ("Sourcewright", 336, "no such function"), ("Sourcewright", 345, "no such number of steps")]
theorem str_Sourcewright_122 : (("Sourcewright", 122, "no byte") : String × Nat × String) ∈ pz_strs := List.mem_of_getElem? (i := 0) rfl
theorem str_Sourcewright_268 : (("Sourcewright", 268, "no such byte") : String × Nat × String) ∈ pz_strs := List.mem_of_getElem? (i := 1) rfl
theorem str_Sourcewright_286 : (("Sourcewright", 286, "no such number") : String × Nat × String) ∈ pz_strs := List.mem_of_getElem? (i := 2) rfl
theorem str_Sourcewright_320 : (("Sourcewright", 320, "no bytes") : String × Nat × String) ∈ pz_strs := List.mem_of_getElem? (i := 3) rfl
theorem str_Sourcewright_336 : (("Sourcewright", 336, "no such function") : String × Nat × String) ∈ pz_strs := List.mem_of_getElem? (i := 4) rfl
theorem str_Sourcewright_345 : (("Sourcewright", 345, "no such number of steps") : String × Nat × String) ∈ pz_strs := List.mem_of_getElem? (i := 5) rfl
def pz_ncs : List (String × String) := [("java/util/NoSuchElementException", "java/lang/UnsupportedOperationException")]
theorem ncs_NoSuchElementException_UnsupportedOperationException : (("java/util/NoSuchElementException", "java/lang/UnsupportedOperationException") : String × String) ∈ pz_ncs := List.mem_of_getElem? (i := 0) rfl
def pz_fws : List (String × MethodName × MethodName) := [("java/util/ArrayList", ({ cls := "java/util/Collection", name := "toArray", desc := "()[Ljava/lang/Object;" }), ({ cls := "java/util/ArrayList", name := "toArray", desc := "()[Ljava/lang/Object;" })), ("java/util/ArrayList$Itr", ({ cls := "java/util/Iterator", name := "hasNext", desc := "()Z" }), ({ cls := "java/util/ArrayList$Itr", name := "hasNext", desc := "()Z" })), ("java/util/ArrayList$Itr", ({ cls := "java/util/Iterator", name := "next", desc := "()Ljava/lang/Object;" }), ({ cls := "java/util/ArrayList$Itr", name := "next", desc := "()Ljava/lang/Object;" }))]
theorem fw_ArrayList_toArray : (("java/util/ArrayList", ({ cls := "java/util/Collection", name := "toArray", desc := "()[Ljava/lang/Object;" } : Jvm.MethodName), ({ cls := "java/util/ArrayList", name := "toArray", desc := "()[Ljava/lang/Object;" } : Jvm.MethodName)) : String × MethodName × MethodName) ∈ pz_fws := List.mem_of_getElem? (i := 0) rfl
theorem fw_ArrayList_Itr_hasNext : (("java/util/ArrayList$Itr", ({ cls := "java/util/Iterator", name := "hasNext", desc := "()Z" } : Jvm.MethodName), ({ cls := "java/util/ArrayList$Itr", name := "hasNext", desc := "()Z" } : Jvm.MethodName)) : String × MethodName × MethodName) ∈ pz_fws := List.mem_of_getElem? (i := 1) rfl
theorem fw_ArrayList_Itr_next : (("java/util/ArrayList$Itr", ({ cls := "java/util/Iterator", name := "next", desc := "()Ljava/lang/Object;" } : Jvm.MethodName), ({ cls := "java/util/ArrayList$Itr", name := "next", desc := "()Ljava/lang/Object;" } : Jvm.MethodName)) : String × MethodName × MethodName) ∈ pz_fws := List.mem_of_getElem? (i := 2) rfl
theorem pz_fws_ok : ∀ q ∈ pz_fws, q.2.1.cls ≠ "java/lang/invoke/MethodHandle" ∧ q.2.1.cls ≠ "java/lang/invoke/VarHandle" := by decide +kernel
def pz_fP : Nat → Value := fun k => .int (([0, 1, 2, 3, 4, 5, 6, 7, 13, 9, 10, 11, 12, 13, 13, 13] : List Int32).getD k 0)
def pz_fB : Nat → Value := fun k => .int (([8, 14, 14, 14, 14, 15, 16, 13, 17, 17, 17, 17, 13, 13, 13, 13] : List Int32).getD k 0)
def pz_fS : Nat → Value := fun k => .int (([1, 2, 1, 1, 1, 1, 1, 1, 2, 1, 1, 2, 2, 1, 2, 2, 1, 3, 0] : List Int32).getD k 0)
theorem pz_atL {L : List Cond} (h : L.all (fun w => (goodWord w && decide (w ∈ tables_1)) || decide (w ∈ pz_nx)) = true) : ∀ w ∈ L, w ∈ lw_good ∨ w ∈ pz_nx := fun w hw => by
  have h1 := List.all_eq_true.mp h w hw
  simp only [Bool.or_eq_true, Bool.and_eq_true, decide_eq_true_eq] at h1
  rcases h1 with h1 | h1
  · exact Or.inl (pz_in h1.2 h1.1)
  · exact Or.inr h1
theorem pz_at_Sourcewright_124 : ∀ w ∈ vx_atS "Sourcewright" 124 "java/lang/IllegalArgumentException" ["java/lang/RuntimeException", "java/lang/Exception"], w ∈ lw_good ∨ w ∈ pz_nx := pz_atL (by decide +kernel)
theorem pz_hg_Sourcewright_124 : ∀ w ∈ Cond.classLink "Sourcewright" 1264 "java/lang/IllegalArgumentException" :: Cond.initialized "java/lang/IllegalArgumentException" :: vx_atS "Sourcewright" 124 "java/lang/IllegalArgumentException" ["java/lang/RuntimeException", "java/lang/Exception"], vx_ot w = true := List.all_eq_true.mp (by decide +kernel)
theorem pz_at_Sourcewright_195 : ∀ w ∈ vx_atS "Sourcewright" 195 "java/util/NoSuchElementException" ["java/lang/RuntimeException", "java/lang/Exception"], w ∈ lw_good ∨ w ∈ pz_nx := pz_atL (by decide +kernel)
theorem pz_hg_Sourcewright_195 : ∀ w ∈ Cond.classLink "Sourcewright" 1486 "java/util/NoSuchElementException" :: Cond.initialized "java/util/NoSuchElementException" :: vx_atS "Sourcewright" 195 "java/util/NoSuchElementException" ["java/lang/RuntimeException", "java/lang/Exception"], vx_ot w = true := List.all_eq_true.mp (by decide +kernel)
theorem pz_at_Sourcewright_322 : ∀ w ∈ vx_atS "Sourcewright" 322 "java/lang/ArithmeticException" ["java/lang/RuntimeException", "java/lang/Exception"], w ∈ lw_good ∨ w ∈ pz_nx := pz_atL (by decide +kernel)
theorem pz_hg_Sourcewright_322 : ∀ w ∈ Cond.classLink "Sourcewright" 1768 "java/lang/ArithmeticException" :: Cond.initialized "java/lang/ArithmeticException" :: vx_atS "Sourcewright" 322 "java/lang/ArithmeticException" ["java/lang/RuntimeException", "java/lang/Exception"], vx_ot w = true := List.all_eq_true.mp (by decide +kernel)
theorem pz_at_Sourcewright_332 : ∀ w ∈ vx_atS "Sourcewright" 332 "java/lang/IndexOutOfBoundsException" ["java/lang/RuntimeException", "java/lang/Exception"], w ∈ lw_good ∨ w ∈ pz_nx := pz_atL (by decide +kernel)
theorem pz_hg_Sourcewright_332 : ∀ w ∈ Cond.classLink "Sourcewright" 1388 "java/lang/IndexOutOfBoundsException" :: Cond.initialized "java/lang/IndexOutOfBoundsException" :: vx_atS "Sourcewright" 332 "java/lang/IndexOutOfBoundsException" ["java/lang/RuntimeException", "java/lang/Exception"], vx_ot w = true := List.all_eq_true.mp (by decide +kernel)
