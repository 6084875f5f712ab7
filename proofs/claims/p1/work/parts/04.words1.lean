/-! the words -/
def lw_good : List Cond := lw_tbl.filter goodWord
theorem pz_in {w : Cond} (h : w ∈ tables_1) (g : goodWord w = true) : w ∈ lw_good := List.mem_filter.mpr ⟨List.mem_append_right _ h, g⟩
theorem pz_inS {w : Cond} (h : w ∈ k2_sels lw_privs) (g : goodWord w = true) : w ∈ lw_good := List.mem_filter.mpr ⟨List.mem_append_left _ h, g⟩
theorem wq_0 : (Jvm.Cond.initialized "SourcewrightLaw") ∈ lw_good := pz_in (List.mem_of_getElem? (i := 0) (by decide +kernel)) rfl
theorem wq_1 : (Jvm.Cond.initialized "Sourcewright") ∈ lw_good := pz_in (List.mem_of_getElem? (i := 1) (by decide +kernel)) rfl
theorem wq_2 : (Jvm.Cond.initialized "Sourcewright$Code") ∈ lw_good := pz_in (List.mem_of_getElem? (i := 2) (by decide +kernel)) rfl
theorem wq_3 : (Jvm.Cond.initialized "Sourcewright$Reading") ∈ lw_good := pz_in (List.mem_of_getElem? (i := 3) (by decide +kernel)) rfl
theorem wq_4 : (Jvm.Cond.initialized "Sourcewright$Sets") ∈ lw_good := pz_in (List.mem_of_getElem? (i := 4) (by decide +kernel)) rfl
theorem wq_5 : (Jvm.Cond.initialized "Sourcewright$Blocks") ∈ lw_good := pz_in (List.mem_of_getElem? (i := 5) (by decide +kernel)) rfl
theorem wq_6 : (Jvm.Cond.initialized "Sourcewright$Ways") ∈ lw_good := pz_in (List.mem_of_getElem? (i := 6) (by decide +kernel)) rfl
theorem wq_7 : (Jvm.Cond.initialized "Sourcewright$Life") ∈ lw_good := pz_in (List.mem_of_getElem? (i := 7) (by decide +kernel)) rfl
theorem wq_8 : (Jvm.Cond.initialized "Sourcewright$Scribe") ∈ lw_good := pz_in (List.mem_of_getElem? (i := 8) (by decide +kernel)) rfl
theorem wq_9 : (Jvm.Cond.initialized "Sourcewright$Tour") ∈ lw_good := pz_in (List.mem_of_getElem? (i := 9) (by decide +kernel)) rfl
theorem wq_10 : (Jvm.Cond.initialized "Sourcewright$Builder") ∈ lw_good := pz_in (List.mem_of_getElem? (i := 10) (by decide +kernel)) rfl
theorem wq_11 : (Jvm.Cond.initialized "Sourcewright$Shelf") ∈ lw_good := pz_in (List.mem_of_getElem? (i := 11) (by decide +kernel)) rfl
theorem wq_12 : (Jvm.Cond.initialized "Sourcewright$Machine") ∈ lw_good := pz_in (List.mem_of_getElem? (i := 12) (by decide +kernel)) rfl
theorem wq_13 : (Jvm.Cond.initialized "SourcewrightModel") ∈ lw_good := pz_in (List.mem_of_getElem? (i := 13) (by decide +kernel)) rfl
theorem wq_14 : (Jvm.Cond.initialized "java/util/AbstractCollection") ∈ lw_good := pz_in (List.mem_of_getElem? (i := 14) (by decide +kernel)) rfl
theorem wq_15 : (Jvm.Cond.initialized "java/util/AbstractList") ∈ lw_good := pz_in (List.mem_of_getElem? (i := 15) (by decide +kernel)) rfl
theorem wq_16 : (Jvm.Cond.initialized "java/util/ArrayList") ∈ lw_good := pz_in (List.mem_of_getElem? (i := 16) (by decide +kernel)) rfl
theorem wq_20 : (Jvm.Cond.initialized "java/lang/IllegalArgumentException") ∈ lw_good := pz_in (List.mem_of_getElem? (i := 20) (by decide +kernel)) rfl
theorem wq_22 : (Jvm.Cond.initialized "java/lang/Math") ∈ lw_good := pz_in (List.mem_of_getElem? (i := 22) (by decide +kernel)) rfl
theorem wq_23 : (Jvm.Cond.initialized "java/lang/Number") ∈ lw_good := pz_in (List.mem_of_getElem? (i := 23) (by decide +kernel)) rfl
theorem wq_24 : (Jvm.Cond.initialized "java/lang/Integer") ∈ lw_good := pz_in (List.mem_of_getElem? (i := 24) (by decide +kernel)) rfl
theorem wq_27 : (Jvm.Cond.initialized "java/util/Arrays") ∈ lw_good := pz_in (List.mem_of_getElem? (i := 27) (by decide +kernel)) rfl
theorem wq_28 : (Jvm.Cond.initialized "java/lang/System") ∈ lw_good := pz_in (List.mem_of_getElem? (i := 28) (by decide +kernel)) rfl
theorem wq_29 : (Jvm.Cond.initialized "java/lang/IndexOutOfBoundsException") ∈ lw_good := pz_in (List.mem_of_getElem? (i := 29) (by decide +kernel)) rfl
theorem wq_32 : (Jvm.Cond.initialized "java/util/Objects") ∈ lw_good := pz_in (List.mem_of_getElem? (i := 32) (by decide +kernel)) rfl
theorem wq_33 : (Jvm.Cond.initialized "jdk/internal/util/Preconditions") ∈ lw_good := pz_in (List.mem_of_getElem? (i := 33) (by decide +kernel)) rfl
theorem wq_36 : (Jvm.Cond.initialized "SourcewrightModel$Reading") ∈ lw_good := pz_in (List.mem_of_getElem? (i := 36) (by decide +kernel)) rfl
theorem wq_37 : (Jvm.Cond.initialized "java/util/ArrayList$Itr") ∈ lw_good := pz_in (List.mem_of_getElem? (i := 37) (by decide +kernel)) rfl
theorem wq_38 : (Jvm.Cond.initialized "java/util/NoSuchElementException") ∈ lw_good := pz_in (List.mem_of_getElem? (i := 38) (by decide +kernel)) rfl
theorem wq_44 : (Jvm.Cond.initialized "SourcewrightModel$Writer") ∈ lw_good := pz_in (List.mem_of_getElem? (i := 44) (by decide +kernel)) rfl
theorem wq_45 : (Jvm.Cond.initialized "SourcewrightModel$Run") ∈ lw_good := pz_in (List.mem_of_getElem? (i := 45) (by decide +kernel)) rfl
theorem wq_47 : (Jvm.Cond.initialized "java/lang/ArithmeticException") ∈ lw_good := pz_in (List.mem_of_getElem? (i := 47) (by decide +kernel)) rfl
theorem wq_53 : (Jvm.Cond.methodLink "Sourcewright" (1 : Nat) ({ cls := "java/lang/Object", name := "<init>", desc := "()V" } : Jvm.MethodName)) ∈ lw_good := pz_in (List.mem_of_getElem? (i := 53) (by decide +kernel)) rfl
theorem wq_54 : (Jvm.Cond.instanceMethod ({ cls := "java/lang/Object", name := "<init>", desc := "()V" } : Jvm.MethodName)) ∈ lw_good := pz_in (List.mem_of_getElem? (i := 54) (by decide +kernel)) rfl
theorem wq_55 : (Jvm.Cond.code ({ cls := "java/lang/Object", name := "<init>", desc := "()V" } : Jvm.MethodName) object_method_1_code (1 : Nat) (Option.none : Option Jvm.ClassFile.FieldType)) ∈ lw_good := pz_in (List.mem_of_getElem? (i := 55) (by decide +kernel)) rfl
theorem wq_56 : (Jvm.Cond.classLink "Sourcewright" (7 : Nat) "Sourcewright$Code") ∈ lw_good := pz_in (List.mem_of_getElem? (i := 56) (by decide +kernel)) rfl
theorem wq_57 : (Jvm.Cond.instantiable "Sourcewright$Code" (3 : Nat)) ∈ lw_good := pz_in (List.mem_of_getElem? (i := 57) (by decide +kernel)) rfl
theorem wq_59 : (Jvm.Cond.instanceMethod ({ cls := "Sourcewright$Code", name := "<init>", desc := "()V" } : Jvm.MethodName)) ∈ lw_good := pz_in (List.mem_of_getElem? (i := 59) (by decide +kernel)) rfl
theorem wq_60 : (Jvm.Cond.code ({ cls := "Sourcewright$Code", name := "<init>", desc := "()V" } : Jvm.MethodName) prog_4_method_1_code (1 : Nat) (Option.none : Option Jvm.ClassFile.FieldType)) ∈ lw_good := pz_in (List.mem_of_getElem? (i := 60) (by decide +kernel)) rfl
theorem wq_61 : (Jvm.Cond.methodLink "Sourcewright$Code" (3 : Nat) ({ cls := "java/lang/Object", name := "<init>", desc := "()V" } : Jvm.MethodName)) ∈ lw_good := pz_in (List.mem_of_getElem? (i := 61) (by decide +kernel)) rfl
theorem wq_62 : (Jvm.Cond.fieldLink "Sourcewright$Code" (9 : Nat) "Sourcewright$Code" "row" "[I") ∈ lw_good := pz_in (List.mem_of_getElem? (i := 62) (by decide +kernel)) rfl
theorem wq_63 : (Jvm.Cond.fieldLink "Sourcewright$Code" (15 : Nat) "Sourcewright$Code" "ops" "[I") ∈ lw_good := pz_in (List.mem_of_getElem? (i := 63) (by decide +kernel)) rfl
theorem wq_64 : (Jvm.Cond.fieldLink "Sourcewright$Code" (18 : Nat) "Sourcewright$Code" "count" "I") ∈ lw_good := pz_in (List.mem_of_getElem? (i := 64) (by decide +kernel)) rfl
theorem wq_65 : (Jvm.Cond.laysFinal "Sourcewright$Code" "Sourcewright$Code" "row" "[I") ∈ lw_good := pz_in (List.mem_of_getElem? (i := 65) (by decide +kernel)) rfl
theorem wq_67 : (Jvm.Cond.laysFinal "Sourcewright$Code" "Sourcewright$Code" "ops" "[I") ∈ lw_good := pz_in (List.mem_of_getElem? (i := 67) (by decide +kernel)) rfl
theorem wq_69 : (Jvm.Cond.lays "Sourcewright$Code" "Sourcewright$Code" "count" "I") ∈ lw_good := pz_in (List.mem_of_getElem? (i := 69) (by decide +kernel)) rfl
theorem wq_72 : (Jvm.Cond.arrayClass Jvm.ClassFile.FieldType.int) ∈ lw_good := pz_in (List.mem_of_getElem? (i := 72) (by decide +kernel)) rfl
theorem wq_73 : (Jvm.Cond.classLink "Sourcewright" (34 : Nat) "Sourcewright$Reading") ∈ lw_good := pz_in (List.mem_of_getElem? (i := 73) (by decide +kernel)) rfl
theorem wq_74 : (Jvm.Cond.instantiable "Sourcewright$Reading" (10 : Nat)) ∈ lw_good := pz_in (List.mem_of_getElem? (i := 74) (by decide +kernel)) rfl
theorem wq_75 : (Jvm.Cond.methodLink "Sourcewright" (36 : Nat) ({ cls := "Sourcewright$Reading", name := "<init>", desc := "(LSourcewright$Code;)V" } : Jvm.MethodName)) ∈ lw_good := pz_in (List.mem_of_getElem? (i := 75) (by decide +kernel)) rfl
theorem wq_76 : (Jvm.Cond.instanceMethod ({ cls := "Sourcewright$Reading", name := "<init>", desc := "(LSourcewright$Code;)V" } : Jvm.MethodName)) ∈ lw_good := pz_in (List.mem_of_getElem? (i := 76) (by decide +kernel)) rfl
theorem wq_77 : (Jvm.Cond.code ({ cls := "Sourcewright$Reading", name := "<init>", desc := "(LSourcewright$Code;)V" } : Jvm.MethodName) prog_7_method_1_code (2 : Nat) (Option.none : Option Jvm.ClassFile.FieldType)) ∈ lw_good := pz_in (List.mem_of_getElem? (i := 77) (by decide +kernel)) rfl
theorem wq_78 : (Jvm.Cond.methodLink "Sourcewright$Reading" (3 : Nat) ({ cls := "java/lang/Object", name := "<init>", desc := "()V" } : Jvm.MethodName)) ∈ lw_good := pz_in (List.mem_of_getElem? (i := 78) (by decide +kernel)) rfl
theorem wq_79 : (Jvm.Cond.classLink "Sourcewright$Reading" (9 : Nat) "Sourcewright$Sets") ∈ lw_good := pz_in (List.mem_of_getElem? (i := 79) (by decide +kernel)) rfl
theorem wq_80 : (Jvm.Cond.instantiable "Sourcewright$Sets" (2 : Nat)) ∈ lw_good := pz_in (List.mem_of_getElem? (i := 80) (by decide +kernel)) rfl
theorem wq_82 : (Jvm.Cond.instanceMethod ({ cls := "Sourcewright$Sets", name := "<init>", desc := "()V" } : Jvm.MethodName)) ∈ lw_good := pz_in (List.mem_of_getElem? (i := 82) (by decide +kernel)) rfl
theorem wq_83 : (Jvm.Cond.code ({ cls := "Sourcewright$Sets", name := "<init>", desc := "()V" } : Jvm.MethodName) prog_9_method_1_code (1 : Nat) (Option.none : Option Jvm.ClassFile.FieldType)) ∈ lw_good := pz_in (List.mem_of_getElem? (i := 83) (by decide +kernel)) rfl
theorem wq_84 : (Jvm.Cond.methodLink "Sourcewright$Sets" (3 : Nat) ({ cls := "java/lang/Object", name := "<init>", desc := "()V" } : Jvm.MethodName)) ∈ lw_good := pz_in (List.mem_of_getElem? (i := 84) (by decide +kernel)) rfl
theorem wq_85 : (Jvm.Cond.fieldLink "Sourcewright$Sets" (9 : Nat) "Sourcewright$Sets" "low" "[J") ∈ lw_good := pz_in (List.mem_of_getElem? (i := 85) (by decide +kernel)) rfl
theorem wq_86 : (Jvm.Cond.fieldLink "Sourcewright$Sets" (15 : Nat) "Sourcewright$Sets" "high" "[J") ∈ lw_good := pz_in (List.mem_of_getElem? (i := 86) (by decide +kernel)) rfl
theorem wq_87 : (Jvm.Cond.laysFinal "Sourcewright$Sets" "Sourcewright$Sets" "low" "[J") ∈ lw_good := pz_in (List.mem_of_getElem? (i := 87) (by decide +kernel)) rfl
theorem wq_89 : (Jvm.Cond.laysFinal "Sourcewright$Sets" "Sourcewright$Sets" "high" "[J") ∈ lw_good := pz_in (List.mem_of_getElem? (i := 89) (by decide +kernel)) rfl
theorem wq_92 : (Jvm.Cond.arrayClass Jvm.ClassFile.FieldType.long) ∈ lw_good := pz_in (List.mem_of_getElem? (i := 92) (by decide +kernel)) rfl
theorem wq_93 : (Jvm.Cond.fieldLink "Sourcewright$Reading" (45 : Nat) "Sourcewright$Reading" "code" "LSourcewright$Code;") ∈ lw_good := pz_in (List.mem_of_getElem? (i := 93) (by decide +kernel)) rfl
theorem wq_94 : (Jvm.Cond.fieldLink "Sourcewright$Reading" (12 : Nat) "Sourcewright$Reading" "walked" "LSourcewright$Sets;") ∈ lw_good := pz_in (List.mem_of_getElem? (i := 94) (by decide +kernel)) rfl
theorem wq_95 : (Jvm.Cond.fieldLink "Sourcewright$Reading" (18 : Nat) "Sourcewright$Reading" "returns" "[Z") ∈ lw_good := pz_in (List.mem_of_getElem? (i := 95) (by decide +kernel)) rfl
theorem wq_96 : (Jvm.Cond.fieldLink "Sourcewright$Reading" (22 : Nat) "Sourcewright$Reading" "isEntry" "[Z") ∈ lw_good := pz_in (List.mem_of_getElem? (i := 96) (by decide +kernel)) rfl
theorem wq_97 : (Jvm.Cond.fieldLink "Sourcewright$Reading" (25 : Nat) "Sourcewright$Reading" "marks" "[I") ∈ lw_good := pz_in (List.mem_of_getElem? (i := 97) (by decide +kernel)) rfl
theorem wq_98 : (Jvm.Cond.fieldLink "Sourcewright$Reading" (29 : Nat) "Sourcewright$Reading" "entries" "[I") ∈ lw_good := pz_in (List.mem_of_getElem? (i := 98) (by decide +kernel)) rfl
theorem wq_99 : (Jvm.Cond.fieldLink "Sourcewright$Reading" (32 : Nat) "Sourcewright$Reading" "stack" "[I") ∈ lw_good := pz_in (List.mem_of_getElem? (i := 99) (by decide +kernel)) rfl
theorem wq_100 : (Jvm.Cond.fieldLink "Sourcewright$Reading" (35 : Nat) "Sourcewright$Reading" "stackCount" "I") ∈ lw_good := pz_in (List.mem_of_getElem? (i := 100) (by decide +kernel)) rfl
theorem wq_101 : (Jvm.Cond.fieldLink "Sourcewright$Reading" (39 : Nat) "Sourcewright$Reading" "length" "I") ∈ lw_good := pz_in (List.mem_of_getElem? (i := 101) (by decide +kernel)) rfl
theorem wq_102 : (Jvm.Cond.fieldLink "Sourcewright$Reading" (42 : Nat) "Sourcewright$Reading" "count" "I") ∈ lw_good := pz_in (List.mem_of_getElem? (i := 102) (by decide +kernel)) rfl
theorem wq_103 : (Jvm.Cond.laysFinal "Sourcewright$Reading" "Sourcewright$Reading" "code" "LSourcewright$Code;") ∈ lw_good := pz_in (List.mem_of_getElem? (i := 103) (by decide +kernel)) rfl
theorem wq_105 : (Jvm.Cond.laysFinal "Sourcewright$Reading" "Sourcewright$Reading" "walked" "LSourcewright$Sets;") ∈ lw_good := pz_in (List.mem_of_getElem? (i := 105) (by decide +kernel)) rfl
theorem wq_107 : (Jvm.Cond.laysFinal "Sourcewright$Reading" "Sourcewright$Reading" "returns" "[Z") ∈ lw_good := pz_in (List.mem_of_getElem? (i := 107) (by decide +kernel)) rfl
theorem wq_109 : (Jvm.Cond.laysFinal "Sourcewright$Reading" "Sourcewright$Reading" "isEntry" "[Z") ∈ lw_good := pz_in (List.mem_of_getElem? (i := 109) (by decide +kernel)) rfl
theorem wq_111 : (Jvm.Cond.laysFinal "Sourcewright$Reading" "Sourcewright$Reading" "marks" "[I") ∈ lw_good := pz_in (List.mem_of_getElem? (i := 111) (by decide +kernel)) rfl
theorem wq_113 : (Jvm.Cond.laysFinal "Sourcewright$Reading" "Sourcewright$Reading" "entries" "[I") ∈ lw_good := pz_in (List.mem_of_getElem? (i := 113) (by decide +kernel)) rfl
theorem wq_115 : (Jvm.Cond.laysFinal "Sourcewright$Reading" "Sourcewright$Reading" "stack" "[I") ∈ lw_good := pz_in (List.mem_of_getElem? (i := 115) (by decide +kernel)) rfl
theorem wq_117 : (Jvm.Cond.lays "Sourcewright$Reading" "Sourcewright$Reading" "stackCount" "I") ∈ lw_good := pz_in (List.mem_of_getElem? (i := 117) (by decide +kernel)) rfl
theorem wq_119 : (Jvm.Cond.lays "Sourcewright$Reading" "Sourcewright$Reading" "length" "I") ∈ lw_good := pz_in (List.mem_of_getElem? (i := 119) (by decide +kernel)) rfl
theorem wq_121 : (Jvm.Cond.lays "Sourcewright$Reading" "Sourcewright$Reading" "count" "I") ∈ lw_good := pz_in (List.mem_of_getElem? (i := 121) (by decide +kernel)) rfl
theorem wq_124 : (Jvm.Cond.arrayClass Jvm.ClassFile.FieldType.boolean) ∈ lw_good := pz_in (List.mem_of_getElem? (i := 124) (by decide +kernel)) rfl
theorem wq_125 : (Jvm.Cond.classLink "Sourcewright" (43 : Nat) "Sourcewright$Blocks") ∈ lw_good := pz_in (List.mem_of_getElem? (i := 125) (by decide +kernel)) rfl
theorem wq_126 : (Jvm.Cond.instantiable "Sourcewright$Blocks" (15 : Nat)) ∈ lw_good := pz_in (List.mem_of_getElem? (i := 126) (by decide +kernel)) rfl
theorem wq_127 : (Jvm.Cond.methodLink "Sourcewright" (45 : Nat) ({ cls := "Sourcewright$Blocks", name := "<init>", desc := "(LSourcewright$Code;LSourcewright$Reading;)V" } : Jvm.MethodName)) ∈ lw_good := pz_in (List.mem_of_getElem? (i := 127) (by decide +kernel)) rfl
theorem wq_128 : (Jvm.Cond.instanceMethod ({ cls := "Sourcewright$Blocks", name := "<init>", desc := "(LSourcewright$Code;LSourcewright$Reading;)V" } : Jvm.MethodName)) ∈ lw_good := pz_in (List.mem_of_getElem? (i := 128) (by decide +kernel)) rfl
theorem wq_129 : (Jvm.Cond.code ({ cls := "Sourcewright$Blocks", name := "<init>", desc := "(LSourcewright$Code;LSourcewright$Reading;)V" } : Jvm.MethodName) prog_2_method_1_code (3 : Nat) (Option.none : Option Jvm.ClassFile.FieldType)) ∈ lw_good := pz_in (List.mem_of_getElem? (i := 129) (by decide +kernel)) rfl
theorem wq_130 : (Jvm.Cond.methodLink "Sourcewright$Blocks" (3 : Nat) ({ cls := "java/lang/Object", name := "<init>", desc := "()V" } : Jvm.MethodName)) ∈ lw_good := pz_in (List.mem_of_getElem? (i := 130) (by decide +kernel)) rfl
theorem wq_131 : (Jvm.Cond.fieldLink "Sourcewright$Blocks" (53 : Nat) "Sourcewright$Blocks" "code" "LSourcewright$Code;") ∈ lw_good := pz_in (List.mem_of_getElem? (i := 131) (by decide +kernel)) rfl
theorem wq_132 : (Jvm.Cond.fieldLink "Sourcewright$Blocks" (57 : Nat) "Sourcewright$Blocks" "reading" "LSourcewright$Reading;") ∈ lw_good := pz_in (List.mem_of_getElem? (i := 132) (by decide +kernel)) rfl
theorem wq_133 : (Jvm.Cond.fieldLink "Sourcewright$Blocks" (9 : Nat) "Sourcewright$Blocks" "isFirst" "[Z") ∈ lw_good := pz_in (List.mem_of_getElem? (i := 133) (by decide +kernel)) rfl
theorem wq_134 : (Jvm.Cond.fieldLink "Sourcewright$Blocks" (15 : Nat) "Sourcewright$Blocks" "isWalkedTo" "[Z") ∈ lw_good := pz_in (List.mem_of_getElem? (i := 134) (by decide +kernel)) rfl
theorem wq_135 : (Jvm.Cond.fieldLink "Sourcewright$Blocks" (18 : Nat) "Sourcewright$Blocks" "blockAt" "[I") ∈ lw_good := pz_in (List.mem_of_getElem? (i := 135) (by decide +kernel)) rfl
theorem wq_136 : (Jvm.Cond.fieldLink "Sourcewright$Blocks" (22 : Nat) "Sourcewright$Blocks" "firsts" "[I") ∈ lw_good := pz_in (List.mem_of_getElem? (i := 136) (by decide +kernel)) rfl
theorem wq_137 : (Jvm.Cond.fieldLink "Sourcewright$Blocks" (25 : Nat) "Sourcewright$Blocks" "lasts" "[I") ∈ lw_good := pz_in (List.mem_of_getElem? (i := 137) (by decide +kernel)) rfl
theorem wq_138 : (Jvm.Cond.fieldLink "Sourcewright$Blocks" (28 : Nat) "Sourcewright$Blocks" "many" "[I") ∈ lw_good := pz_in (List.mem_of_getElem? (i := 138) (by decide +kernel)) rfl
theorem wq_139 : (Jvm.Cond.fieldLink "Sourcewright$Blocks" (31 : Nat) "Sourcewright$Blocks" "stepCounts" "[I") ∈ lw_good := pz_in (List.mem_of_getElem? (i := 139) (by decide +kernel)) rfl
theorem wq_140 : (Jvm.Cond.fieldLink "Sourcewright$Blocks" (34 : Nat) "Sourcewright$Blocks" "goes" "[I") ∈ lw_good := pz_in (List.mem_of_getElem? (i := 140) (by decide +kernel)) rfl
theorem wq_141 : (Jvm.Cond.fieldLink "Sourcewright$Blocks" (37 : Nat) "Sourcewright$Blocks" "passes" "[I") ∈ lw_good := pz_in (List.mem_of_getElem? (i := 141) (by decide +kernel)) rfl
theorem wq_142 : (Jvm.Cond.fieldLink "Sourcewright$Blocks" (40 : Nat) "Sourcewright$Blocks" "tables" "[I") ∈ lw_good := pz_in (List.mem_of_getElem? (i := 142) (by decide +kernel)) rfl
theorem wq_143 : (Jvm.Cond.fieldLink "Sourcewright$Blocks" (43 : Nat) "Sourcewright$Blocks" "length" "I") ∈ lw_good := pz_in (List.mem_of_getElem? (i := 143) (by decide +kernel)) rfl
theorem wq_144 : (Jvm.Cond.fieldLink "Sourcewright$Blocks" (47 : Nat) "Sourcewright$Blocks" "count" "I") ∈ lw_good := pz_in (List.mem_of_getElem? (i := 144) (by decide +kernel)) rfl
theorem wq_145 : (Jvm.Cond.fieldLink "Sourcewright$Blocks" (50 : Nat) "Sourcewright$Blocks" "entryBlock" "I") ∈ lw_good := pz_in (List.mem_of_getElem? (i := 145) (by decide +kernel)) rfl
theorem wq_146 : (Jvm.Cond.laysFinal "Sourcewright$Blocks" "Sourcewright$Blocks" "code" "LSourcewright$Code;") ∈ lw_good := pz_in (List.mem_of_getElem? (i := 146) (by decide +kernel)) rfl
theorem wq_148 : (Jvm.Cond.laysFinal "Sourcewright$Blocks" "Sourcewright$Blocks" "reading" "LSourcewright$Reading;") ∈ lw_good := pz_in (List.mem_of_getElem? (i := 148) (by decide +kernel)) rfl
theorem wq_150 : (Jvm.Cond.laysFinal "Sourcewright$Blocks" "Sourcewright$Blocks" "isFirst" "[Z") ∈ lw_good := pz_in (List.mem_of_getElem? (i := 150) (by decide +kernel)) rfl
theorem wq_152 : (Jvm.Cond.laysFinal "Sourcewright$Blocks" "Sourcewright$Blocks" "isWalkedTo" "[Z") ∈ lw_good := pz_in (List.mem_of_getElem? (i := 152) (by decide +kernel)) rfl
theorem wq_154 : (Jvm.Cond.laysFinal "Sourcewright$Blocks" "Sourcewright$Blocks" "blockAt" "[I") ∈ lw_good := pz_in (List.mem_of_getElem? (i := 154) (by decide +kernel)) rfl
theorem wq_156 : (Jvm.Cond.laysFinal "Sourcewright$Blocks" "Sourcewright$Blocks" "firsts" "[I") ∈ lw_good := pz_in (List.mem_of_getElem? (i := 156) (by decide +kernel)) rfl
theorem wq_158 : (Jvm.Cond.laysFinal "Sourcewright$Blocks" "Sourcewright$Blocks" "lasts" "[I") ∈ lw_good := pz_in (List.mem_of_getElem? (i := 158) (by decide +kernel)) rfl
theorem wq_160 : (Jvm.Cond.laysFinal "Sourcewright$Blocks" "Sourcewright$Blocks" "many" "[I") ∈ lw_good := pz_in (List.mem_of_getElem? (i := 160) (by decide +kernel)) rfl
theorem wq_162 : (Jvm.Cond.laysFinal "Sourcewright$Blocks" "Sourcewright$Blocks" "stepCounts" "[I") ∈ lw_good := pz_in (List.mem_of_getElem? (i := 162) (by decide +kernel)) rfl
theorem wq_164 : (Jvm.Cond.laysFinal "Sourcewright$Blocks" "Sourcewright$Blocks" "goes" "[I") ∈ lw_good := pz_in (List.mem_of_getElem? (i := 164) (by decide +kernel)) rfl
theorem wq_166 : (Jvm.Cond.laysFinal "Sourcewright$Blocks" "Sourcewright$Blocks" "passes" "[I") ∈ lw_good := pz_in (List.mem_of_getElem? (i := 166) (by decide +kernel)) rfl
theorem wq_168 : (Jvm.Cond.laysFinal "Sourcewright$Blocks" "Sourcewright$Blocks" "tables" "[I") ∈ lw_good := pz_in (List.mem_of_getElem? (i := 168) (by decide +kernel)) rfl
theorem wq_170 : (Jvm.Cond.lays "Sourcewright$Blocks" "Sourcewright$Blocks" "length" "I") ∈ lw_good := pz_in (List.mem_of_getElem? (i := 170) (by decide +kernel)) rfl
theorem wq_172 : (Jvm.Cond.lays "Sourcewright$Blocks" "Sourcewright$Blocks" "count" "I") ∈ lw_good := pz_in (List.mem_of_getElem? (i := 172) (by decide +kernel)) rfl
theorem wq_174 : (Jvm.Cond.lays "Sourcewright$Blocks" "Sourcewright$Blocks" "entryBlock" "I") ∈ lw_good := pz_in (List.mem_of_getElem? (i := 174) (by decide +kernel)) rfl
theorem wq_177 : (Jvm.Cond.classLink "Sourcewright" (52 : Nat) "Sourcewright$Ways") ∈ lw_good := pz_in (List.mem_of_getElem? (i := 177) (by decide +kernel)) rfl
theorem wq_178 : (Jvm.Cond.instantiable "Sourcewright$Ways" (16 : Nat)) ∈ lw_good := pz_in (List.mem_of_getElem? (i := 178) (by decide +kernel)) rfl
theorem wq_179 : (Jvm.Cond.methodLink "Sourcewright" (54 : Nat) ({ cls := "Sourcewright$Ways", name := "<init>", desc := "(LSourcewright$Blocks;)V" } : Jvm.MethodName)) ∈ lw_good := pz_in (List.mem_of_getElem? (i := 179) (by decide +kernel)) rfl
theorem wq_180 : (Jvm.Cond.instanceMethod ({ cls := "Sourcewright$Ways", name := "<init>", desc := "(LSourcewright$Blocks;)V" } : Jvm.MethodName)) ∈ lw_good := pz_in (List.mem_of_getElem? (i := 180) (by decide +kernel)) rfl
theorem wq_181 : (Jvm.Cond.code ({ cls := "Sourcewright$Ways", name := "<init>", desc := "(LSourcewright$Blocks;)V" } : Jvm.MethodName) prog_12_method_1_code (2 : Nat) (Option.none : Option Jvm.ClassFile.FieldType)) ∈ lw_good := pz_in (List.mem_of_getElem? (i := 181) (by decide +kernel)) rfl
theorem wq_182 : (Jvm.Cond.methodLink "Sourcewright$Ways" (3 : Nat) ({ cls := "java/lang/Object", name := "<init>", desc := "()V" } : Jvm.MethodName)) ∈ lw_good := pz_in (List.mem_of_getElem? (i := 182) (by decide +kernel)) rfl
theorem wq_183 : (Jvm.Cond.classLink "Sourcewright$Ways" (9 : Nat) "Sourcewright$Sets") ∈ lw_good := pz_in (List.mem_of_getElem? (i := 183) (by decide +kernel)) rfl
theorem wq_185 : (Jvm.Cond.fieldLink "Sourcewright$Ways" (63 : Nat) "Sourcewright$Ways" "blocks" "LSourcewright$Blocks;") ∈ lw_good := pz_in (List.mem_of_getElem? (i := 185) (by decide +kernel)) rfl
theorem wq_186 : (Jvm.Cond.fieldLink "Sourcewright$Ways" (12 : Nat) "Sourcewright$Ways" "ahead" "LSourcewright$Sets;") ∈ lw_good := pz_in (List.mem_of_getElem? (i := 186) (by decide +kernel)) rfl
theorem wq_187 : (Jvm.Cond.fieldLink "Sourcewright$Ways" (18 : Nat) "Sourcewright$Ways" "without" "LSourcewright$Sets;") ∈ lw_good := pz_in (List.mem_of_getElem? (i := 187) (by decide +kernel)) rfl
theorem wq_188 : (Jvm.Cond.fieldLink "Sourcewright$Ways" (21 : Nat) "Sourcewright$Ways" "orders" "[I") ∈ lw_good := pz_in (List.mem_of_getElem? (i := 188) (by decide +kernel)) rfl
theorem wq_189 : (Jvm.Cond.fieldLink "Sourcewright$Ways" (25 : Nat) "Sourcewright$Ways" "inOrder" "[I") ∈ lw_good := pz_in (List.mem_of_getElem? (i := 189) (by decide +kernel)) rfl
theorem wq_190 : (Jvm.Cond.fieldLink "Sourcewright$Ways" (28 : Nat) "Sourcewright$Ways" "cursor" "[I") ∈ lw_good := pz_in (List.mem_of_getElem? (i := 190) (by decide +kernel)) rfl
theorem wq_191 : (Jvm.Cond.fieldLink "Sourcewright$Ways" (31 : Nat) "Sourcewright$Ways" "stack" "[I") ∈ lw_good := pz_in (List.mem_of_getElem? (i := 191) (by decide +kernel)) rfl
theorem wq_192 : (Jvm.Cond.fieldLink "Sourcewright$Ways" (34 : Nat) "Sourcewright$Ways" "nearests" "[I") ∈ lw_good := pz_in (List.mem_of_getElem? (i := 192) (by decide +kernel)) rfl
theorem wq_193 : (Jvm.Cond.fieldLink "Sourcewright$Ways" (37 : Nat) "Sourcewright$Ways" "arrivals" "[I") ∈ lw_good := pz_in (List.mem_of_getElem? (i := 193) (by decide +kernel)) rfl
theorem wq_194 : (Jvm.Cond.fieldLink "Sourcewright$Ways" (40 : Nat) "Sourcewright$Ways" "loops" "[I") ∈ lw_good := pz_in (List.mem_of_getElem? (i := 194) (by decide +kernel)) rfl
theorem wq_195 : (Jvm.Cond.fieldLink "Sourcewright$Ways" (43 : Nat) "Sourcewright$Ways" "isLoopHead" "[Z") ∈ lw_good := pz_in (List.mem_of_getElem? (i := 195) (by decide +kernel)) rfl
theorem wq_196 : (Jvm.Cond.fieldLink "Sourcewright$Ways" (47 : Nat) "Sourcewright$Ways" "isSeen" "[Z") ∈ lw_good := pz_in (List.mem_of_getElem? (i := 196) (by decide +kernel)) rfl
theorem wq_197 : (Jvm.Cond.fieldLink "Sourcewright$Ways" (50 : Nat) "Sourcewright$Ways" "firstMeet" "[I") ∈ lw_good := pz_in (List.mem_of_getElem? (i := 197) (by decide +kernel)) rfl
theorem wq_198 : (Jvm.Cond.fieldLink "Sourcewright$Ways" (53 : Nat) "Sourcewright$Ways" "afterMeet" "[I") ∈ lw_good := pz_in (List.mem_of_getElem? (i := 198) (by decide +kernel)) rfl
theorem wq_199 : (Jvm.Cond.fieldLink "Sourcewright$Ways" (56 : Nat) "Sourcewright$Ways" "leapCount" "I") ∈ lw_good := pz_in (List.mem_of_getElem? (i := 199) (by decide +kernel)) rfl
theorem wq_200 : (Jvm.Cond.fieldLink "Sourcewright$Ways" (60 : Nat) "Sourcewright$Ways" "count" "I") ∈ lw_good := pz_in (List.mem_of_getElem? (i := 200) (by decide +kernel)) rfl
theorem wq_201 : (Jvm.Cond.laysFinal "Sourcewright$Ways" "Sourcewright$Ways" "blocks" "LSourcewright$Blocks;") ∈ lw_good := pz_in (List.mem_of_getElem? (i := 201) (by decide +kernel)) rfl
theorem wq_203 : (Jvm.Cond.laysFinal "Sourcewright$Ways" "Sourcewright$Ways" "ahead" "LSourcewright$Sets;") ∈ lw_good := pz_in (List.mem_of_getElem? (i := 203) (by decide +kernel)) rfl
theorem wq_205 : (Jvm.Cond.laysFinal "Sourcewright$Ways" "Sourcewright$Ways" "without" "LSourcewright$Sets;") ∈ lw_good := pz_in (List.mem_of_getElem? (i := 205) (by decide +kernel)) rfl
theorem wq_207 : (Jvm.Cond.laysFinal "Sourcewright$Ways" "Sourcewright$Ways" "orders" "[I") ∈ lw_good := pz_in (List.mem_of_getElem? (i := 207) (by decide +kernel)) rfl
theorem wq_209 : (Jvm.Cond.laysFinal "Sourcewright$Ways" "Sourcewright$Ways" "inOrder" "[I") ∈ lw_good := pz_in (List.mem_of_getElem? (i := 209) (by decide +kernel)) rfl
theorem wq_211 : (Jvm.Cond.laysFinal "Sourcewright$Ways" "Sourcewright$Ways" "cursor" "[I") ∈ lw_good := pz_in (List.mem_of_getElem? (i := 211) (by decide +kernel)) rfl
theorem wq_213 : (Jvm.Cond.laysFinal "Sourcewright$Ways" "Sourcewright$Ways" "stack" "[I") ∈ lw_good := pz_in (List.mem_of_getElem? (i := 213) (by decide +kernel)) rfl
theorem wq_215 : (Jvm.Cond.laysFinal "Sourcewright$Ways" "Sourcewright$Ways" "nearests" "[I") ∈ lw_good := pz_in (List.mem_of_getElem? (i := 215) (by decide +kernel)) rfl
theorem wq_217 : (Jvm.Cond.laysFinal "Sourcewright$Ways" "Sourcewright$Ways" "arrivals" "[I") ∈ lw_good := pz_in (List.mem_of_getElem? (i := 217) (by decide +kernel)) rfl
theorem wq_219 : (Jvm.Cond.laysFinal "Sourcewright$Ways" "Sourcewright$Ways" "loops" "[I") ∈ lw_good := pz_in (List.mem_of_getElem? (i := 219) (by decide +kernel)) rfl
theorem wq_221 : (Jvm.Cond.laysFinal "Sourcewright$Ways" "Sourcewright$Ways" "isLoopHead" "[Z") ∈ lw_good := pz_in (List.mem_of_getElem? (i := 221) (by decide +kernel)) rfl
theorem wq_223 : (Jvm.Cond.laysFinal "Sourcewright$Ways" "Sourcewright$Ways" "isSeen" "[Z") ∈ lw_good := pz_in (List.mem_of_getElem? (i := 223) (by decide +kernel)) rfl
theorem wq_225 : (Jvm.Cond.laysFinal "Sourcewright$Ways" "Sourcewright$Ways" "firstMeet" "[I") ∈ lw_good := pz_in (List.mem_of_getElem? (i := 225) (by decide +kernel)) rfl
theorem wq_227 : (Jvm.Cond.laysFinal "Sourcewright$Ways" "Sourcewright$Ways" "afterMeet" "[I") ∈ lw_good := pz_in (List.mem_of_getElem? (i := 227) (by decide +kernel)) rfl
theorem wq_229 : (Jvm.Cond.lays "Sourcewright$Ways" "Sourcewright$Ways" "leapCount" "I") ∈ lw_good := pz_in (List.mem_of_getElem? (i := 229) (by decide +kernel)) rfl
theorem wq_231 : (Jvm.Cond.lays "Sourcewright$Ways" "Sourcewright$Ways" "count" "I") ∈ lw_good := pz_in (List.mem_of_getElem? (i := 231) (by decide +kernel)) rfl
theorem wq_234 : (Jvm.Cond.classLink "Sourcewright" (61 : Nat) "Sourcewright$Life") ∈ lw_good := pz_in (List.mem_of_getElem? (i := 234) (by decide +kernel)) rfl
theorem wq_235 : (Jvm.Cond.instantiable "Sourcewright$Life" (3 : Nat)) ∈ lw_good := pz_in (List.mem_of_getElem? (i := 235) (by decide +kernel)) rfl
theorem wq_236 : (Jvm.Cond.methodLink "Sourcewright" (63 : Nat) ({ cls := "Sourcewright$Life", name := "<init>", desc := "(LSourcewright$Code;LSourcewright$Reading;)V" } : Jvm.MethodName)) ∈ lw_good := pz_in (List.mem_of_getElem? (i := 236) (by decide +kernel)) rfl
theorem wq_237 : (Jvm.Cond.instanceMethod ({ cls := "Sourcewright$Life", name := "<init>", desc := "(LSourcewright$Code;LSourcewright$Reading;)V" } : Jvm.MethodName)) ∈ lw_good := pz_in (List.mem_of_getElem? (i := 237) (by decide +kernel)) rfl
theorem wq_238 : (Jvm.Cond.code ({ cls := "Sourcewright$Life", name := "<init>", desc := "(LSourcewright$Code;LSourcewright$Reading;)V" } : Jvm.MethodName) prog_5_method_1_code (3 : Nat) (Option.none : Option Jvm.ClassFile.FieldType)) ∈ lw_good := pz_in (List.mem_of_getElem? (i := 238) (by decide +kernel)) rfl
theorem wq_239 : (Jvm.Cond.methodLink "Sourcewright$Life" (3 : Nat) ({ cls := "java/lang/Object", name := "<init>", desc := "()V" } : Jvm.MethodName)) ∈ lw_good := pz_in (List.mem_of_getElem? (i := 239) (by decide +kernel)) rfl
theorem wq_240 : (Jvm.Cond.fieldLink "Sourcewright$Life" (15 : Nat) "Sourcewright$Life" "code" "LSourcewright$Code;") ∈ lw_good := pz_in (List.mem_of_getElem? (i := 240) (by decide +kernel)) rfl
theorem wq_241 : (Jvm.Cond.fieldLink "Sourcewright$Life" (19 : Nat) "Sourcewright$Life" "reading" "LSourcewright$Reading;") ∈ lw_good := pz_in (List.mem_of_getElem? (i := 241) (by decide +kernel)) rfl
theorem wq_242 : (Jvm.Cond.fieldLink "Sourcewright$Life" (9 : Nat) "Sourcewright$Life" "ahead" "[I") ∈ lw_good := pz_in (List.mem_of_getElem? (i := 242) (by decide +kernel)) rfl
theorem wq_243 : (Jvm.Cond.laysFinal "Sourcewright$Life" "Sourcewright$Life" "code" "LSourcewright$Code;") ∈ lw_good := pz_in (List.mem_of_getElem? (i := 243) (by decide +kernel)) rfl
theorem wq_245 : (Jvm.Cond.laysFinal "Sourcewright$Life" "Sourcewright$Life" "reading" "LSourcewright$Reading;") ∈ lw_good := pz_in (List.mem_of_getElem? (i := 245) (by decide +kernel)) rfl
theorem wq_247 : (Jvm.Cond.laysFinal "Sourcewright$Life" "Sourcewright$Life" "ahead" "[I") ∈ lw_good := pz_in (List.mem_of_getElem? (i := 247) (by decide +kernel)) rfl
theorem wq_250 : (Jvm.Cond.classLink "Sourcewright" (68 : Nat) "Sourcewright$Scribe") ∈ lw_good := pz_in (List.mem_of_getElem? (i := 250) (by decide +kernel)) rfl
theorem wq_251 : (Jvm.Cond.instantiable "Sourcewright$Scribe" (8 : Nat)) ∈ lw_good := pz_in (List.mem_of_getElem? (i := 251) (by decide +kernel)) rfl
theorem wq_252 : (Jvm.Cond.methodLink "Sourcewright" (70 : Nat) ({ cls := "Sourcewright$Scribe", name := "<init>", desc := "(LSourcewright$Code;LSourcewright$Blocks;LSourcewright$Ways;LSourcewright$Life;)V" } : Jvm.MethodName)) ∈ lw_good := pz_in (List.mem_of_getElem? (i := 252) (by decide +kernel)) rfl
theorem wq_253 : (Jvm.Cond.instanceMethod ({ cls := "Sourcewright$Scribe", name := "<init>", desc := "(LSourcewright$Code;LSourcewright$Blocks;LSourcewright$Ways;LSourcewright$Life;)V" } : Jvm.MethodName)) ∈ lw_good := pz_in (List.mem_of_getElem? (i := 253) (by decide +kernel)) rfl
theorem wq_254 : (Jvm.Cond.code ({ cls := "Sourcewright$Scribe", name := "<init>", desc := "(LSourcewright$Code;LSourcewright$Blocks;LSourcewright$Ways;LSourcewright$Life;)V" } : Jvm.MethodName) prog_8_method_1_code (5 : Nat) (Option.none : Option Jvm.ClassFile.FieldType)) ∈ lw_good := pz_in (List.mem_of_getElem? (i := 254) (by decide +kernel)) rfl
theorem wq_255 : (Jvm.Cond.methodLink "Sourcewright$Scribe" (3 : Nat) ({ cls := "java/lang/Object", name := "<init>", desc := "()V" } : Jvm.MethodName)) ∈ lw_good := pz_in (List.mem_of_getElem? (i := 255) (by decide +kernel)) rfl
theorem wq_256 : (Jvm.Cond.classLink "Sourcewright$Scribe" (39 : Nat) "Sourcewright$Tour") ∈ lw_good := pz_in (List.mem_of_getElem? (i := 256) (by decide +kernel)) rfl
theorem wq_257 : (Jvm.Cond.instantiable "Sourcewright$Tour" (14 : Nat)) ∈ lw_good := pz_in (List.mem_of_getElem? (i := 257) (by decide +kernel)) rfl
theorem wq_258 : (Jvm.Cond.methodLink "Sourcewright$Scribe" (41 : Nat) ({ cls := "Sourcewright$Tour", name := "<init>", desc := "(LSourcewright$Code;LSourcewright$Blocks;LSourcewright$Ways;Z)V" } : Jvm.MethodName)) ∈ lw_good := pz_in (List.mem_of_getElem? (i := 258) (by decide +kernel)) rfl
theorem wq_259 : (Jvm.Cond.instanceMethod ({ cls := "Sourcewright$Tour", name := "<init>", desc := "(LSourcewright$Code;LSourcewright$Blocks;LSourcewright$Ways;Z)V" } : Jvm.MethodName)) ∈ lw_good := pz_in (List.mem_of_getElem? (i := 259) (by decide +kernel)) rfl
theorem wq_260 : (Jvm.Cond.code ({ cls := "Sourcewright$Tour", name := "<init>", desc := "(LSourcewright$Code;LSourcewright$Blocks;LSourcewright$Ways;Z)V" } : Jvm.MethodName) prog_11_method_1_code (5 : Nat) (Option.none : Option Jvm.ClassFile.FieldType)) ∈ lw_good := pz_in (List.mem_of_getElem? (i := 260) (by decide +kernel)) rfl
theorem wq_261 : (Jvm.Cond.methodLink "Sourcewright$Tour" (3 : Nat) ({ cls := "java/lang/Object", name := "<init>", desc := "()V" } : Jvm.MethodName)) ∈ lw_good := pz_in (List.mem_of_getElem? (i := 261) (by decide +kernel)) rfl
theorem wq_262 : (Jvm.Cond.fieldLink "Sourcewright$Tour" (44 : Nat) "Sourcewright$Tour" "code" "LSourcewright$Code;") ∈ lw_good := pz_in (List.mem_of_getElem? (i := 262) (by decide +kernel)) rfl
theorem wq_263 : (Jvm.Cond.fieldLink "Sourcewright$Tour" (48 : Nat) "Sourcewright$Tour" "blocks" "LSourcewright$Blocks;") ∈ lw_good := pz_in (List.mem_of_getElem? (i := 263) (by decide +kernel)) rfl
theorem wq_264 : (Jvm.Cond.fieldLink "Sourcewright$Tour" (52 : Nat) "Sourcewright$Tour" "ways" "LSourcewright$Ways;") ∈ lw_good := pz_in (List.mem_of_getElem? (i := 264) (by decide +kernel)) rfl
theorem wq_265 : (Jvm.Cond.fieldLink "Sourcewright$Tour" (56 : Nat) "Sourcewright$Tour" "isNextFirst" "Z") ∈ lw_good := pz_in (List.mem_of_getElem? (i := 265) (by decide +kernel)) rfl
theorem wq_266 : (Jvm.Cond.fieldLink "Sourcewright$Tour" (9 : Nat) "Sourcewright$Tour" "stack" "[I") ∈ lw_good := pz_in (List.mem_of_getElem? (i := 266) (by decide +kernel)) rfl
theorem wq_267 : (Jvm.Cond.fieldLink "Sourcewright$Tour" (15 : Nat) "Sourcewright$Tour" "stage" "[I") ∈ lw_good := pz_in (List.mem_of_getElem? (i := 267) (by decide +kernel)) rfl
theorem wq_268 : (Jvm.Cond.fieldLink "Sourcewright$Tour" (18 : Nat) "Sourcewright$Tour" "meeting" "[I") ∈ lw_good := pz_in (List.mem_of_getElem? (i := 268) (by decide +kernel)) rfl
theorem wq_269 : (Jvm.Cond.fieldLink "Sourcewright$Tour" (21 : Nat) "Sourcewright$Tour" "times" "[I") ∈ lw_good := pz_in (List.mem_of_getElem? (i := 269) (by decide +kernel)) rfl
theorem wq_270 : (Jvm.Cond.fieldLink "Sourcewright$Tour" (24 : Nat) "Sourcewright$Tour" "top" "I") ∈ lw_good := pz_in (List.mem_of_getElem? (i := 270) (by decide +kernel)) rfl
theorem wq_271 : (Jvm.Cond.fieldLink "Sourcewright$Tour" (28 : Nat) "Sourcewright$Tour" "opening" "I") ∈ lw_good := pz_in (List.mem_of_getElem? (i := 271) (by decide +kernel)) rfl
theorem wq_272 : (Jvm.Cond.fieldLink "Sourcewright$Tour" (31 : Nat) "Sourcewright$Tour" "block" "I") ∈ lw_good := pz_in (List.mem_of_getElem? (i := 272) (by decide +kernel)) rfl
theorem wq_273 : (Jvm.Cond.fieldLink "Sourcewright$Tour" (34 : Nat) "Sourcewright$Tour" "index" "I") ∈ lw_good := pz_in (List.mem_of_getElem? (i := 273) (by decide +kernel)) rfl
theorem wq_274 : (Jvm.Cond.fieldLink "Sourcewright$Tour" (37 : Nat) "Sourcewright$Tour" "to" "I") ∈ lw_good := pz_in (List.mem_of_getElem? (i := 274) (by decide +kernel)) rfl
theorem wq_275 : (Jvm.Cond.fieldLink "Sourcewright$Tour" (40 : Nat) "Sourcewright$Tour" "sign" "C") ∈ lw_good := pz_in (List.mem_of_getElem? (i := 275) (by decide +kernel)) rfl
theorem wq_276 : (Jvm.Cond.laysFinal "Sourcewright$Tour" "Sourcewright$Tour" "code" "LSourcewright$Code;") ∈ lw_good := pz_in (List.mem_of_getElem? (i := 276) (by decide +kernel)) rfl
theorem wq_278 : (Jvm.Cond.laysFinal "Sourcewright$Tour" "Sourcewright$Tour" "blocks" "LSourcewright$Blocks;") ∈ lw_good := pz_in (List.mem_of_getElem? (i := 278) (by decide +kernel)) rfl
theorem wq_280 : (Jvm.Cond.laysFinal "Sourcewright$Tour" "Sourcewright$Tour" "ways" "LSourcewright$Ways;") ∈ lw_good := pz_in (List.mem_of_getElem? (i := 280) (by decide +kernel)) rfl
theorem wq_282 : (Jvm.Cond.laysFinal "Sourcewright$Tour" "Sourcewright$Tour" "isNextFirst" "Z") ∈ lw_good := pz_in (List.mem_of_getElem? (i := 282) (by decide +kernel)) rfl
theorem wq_284 : (Jvm.Cond.laysFinal "Sourcewright$Tour" "Sourcewright$Tour" "stack" "[I") ∈ lw_good := pz_in (List.mem_of_getElem? (i := 284) (by decide +kernel)) rfl
theorem wq_286 : (Jvm.Cond.laysFinal "Sourcewright$Tour" "Sourcewright$Tour" "stage" "[I") ∈ lw_good := pz_in (List.mem_of_getElem? (i := 286) (by decide +kernel)) rfl
theorem wq_288 : (Jvm.Cond.laysFinal "Sourcewright$Tour" "Sourcewright$Tour" "meeting" "[I") ∈ lw_good := pz_in (List.mem_of_getElem? (i := 288) (by decide +kernel)) rfl
theorem wq_290 : (Jvm.Cond.laysFinal "Sourcewright$Tour" "Sourcewright$Tour" "times" "[I") ∈ lw_good := pz_in (List.mem_of_getElem? (i := 290) (by decide +kernel)) rfl
theorem wq_292 : (Jvm.Cond.lays "Sourcewright$Tour" "Sourcewright$Tour" "top" "I") ∈ lw_good := pz_in (List.mem_of_getElem? (i := 292) (by decide +kernel)) rfl
theorem wq_294 : (Jvm.Cond.lays "Sourcewright$Tour" "Sourcewright$Tour" "opening" "I") ∈ lw_good := pz_in (List.mem_of_getElem? (i := 294) (by decide +kernel)) rfl
theorem wq_296 : (Jvm.Cond.lays "Sourcewright$Tour" "Sourcewright$Tour" "block" "I") ∈ lw_good := pz_in (List.mem_of_getElem? (i := 296) (by decide +kernel)) rfl
theorem wq_298 : (Jvm.Cond.lays "Sourcewright$Tour" "Sourcewright$Tour" "index" "I") ∈ lw_good := pz_in (List.mem_of_getElem? (i := 298) (by decide +kernel)) rfl
theorem wq_300 : (Jvm.Cond.lays "Sourcewright$Tour" "Sourcewright$Tour" "to" "I") ∈ lw_good := pz_in (List.mem_of_getElem? (i := 300) (by decide +kernel)) rfl
theorem wq_302 : (Jvm.Cond.lays "Sourcewright$Tour" "Sourcewright$Tour" "sign" "C") ∈ lw_good := pz_in (List.mem_of_getElem? (i := 302) (by decide +kernel)) rfl
theorem wq_305 : (Jvm.Cond.arrayClass Jvm.ClassFile.FieldType.char) ∈ lw_good := pz_in (List.mem_of_getElem? (i := 305) (by decide +kernel)) rfl
theorem wq_306 : (Jvm.Cond.fieldLink "Sourcewright$Scribe" (23 : Nat) "Sourcewright$Scribe" "code" "LSourcewright$Code;") ∈ lw_good := pz_in (List.mem_of_getElem? (i := 306) (by decide +kernel)) rfl
theorem wq_307 : (Jvm.Cond.fieldLink "Sourcewright$Scribe" (27 : Nat) "Sourcewright$Scribe" "blocks" "LSourcewright$Blocks;") ∈ lw_good := pz_in (List.mem_of_getElem? (i := 307) (by decide +kernel)) rfl
theorem wq_308 : (Jvm.Cond.fieldLink "Sourcewright$Scribe" (31 : Nat) "Sourcewright$Scribe" "ways" "LSourcewright$Ways;") ∈ lw_good := pz_in (List.mem_of_getElem? (i := 308) (by decide +kernel)) rfl
theorem wq_309 : (Jvm.Cond.fieldLink "Sourcewright$Scribe" (35 : Nat) "Sourcewright$Scribe" "life" "LSourcewright$Life;") ∈ lw_good := pz_in (List.mem_of_getElem? (i := 309) (by decide +kernel)) rfl
theorem wq_310 : (Jvm.Cond.fieldLink "Sourcewright$Scribe" (44 : Nat) "Sourcewright$Scribe" "tour" "LSourcewright$Tour;") ∈ lw_good := pz_in (List.mem_of_getElem? (i := 310) (by decide +kernel)) rfl
theorem wq_311 : (Jvm.Cond.fieldLink "Sourcewright$Scribe" (9 : Nat) "Sourcewright$Scribe" "text" "[C") ∈ lw_good := pz_in (List.mem_of_getElem? (i := 311) (by decide +kernel)) rfl
theorem wq_312 : (Jvm.Cond.fieldLink "Sourcewright$Scribe" (15 : Nat) "Sourcewright$Scribe" "count" "I") ∈ lw_good := pz_in (List.mem_of_getElem? (i := 312) (by decide +kernel)) rfl
theorem wq_313 : (Jvm.Cond.fieldLink "Sourcewright$Scribe" (19 : Nat) "Sourcewright$Scribe" "isTidied" "Z") ∈ lw_good := pz_in (List.mem_of_getElem? (i := 313) (by decide +kernel)) rfl
theorem wq_314 : (Jvm.Cond.laysFinal "Sourcewright$Scribe" "Sourcewright$Scribe" "code" "LSourcewright$Code;") ∈ lw_good := pz_in (List.mem_of_getElem? (i := 314) (by decide +kernel)) rfl
theorem wq_316 : (Jvm.Cond.laysFinal "Sourcewright$Scribe" "Sourcewright$Scribe" "blocks" "LSourcewright$Blocks;") ∈ lw_good := pz_in (List.mem_of_getElem? (i := 316) (by decide +kernel)) rfl
theorem wq_318 : (Jvm.Cond.laysFinal "Sourcewright$Scribe" "Sourcewright$Scribe" "ways" "LSourcewright$Ways;") ∈ lw_good := pz_in (List.mem_of_getElem? (i := 318) (by decide +kernel)) rfl
theorem wq_320 : (Jvm.Cond.laysFinal "Sourcewright$Scribe" "Sourcewright$Scribe" "life" "LSourcewright$Life;") ∈ lw_good := pz_in (List.mem_of_getElem? (i := 320) (by decide +kernel)) rfl
theorem wq_322 : (Jvm.Cond.laysFinal "Sourcewright$Scribe" "Sourcewright$Scribe" "tour" "LSourcewright$Tour;") ∈ lw_good := pz_in (List.mem_of_getElem? (i := 322) (by decide +kernel)) rfl
theorem wq_324 : (Jvm.Cond.lays "Sourcewright$Scribe" "Sourcewright$Scribe" "text" "[C") ∈ lw_good := pz_in (List.mem_of_getElem? (i := 324) (by decide +kernel)) rfl
theorem wq_326 : (Jvm.Cond.lays "Sourcewright$Scribe" "Sourcewright$Scribe" "count" "I") ∈ lw_good := pz_in (List.mem_of_getElem? (i := 326) (by decide +kernel)) rfl
theorem wq_328 : (Jvm.Cond.lays "Sourcewright$Scribe" "Sourcewright$Scribe" "isTidied" "Z") ∈ lw_good := pz_in (List.mem_of_getElem? (i := 328) (by decide +kernel)) rfl
theorem wq_331 : (Jvm.Cond.classLink "Sourcewright" (77 : Nat) "Sourcewright$Builder") ∈ lw_good := pz_in (List.mem_of_getElem? (i := 331) (by decide +kernel)) rfl
theorem wq_332 : (Jvm.Cond.instantiable "Sourcewright$Builder" (16 : Nat)) ∈ lw_good := pz_in (List.mem_of_getElem? (i := 332) (by decide +kernel)) rfl
theorem wq_333 : (Jvm.Cond.methodLink "Sourcewright" (79 : Nat) ({ cls := "Sourcewright$Builder", name := "<init>", desc := "(LSourcewright$Code;LSourcewright$Blocks;LSourcewright$Ways;LSourcewright$Life;)V" } : Jvm.MethodName)) ∈ lw_good := pz_in (List.mem_of_getElem? (i := 333) (by decide +kernel)) rfl
theorem wq_334 : (Jvm.Cond.instanceMethod ({ cls := "Sourcewright$Builder", name := "<init>", desc := "(LSourcewright$Code;LSourcewright$Blocks;LSourcewright$Ways;LSourcewright$Life;)V" } : Jvm.MethodName)) ∈ lw_good := pz_in (List.mem_of_getElem? (i := 334) (by decide +kernel)) rfl
theorem wq_335 : (Jvm.Cond.code ({ cls := "Sourcewright$Builder", name := "<init>", desc := "(LSourcewright$Code;LSourcewright$Blocks;LSourcewright$Ways;LSourcewright$Life;)V" } : Jvm.MethodName) prog_3_method_1_code (5 : Nat) (Option.none : Option Jvm.ClassFile.FieldType)) ∈ lw_good := pz_in (List.mem_of_getElem? (i := 335) (by decide +kernel)) rfl
theorem wq_336 : (Jvm.Cond.methodLink "Sourcewright$Builder" (3 : Nat) ({ cls := "java/lang/Object", name := "<init>", desc := "()V" } : Jvm.MethodName)) ∈ lw_good := pz_in (List.mem_of_getElem? (i := 336) (by decide +kernel)) rfl
theorem wq_337 : (Jvm.Cond.classLink "Sourcewright$Builder" (9 : Nat) "Sourcewright$Code") ∈ lw_good := pz_in (List.mem_of_getElem? (i := 337) (by decide +kernel)) rfl
theorem wq_339 : (Jvm.Cond.classLink "Sourcewright$Builder" (65 : Nat) "Sourcewright$Tour") ∈ lw_good := pz_in (List.mem_of_getElem? (i := 339) (by decide +kernel)) rfl
theorem wq_340 : (Jvm.Cond.methodLink "Sourcewright$Builder" (67 : Nat) ({ cls := "Sourcewright$Tour", name := "<init>", desc := "(LSourcewright$Code;LSourcewright$Blocks;LSourcewright$Ways;Z)V" } : Jvm.MethodName)) ∈ lw_good := pz_in (List.mem_of_getElem? (i := 340) (by decide +kernel)) rfl
theorem wq_341 : (Jvm.Cond.fieldLink "Sourcewright$Builder" (54 : Nat) "Sourcewright$Builder" "code" "LSourcewright$Code;") ∈ lw_good := pz_in (List.mem_of_getElem? (i := 341) (by decide +kernel)) rfl
theorem wq_342 : (Jvm.Cond.fieldLink "Sourcewright$Builder" (57 : Nat) "Sourcewright$Builder" "blocks" "LSourcewright$Blocks;") ∈ lw_good := pz_in (List.mem_of_getElem? (i := 342) (by decide +kernel)) rfl
theorem wq_343 : (Jvm.Cond.fieldLink "Sourcewright$Builder" (61 : Nat) "Sourcewright$Builder" "life" "LSourcewright$Life;") ∈ lw_good := pz_in (List.mem_of_getElem? (i := 343) (by decide +kernel)) rfl
theorem wq_344 : (Jvm.Cond.fieldLink "Sourcewright$Builder" (70 : Nat) "Sourcewright$Builder" "tour" "LSourcewright$Tour;") ∈ lw_good := pz_in (List.mem_of_getElem? (i := 344) (by decide +kernel)) rfl
theorem wq_345 : (Jvm.Cond.fieldLink "Sourcewright$Builder" (12 : Nat) "Sourcewright$Builder" "result" "LSourcewright$Code;") ∈ lw_good := pz_in (List.mem_of_getElem? (i := 345) (by decide +kernel)) rfl
theorem wq_346 : (Jvm.Cond.fieldLink "Sourcewright$Builder" (18 : Nat) "Sourcewright$Builder" "blockPlace" "[I") ∈ lw_good := pz_in (List.mem_of_getElem? (i := 346) (by decide +kernel)) rfl
theorem wq_347 : (Jvm.Cond.fieldLink "Sourcewright$Builder" (22 : Nat) "Sourcewright$Builder" "slot" "[I") ∈ lw_good := pz_in (List.mem_of_getElem? (i := 347) (by decide +kernel)) rfl
theorem wq_348 : (Jvm.Cond.fieldLink "Sourcewright$Builder" (25 : Nat) "Sourcewright$Builder" "farAt" "[I") ∈ lw_good := pz_in (List.mem_of_getElem? (i := 348) (by decide +kernel)) rfl
theorem wq_349 : (Jvm.Cond.fieldLink "Sourcewright$Builder" (28 : Nat) "Sourcewright$Builder" "farTo" "[I") ∈ lw_good := pz_in (List.mem_of_getElem? (i := 349) (by decide +kernel)) rfl
theorem wq_350 : (Jvm.Cond.fieldLink "Sourcewright$Builder" (31 : Nat) "Sourcewright$Builder" "callAt" "[I") ∈ lw_good := pz_in (List.mem_of_getElem? (i := 350) (by decide +kernel)) rfl
theorem wq_351 : (Jvm.Cond.fieldLink "Sourcewright$Builder" (34 : Nat) "Sourcewright$Builder" "callTo" "[I") ∈ lw_good := pz_in (List.mem_of_getElem? (i := 351) (by decide +kernel)) rfl
theorem wq_352 : (Jvm.Cond.fieldLink "Sourcewright$Builder" (37 : Nat) "Sourcewright$Builder" "functionPlace" "[I") ∈ lw_good := pz_in (List.mem_of_getElem? (i := 352) (by decide +kernel)) rfl
theorem wq_353 : (Jvm.Cond.fieldLink "Sourcewright$Builder" (40 : Nat) "Sourcewright$Builder" "farCount" "I") ∈ lw_good := pz_in (List.mem_of_getElem? (i := 353) (by decide +kernel)) rfl
theorem wq_354 : (Jvm.Cond.fieldLink "Sourcewright$Builder" (44 : Nat) "Sourcewright$Builder" "callCount" "I") ∈ lw_good := pz_in (List.mem_of_getElem? (i := 354) (by decide +kernel)) rfl
theorem wq_355 : (Jvm.Cond.fieldLink "Sourcewright$Builder" (47 : Nat) "Sourcewright$Builder" "length" "I") ∈ lw_good := pz_in (List.mem_of_getElem? (i := 355) (by decide +kernel)) rfl
theorem wq_356 : (Jvm.Cond.fieldLink "Sourcewright$Builder" (50 : Nat) "Sourcewright$Builder" "isTidied" "Z") ∈ lw_good := pz_in (List.mem_of_getElem? (i := 356) (by decide +kernel)) rfl
theorem wq_357 : (Jvm.Cond.laysFinal "Sourcewright$Builder" "Sourcewright$Builder" "code" "LSourcewright$Code;") ∈ lw_good := pz_in (List.mem_of_getElem? (i := 357) (by decide +kernel)) rfl
theorem wq_359 : (Jvm.Cond.laysFinal "Sourcewright$Builder" "Sourcewright$Builder" "blocks" "LSourcewright$Blocks;") ∈ lw_good := pz_in (List.mem_of_getElem? (i := 359) (by decide +kernel)) rfl
theorem wq_361 : (Jvm.Cond.laysFinal "Sourcewright$Builder" "Sourcewright$Builder" "life" "LSourcewright$Life;") ∈ lw_good := pz_in (List.mem_of_getElem? (i := 361) (by decide +kernel)) rfl
theorem wq_363 : (Jvm.Cond.laysFinal "Sourcewright$Builder" "Sourcewright$Builder" "tour" "LSourcewright$Tour;") ∈ lw_good := pz_in (List.mem_of_getElem? (i := 363) (by decide +kernel)) rfl
theorem wq_365 : (Jvm.Cond.laysFinal "Sourcewright$Builder" "Sourcewright$Builder" "result" "LSourcewright$Code;") ∈ lw_good := pz_in (List.mem_of_getElem? (i := 365) (by decide +kernel)) rfl
theorem wq_367 : (Jvm.Cond.laysFinal "Sourcewright$Builder" "Sourcewright$Builder" "blockPlace" "[I") ∈ lw_good := pz_in (List.mem_of_getElem? (i := 367) (by decide +kernel)) rfl
theorem wq_369 : (Jvm.Cond.laysFinal "Sourcewright$Builder" "Sourcewright$Builder" "slot" "[I") ∈ lw_good := pz_in (List.mem_of_getElem? (i := 369) (by decide +kernel)) rfl
theorem wq_371 : (Jvm.Cond.laysFinal "Sourcewright$Builder" "Sourcewright$Builder" "farAt" "[I") ∈ lw_good := pz_in (List.mem_of_getElem? (i := 371) (by decide +kernel)) rfl
theorem wq_373 : (Jvm.Cond.laysFinal "Sourcewright$Builder" "Sourcewright$Builder" "farTo" "[I") ∈ lw_good := pz_in (List.mem_of_getElem? (i := 373) (by decide +kernel)) rfl
theorem wq_375 : (Jvm.Cond.laysFinal "Sourcewright$Builder" "Sourcewright$Builder" "callAt" "[I") ∈ lw_good := pz_in (List.mem_of_getElem? (i := 375) (by decide +kernel)) rfl
theorem wq_377 : (Jvm.Cond.laysFinal "Sourcewright$Builder" "Sourcewright$Builder" "callTo" "[I") ∈ lw_good := pz_in (List.mem_of_getElem? (i := 377) (by decide +kernel)) rfl
theorem wq_379 : (Jvm.Cond.laysFinal "Sourcewright$Builder" "Sourcewright$Builder" "functionPlace" "[I") ∈ lw_good := pz_in (List.mem_of_getElem? (i := 379) (by decide +kernel)) rfl
theorem wq_381 : (Jvm.Cond.lays "Sourcewright$Builder" "Sourcewright$Builder" "farCount" "I") ∈ lw_good := pz_in (List.mem_of_getElem? (i := 381) (by decide +kernel)) rfl
theorem wq_383 : (Jvm.Cond.lays "Sourcewright$Builder" "Sourcewright$Builder" "callCount" "I") ∈ lw_good := pz_in (List.mem_of_getElem? (i := 383) (by decide +kernel)) rfl
theorem wq_385 : (Jvm.Cond.lays "Sourcewright$Builder" "Sourcewright$Builder" "length" "I") ∈ lw_good := pz_in (List.mem_of_getElem? (i := 385) (by decide +kernel)) rfl
theorem wq_387 : (Jvm.Cond.lays "Sourcewright$Builder" "Sourcewright$Builder" "isTidied" "Z") ∈ lw_good := pz_in (List.mem_of_getElem? (i := 387) (by decide +kernel)) rfl
theorem wq_390 : (Jvm.Cond.classLink "Sourcewright" (84 : Nat) "Sourcewright$Shelf") ∈ lw_good := pz_in (List.mem_of_getElem? (i := 390) (by decide +kernel)) rfl
theorem wq_391 : (Jvm.Cond.instantiable "Sourcewright$Shelf" (3 : Nat)) ∈ lw_good := pz_in (List.mem_of_getElem? (i := 391) (by decide +kernel)) rfl
theorem wq_393 : (Jvm.Cond.instanceMethod ({ cls := "Sourcewright$Shelf", name := "<init>", desc := "()V" } : Jvm.MethodName)) ∈ lw_good := pz_in (List.mem_of_getElem? (i := 393) (by decide +kernel)) rfl
theorem wq_394 : (Jvm.Cond.code ({ cls := "Sourcewright$Shelf", name := "<init>", desc := "()V" } : Jvm.MethodName) prog_10_method_1_code (1 : Nat) (Option.none : Option Jvm.ClassFile.FieldType)) ∈ lw_good := pz_in (List.mem_of_getElem? (i := 394) (by decide +kernel)) rfl
theorem wq_395 : (Jvm.Cond.methodLink "Sourcewright$Shelf" (3 : Nat) ({ cls := "java/lang/Object", name := "<init>", desc := "()V" } : Jvm.MethodName)) ∈ lw_good := pz_in (List.mem_of_getElem? (i := 395) (by decide +kernel)) rfl
theorem wq_396 : (Jvm.Cond.fieldLink "Sourcewright$Shelf" (9 : Nat) "Sourcewright$Shelf" "row" "[C") ∈ lw_good := pz_in (List.mem_of_getElem? (i := 396) (by decide +kernel)) rfl
theorem wq_397 : (Jvm.Cond.fieldLink "Sourcewright$Shelf" (15 : Nat) "Sourcewright$Shelf" "starts" "[I") ∈ lw_good := pz_in (List.mem_of_getElem? (i := 397) (by decide +kernel)) rfl
theorem wq_398 : (Jvm.Cond.fieldLink "Sourcewright$Shelf" (19 : Nat) "Sourcewright$Shelf" "count" "I") ∈ lw_good := pz_in (List.mem_of_getElem? (i := 398) (by decide +kernel)) rfl
theorem wq_399 : (Jvm.Cond.lays "Sourcewright$Shelf" "Sourcewright$Shelf" "row" "[C") ∈ lw_good := pz_in (List.mem_of_getElem? (i := 399) (by decide +kernel)) rfl
theorem wq_401 : (Jvm.Cond.laysFinal "Sourcewright$Shelf" "Sourcewright$Shelf" "starts" "[I") ∈ lw_good := pz_in (List.mem_of_getElem? (i := 401) (by decide +kernel)) rfl
theorem wq_403 : (Jvm.Cond.lays "Sourcewright$Shelf" "Sourcewright$Shelf" "count" "I") ∈ lw_good := pz_in (List.mem_of_getElem? (i := 403) (by decide +kernel)) rfl
theorem wq_406 : (Jvm.Cond.classLink "Sourcewright" (91 : Nat) "Sourcewright$Machine") ∈ lw_good := pz_in (List.mem_of_getElem? (i := 406) (by decide +kernel)) rfl
theorem wq_407 : (Jvm.Cond.instantiable "Sourcewright$Machine" (10 : Nat)) ∈ lw_good := pz_in (List.mem_of_getElem? (i := 407) (by decide +kernel)) rfl
theorem wq_409 : (Jvm.Cond.instanceMethod ({ cls := "Sourcewright$Machine", name := "<init>", desc := "()V" } : Jvm.MethodName)) ∈ lw_good := pz_in (List.mem_of_getElem? (i := 409) (by decide +kernel)) rfl
theorem wq_410 : (Jvm.Cond.code ({ cls := "Sourcewright$Machine", name := "<init>", desc := "()V" } : Jvm.MethodName) prog_6_method_1_code (1 : Nat) (Option.none : Option Jvm.ClassFile.FieldType)) ∈ lw_good := pz_in (List.mem_of_getElem? (i := 410) (by decide +kernel)) rfl
theorem wq_411 : (Jvm.Cond.methodLink "Sourcewright$Machine" (3 : Nat) ({ cls := "java/lang/Object", name := "<init>", desc := "()V" } : Jvm.MethodName)) ∈ lw_good := pz_in (List.mem_of_getElem? (i := 411) (by decide +kernel)) rfl
theorem wq_412 : (Jvm.Cond.fieldLink "Sourcewright$Machine" (9 : Nat) "Sourcewright$Machine" "registers" "[I") ∈ lw_good := pz_in (List.mem_of_getElem? (i := 412) (by decide +kernel)) rfl
theorem wq_413 : (Jvm.Cond.fieldLink "Sourcewright$Machine" (15 : Nat) "Sourcewright$Machine" "cells" "[I") ∈ lw_good := pz_in (List.mem_of_getElem? (i := 413) (by decide +kernel)) rfl
theorem wq_414 : (Jvm.Cond.fieldLink "Sourcewright$Machine" (18 : Nat) "Sourcewright$Machine" "kept" "[I") ∈ lw_good := pz_in (List.mem_of_getElem? (i := 414) (by decide +kernel)) rfl
theorem wq_415 : (Jvm.Cond.fieldLink "Sourcewright$Machine" (21 : Nat) "Sourcewright$Machine" "outs" "[I") ∈ lw_good := pz_in (List.mem_of_getElem? (i := 415) (by decide +kernel)) rfl
theorem wq_416 : (Jvm.Cond.fieldLink "Sourcewright$Machine" (24 : Nat) "Sourcewright$Machine" "keptCount" "I") ∈ lw_good := pz_in (List.mem_of_getElem? (i := 416) (by decide +kernel)) rfl
theorem wq_417 : (Jvm.Cond.fieldLink "Sourcewright$Machine" (28 : Nat) "Sourcewright$Machine" "outCount" "I") ∈ lw_good := pz_in (List.mem_of_getElem? (i := 417) (by decide +kernel)) rfl
theorem wq_418 : (Jvm.Cond.fieldLink "Sourcewright$Machine" (31 : Nat) "Sourcewright$Machine" "stepCount" "I") ∈ lw_good := pz_in (List.mem_of_getElem? (i := 418) (by decide +kernel)) rfl
theorem wq_419 : (Jvm.Cond.fieldLink "Sourcewright$Machine" (34 : Nat) "Sourcewright$Machine" "inCount" "I") ∈ lw_good := pz_in (List.mem_of_getElem? (i := 419) (by decide +kernel)) rfl
theorem wq_420 : (Jvm.Cond.fieldLink "Sourcewright$Machine" (37 : Nat) "Sourcewright$Machine" "flag" "I") ∈ lw_good := pz_in (List.mem_of_getElem? (i := 420) (by decide +kernel)) rfl
theorem wq_421 : (Jvm.Cond.fieldLink "Sourcewright$Machine" (40 : Nat) "Sourcewright$Machine" "place" "I") ∈ lw_good := pz_in (List.mem_of_getElem? (i := 421) (by decide +kernel)) rfl
theorem wq_422 : (Jvm.Cond.laysFinal "Sourcewright$Machine" "Sourcewright$Machine" "registers" "[I") ∈ lw_good := pz_in (List.mem_of_getElem? (i := 422) (by decide +kernel)) rfl
theorem wq_424 : (Jvm.Cond.laysFinal "Sourcewright$Machine" "Sourcewright$Machine" "cells" "[I") ∈ lw_good := pz_in (List.mem_of_getElem? (i := 424) (by decide +kernel)) rfl
theorem wq_426 : (Jvm.Cond.laysFinal "Sourcewright$Machine" "Sourcewright$Machine" "kept" "[I") ∈ lw_good := pz_in (List.mem_of_getElem? (i := 426) (by decide +kernel)) rfl
theorem wq_428 : (Jvm.Cond.laysFinal "Sourcewright$Machine" "Sourcewright$Machine" "outs" "[I") ∈ lw_good := pz_in (List.mem_of_getElem? (i := 428) (by decide +kernel)) rfl
theorem wq_430 : (Jvm.Cond.lays "Sourcewright$Machine" "Sourcewright$Machine" "keptCount" "I") ∈ lw_good := pz_in (List.mem_of_getElem? (i := 430) (by decide +kernel)) rfl
theorem wq_432 : (Jvm.Cond.lays "Sourcewright$Machine" "Sourcewright$Machine" "outCount" "I") ∈ lw_good := pz_in (List.mem_of_getElem? (i := 432) (by decide +kernel)) rfl
theorem wq_434 : (Jvm.Cond.lays "Sourcewright$Machine" "Sourcewright$Machine" "stepCount" "I") ∈ lw_good := pz_in (List.mem_of_getElem? (i := 434) (by decide +kernel)) rfl
theorem wq_436 : (Jvm.Cond.lays "Sourcewright$Machine" "Sourcewright$Machine" "inCount" "I") ∈ lw_good := pz_in (List.mem_of_getElem? (i := 436) (by decide +kernel)) rfl
theorem wq_438 : (Jvm.Cond.lays "Sourcewright$Machine" "Sourcewright$Machine" "flag" "I") ∈ lw_good := pz_in (List.mem_of_getElem? (i := 438) (by decide +kernel)) rfl
theorem wq_440 : (Jvm.Cond.lays "Sourcewright$Machine" "Sourcewright$Machine" "place" "I") ∈ lw_good := pz_in (List.mem_of_getElem? (i := 440) (by decide +kernel)) rfl
theorem wq_443 : (Jvm.Cond.fieldLink "Sourcewright" (10 : Nat) "Sourcewright" "code" "LSourcewright$Code;") ∈ lw_good := pz_in (List.mem_of_getElem? (i := 443) (by decide +kernel)) rfl
theorem wq_444 : (Jvm.Cond.fieldLink "Sourcewright" (16 : Nat) "Sourcewright" "told" "[I") ∈ lw_good := pz_in (List.mem_of_getElem? (i := 444) (by decide +kernel)) rfl
theorem wq_445 : (Jvm.Cond.fieldLink "Sourcewright" (20 : Nat) "Sourcewright" "toldCount" "I") ∈ lw_good := pz_in (List.mem_of_getElem? (i := 445) (by decide +kernel)) rfl
theorem wq_446 : (Jvm.Cond.fieldLink "Sourcewright" (24 : Nat) "Sourcewright" "inputs" "[I") ∈ lw_good := pz_in (List.mem_of_getElem? (i := 446) (by decide +kernel)) rfl
theorem wq_447 : (Jvm.Cond.fieldLink "Sourcewright" (27 : Nat) "Sourcewright" "inputCount" "I") ∈ lw_good := pz_in (List.mem_of_getElem? (i := 447) (by decide +kernel)) rfl
theorem wq_448 : (Jvm.Cond.fieldLink "Sourcewright" (30 : Nat) "Sourcewright" "isTidy" "Z") ∈ lw_good := pz_in (List.mem_of_getElem? (i := 448) (by decide +kernel)) rfl
theorem wq_449 : (Jvm.Cond.fieldLink "Sourcewright" (39 : Nat) "Sourcewright" "reading" "LSourcewright$Reading;") ∈ lw_good := pz_in (List.mem_of_getElem? (i := 449) (by decide +kernel)) rfl
theorem wq_450 : (Jvm.Cond.fieldLink "Sourcewright" (48 : Nat) "Sourcewright" "division" "LSourcewright$Blocks;") ∈ lw_good := pz_in (List.mem_of_getElem? (i := 450) (by decide +kernel)) rfl
theorem wq_451 : (Jvm.Cond.fieldLink "Sourcewright" (57 : Nat) "Sourcewright" "ways" "LSourcewright$Ways;") ∈ lw_good := pz_in (List.mem_of_getElem? (i := 451) (by decide +kernel)) rfl
theorem wq_452 : (Jvm.Cond.fieldLink "Sourcewright" (64 : Nat) "Sourcewright" "life" "LSourcewright$Life;") ∈ lw_good := pz_in (List.mem_of_getElem? (i := 452) (by decide +kernel)) rfl
theorem wq_453 : (Jvm.Cond.fieldLink "Sourcewright" (73 : Nat) "Sourcewright" "scribe" "LSourcewright$Scribe;") ∈ lw_good := pz_in (List.mem_of_getElem? (i := 453) (by decide +kernel)) rfl
theorem wq_454 : (Jvm.Cond.fieldLink "Sourcewright" (80 : Nat) "Sourcewright" "builder" "LSourcewright$Builder;") ∈ lw_good := pz_in (List.mem_of_getElem? (i := 454) (by decide +kernel)) rfl
theorem wq_455 : (Jvm.Cond.fieldLink "Sourcewright" (87 : Nat) "Sourcewright" "shelf" "LSourcewright$Shelf;") ∈ lw_good := pz_in (List.mem_of_getElem? (i := 455) (by decide +kernel)) rfl
theorem wq_456 : (Jvm.Cond.fieldLink "Sourcewright" (94 : Nat) "Sourcewright" "last" "LSourcewright$Machine;") ∈ lw_good := pz_in (List.mem_of_getElem? (i := 456) (by decide +kernel)) rfl
theorem wq_457 : (Jvm.Cond.fieldLink "Sourcewright" (98 : Nat) "Sourcewright" "forth" "LSourcewright$Machine;") ∈ lw_good := pz_in (List.mem_of_getElem? (i := 457) (by decide +kernel)) rfl
