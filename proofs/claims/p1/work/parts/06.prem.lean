/-! what the start gives: classes, rows of statics, small Integers, texts -/
theorem dL_law_11 : decode cL_law 11 = .ok (.dup, 1) := by decide +kernel
theorem dL_law_12 : decode cL_law 12 = .ok (.invokespecial 143, 3) := by decide +kernel
theorem dL_law_15 : decode cL_law 15 = .ok (.astore_n 2, 1) := by decide +kernel
theorem dL_law_16 : decode cL_law 16 = .ok (.iconst 1, 1) := by decide +kernel
theorem dL_law_17 : decode cL_law 17 = .ok (.newarray .long, 2) := by decide +kernel
theorem dL_law_19 : decode cL_law 19 = .ok (.astore_n 3, 1) := by decide +kernel
theorem dL_law_20 : decode cL_law 20 = .ok (.iconst 1, 1) := by decide +kernel
theorem dL_law_21 : decode cL_law 21 = .ok (.newarray .double, 2) := by decide +kernel
theorem dL_law_23 : decode cL_law 23 = .ok (.astore 4, 2) := by decide +kernel
theorem dL_law_25 : decode cL_law 25 = .ok (.iconst 0, 1) := by decide +kernel
theorem dL_law_26 : decode cL_law 26 = .ok (.istore 5, 2) := by decide +kernel
theorem dL_law_2695 : decode cL_law 2695 = .ok (.ireturn, 1) := by decide +kernel
theorem dL_law_3 : decode cL_law 3 = .ok (.dup, 1) := by decide +kernel
theorem dL_law_37 : decode cL_law 37 = .ok (.aload_n 0, 1) := by decide +kernel
theorem dL_law_38 : decode cL_law 38 = .ok (.iload 5, 2) := by decide +kernel
theorem dL_law_4 : decode cL_law 4 = .ok (.invokespecial 140, 3) := by decide +kernel
theorem dL_law_40 : decode cL_law 40 = .ok (.iaload, 1) := by decide +kernel
theorem dL_law_41 : decode cL_law 41 = .ok (.bipush 63, 2) := by decide +kernel
theorem dL_law_43 : decode cL_law 43 = .ok (.iand, 1) := by decide +kernel
theorem dL_law_44 : decode cL_law 44 = .ok (.tableswitch 2644 0 45 #[200, 256, 324, 337, 393, 449, 505, 568, 581, 637, 650, 706, 762, 818, 881, 949, 1005, 1073, 1141, 1209, 1289, 1357, 1425, 1500, 1568, 1643, 1699, 1767, 1842, 1883, 1939, 2007, 2051, 2107, 2163, 2176, 2260, 2273, 2329, 2342, 2405, 2418, 2474, 2488, 2554, 2631], 200) := by decide +kernel
theorem dL_law_7 : decode cL_law 7 = .ok (.astore_n 1, 1) := by decide +kernel
theorem dL_law_8 : decode cL_law 8 = .ok (.new 141, 3) := by decide +kernel
theorem wq_1778 : (Jvm.Cond.classLink "SourcewrightLaw" (141 : Nat) "SourcewrightModel") ∈ lw_good := pz_in (List.mem_of_getElem? (i := 1778) (by decide +kernel)) rfl
theorem wq_1779 : (Jvm.Cond.instantiable "SourcewrightModel" (7 : Nat)) ∈ lw_good := pz_in (List.mem_of_getElem? (i := 1779) (by decide +kernel)) rfl
theorem wq_1780 : (Jvm.Cond.methodLink "SourcewrightLaw" (143 : Nat) ({ cls := "SourcewrightModel", name := "<init>", desc := "()V" } : Jvm.MethodName)) ∈ lw_good := pz_in (List.mem_of_getElem? (i := 1780) (by decide +kernel)) rfl
theorem wq_1781 : (Jvm.Cond.instanceMethod ({ cls := "SourcewrightModel", name := "<init>", desc := "()V" } : Jvm.MethodName)) ∈ lw_good := pz_in (List.mem_of_getElem? (i := 1781) (by decide +kernel)) rfl
theorem wq_1782 : (Jvm.Cond.code ({ cls := "SourcewrightModel", name := "<init>", desc := "()V" } : Jvm.MethodName) prog_14_method_9_code (1 : Nat) (Option.none : Option Jvm.ClassFile.FieldType)) ∈ lw_good := pz_in (List.mem_of_getElem? (i := 1782) (by decide +kernel)) rfl
theorem wq_3198 : (Jvm.Cond.arrayClass Jvm.ClassFile.FieldType.double) ∈ lw_good := pz_in (List.mem_of_getElem? (i := 3198) (by decide +kernel)) rfl
theorem wq_48 : (Jvm.Cond.classLink "SourcewrightLaw" (8 : Nat) "Sourcewright") ∈ lw_good := pz_in (List.mem_of_getElem? (i := 48) (by decide +kernel)) rfl
theorem wq_49 : (Jvm.Cond.instantiable "Sourcewright" (20 : Nat)) ∈ lw_good := pz_in (List.mem_of_getElem? (i := 49) (by decide +kernel)) rfl
theorem wq_50 : (Jvm.Cond.methodLink "SourcewrightLaw" (140 : Nat) ({ cls := "Sourcewright", name := "<init>", desc := "()V" } : Jvm.MethodName)) ∈ lw_good := pz_in (List.mem_of_getElem? (i := 50) (by decide +kernel)) rfl
theorem wq_51 : (Jvm.Cond.instanceMethod ({ cls := "Sourcewright", name := "<init>", desc := "()V" } : Jvm.MethodName)) ∈ lw_good := pz_in (List.mem_of_getElem? (i := 51) (by decide +kernel)) rfl
theorem wq_52 : (Jvm.Cond.code ({ cls := "Sourcewright", name := "<init>", desc := "()V" } : Jvm.MethodName) prog_1_method_1_code (1 : Nat) (Option.none : Option Jvm.ClassFile.FieldType)) ∈ lw_good := pz_in (List.mem_of_getElem? (i := 52) (by decide +kernel)) rfl
theorem pz_over {args : Array Value} {first s : State} {o : Option Outcome} {idx : List Nat} {t : FieldType} (h : (Cond.arrayOver (.array t)).holds args first o s idx = true) :
    ∃ comp c k, s.vm.findClass (FieldType.array t).toString = some comp ∧ s.vm.classes[c]? = some k ∧ k.kind = .array comp (.array t) ∧ s.vm.findClass ("[" ++ (FieldType.array t).toString) = some c := by
  simp only [Cond.holds, Cond.value, beq_iff_eq] at h
  cases hc : s.vm.findClass (FieldType.array t).toString with
  | none => simp [hc] at h
  | some comp =>
    simp only [hc, Option.bind_some, Option.bind_eq_some_iff, Option.map_eq_some_iff] at h
    obtain ⟨c, hi, k, hk, hb⟩ := h
    obtain ⟨hlt, hp, -⟩ := Array.findIdx?_eq_some_iff_getElem.mp hi
    have hkk : s.vm.classes[c] = k := (Array.getElem?_eq_some_iff.mp hk).2
    rw [hkk] at hp
    cases hkind : k.kind with
    | array component ty =>
      rw [hkind] at hb hp
      simp at hb hp
      exact ⟨comp, c, k, rfl, hk, by rw [hkind, hp, hb.1], hb.2⟩
    | _ => rw [hkind] at hb; simp at hb
theorem wr_126 : (Jvm.Cond.instantiable "Sourcewright$Blocks" (15 : Nat)) ∈ lw_tbl := List.mem_append_right _ (List.mem_of_getElem? (i := 126) (by decide +kernel))
theorem wr_332 : (Jvm.Cond.instantiable "Sourcewright$Builder" (16 : Nat)) ∈ lw_tbl := List.mem_append_right _ (List.mem_of_getElem? (i := 332) (by decide +kernel))
theorem wr_57 : (Jvm.Cond.instantiable "Sourcewright$Code" (3 : Nat)) ∈ lw_tbl := List.mem_append_right _ (List.mem_of_getElem? (i := 57) (by decide +kernel))
theorem wr_235 : (Jvm.Cond.instantiable "Sourcewright$Life" (3 : Nat)) ∈ lw_tbl := List.mem_append_right _ (List.mem_of_getElem? (i := 235) (by decide +kernel))
theorem wr_407 : (Jvm.Cond.instantiable "Sourcewright$Machine" (10 : Nat)) ∈ lw_tbl := List.mem_append_right _ (List.mem_of_getElem? (i := 407) (by decide +kernel))
theorem wr_74 : (Jvm.Cond.instantiable "Sourcewright$Reading" (10 : Nat)) ∈ lw_tbl := List.mem_append_right _ (List.mem_of_getElem? (i := 74) (by decide +kernel))
theorem wr_251 : (Jvm.Cond.instantiable "Sourcewright$Scribe" (8 : Nat)) ∈ lw_tbl := List.mem_append_right _ (List.mem_of_getElem? (i := 251) (by decide +kernel))
theorem wr_80 : (Jvm.Cond.instantiable "Sourcewright$Sets" (2 : Nat)) ∈ lw_tbl := List.mem_append_right _ (List.mem_of_getElem? (i := 80) (by decide +kernel))
theorem wr_391 : (Jvm.Cond.instantiable "Sourcewright$Shelf" (3 : Nat)) ∈ lw_tbl := List.mem_append_right _ (List.mem_of_getElem? (i := 391) (by decide +kernel))
theorem wr_257 : (Jvm.Cond.instantiable "Sourcewright$Tour" (14 : Nat)) ∈ lw_tbl := List.mem_append_right _ (List.mem_of_getElem? (i := 257) (by decide +kernel))
theorem wr_178 : (Jvm.Cond.instantiable "Sourcewright$Ways" (16 : Nat)) ∈ lw_tbl := List.mem_append_right _ (List.mem_of_getElem? (i := 178) (by decide +kernel))
theorem wr_49 : (Jvm.Cond.instantiable "Sourcewright" (20 : Nat)) ∈ lw_tbl := List.mem_append_right _ (List.mem_of_getElem? (i := 49) (by decide +kernel))
theorem wr_2048 : (Jvm.Cond.instantiable "SourcewrightModel$Reading" (4 : Nat)) ∈ lw_tbl := List.mem_append_right _ (List.mem_of_getElem? (i := 2048) (by decide +kernel))
theorem wr_3061 : (Jvm.Cond.instantiable "SourcewrightModel$Run" (3 : Nat)) ∈ lw_tbl := List.mem_append_right _ (List.mem_of_getElem? (i := 3061) (by decide +kernel))
theorem wr_2960 : (Jvm.Cond.instantiable "SourcewrightModel$Writer" (6 : Nat)) ∈ lw_tbl := List.mem_append_right _ (List.mem_of_getElem? (i := 2960) (by decide +kernel))
theorem wr_1779 : (Jvm.Cond.instantiable "SourcewrightModel" (7 : Nat)) ∈ lw_tbl := List.mem_append_right _ (List.mem_of_getElem? (i := 1779) (by decide +kernel))
theorem wr_1858 : (Jvm.Cond.instantiable "java/lang/Integer" (1 : Nat)) ∈ lw_tbl := List.mem_append_right _ (List.mem_of_getElem? (i := 1858) (by decide +kernel))
theorem wr_1785 : (Jvm.Cond.instantiable "java/util/ArrayList" (3 : Nat)) ∈ lw_tbl := List.mem_append_right _ (List.mem_of_getElem? (i := 1785) (by decide +kernel))
theorem wr_2084 : (Jvm.Cond.instantiable "java/util/ArrayList$Itr" (4 : Nat)) ∈ lw_tbl := List.mem_append_right _ (List.mem_of_getElem? (i := 2084) (by decide +kernel))
theorem wr_72 : (Jvm.Cond.arrayClass Jvm.ClassFile.FieldType.int) ∈ lw_tbl := List.mem_append_right _ (List.mem_of_getElem? (i := 72) (by decide +kernel))
theorem wr_124 : (Jvm.Cond.arrayClass Jvm.ClassFile.FieldType.boolean) ∈ lw_tbl := List.mem_append_right _ (List.mem_of_getElem? (i := 124) (by decide +kernel))
theorem wr_92 : (Jvm.Cond.arrayClass Jvm.ClassFile.FieldType.long) ∈ lw_tbl := List.mem_append_right _ (List.mem_of_getElem? (i := 92) (by decide +kernel))
theorem wr_305 : (Jvm.Cond.arrayClass Jvm.ClassFile.FieldType.char) ∈ lw_tbl := List.mem_append_right _ (List.mem_of_getElem? (i := 305) (by decide +kernel))
theorem wr_3198 : (Jvm.Cond.arrayClass Jvm.ClassFile.FieldType.double) ∈ lw_tbl := List.mem_append_right _ (List.mem_of_getElem? (i := 3198) (by decide +kernel))
theorem wr_1935 : (Jvm.Cond.arrayOver (Jvm.ClassFile.FieldType.object "java/lang/Object")) ∈ lw_tbl := List.mem_append_right _ (List.mem_of_getElem? (i := 1935) (by decide +kernel))
theorem wr_2230 : (Jvm.Cond.arrayOver (Jvm.ClassFile.FieldType.array Jvm.ClassFile.FieldType.int)) ∈ lw_tbl := List.mem_append_right _ (List.mem_of_getElem? (i := 2230) (by decide +kernel))
theorem wr_1 : (Jvm.Cond.initialized "Sourcewright") ∈ lw_tbl := List.mem_append_right _ (List.mem_of_getElem? (i := 1) (by decide +kernel))
theorem wf_0 : (Jvm.Cond.arrayOf (Jvm.Term.static "Sourcewright" "PLAIN" "[I") Jvm.ClassFile.FieldType.int) ∈ flatC (Jvm.Cond.and given_1 narrow_1) := by decide +kernel
theorem wf_1 : (Jvm.Cond.eq (Jvm.Term.length (Jvm.Term.static "Sourcewright" "PLAIN" "[I")) (Jvm.Term.int (16 : Int32))) ∈ flatC (Jvm.Cond.and given_1 narrow_1) := by decide +kernel
theorem wf_2 : (Jvm.Cond.eq (Jvm.Term.elem (Jvm.Term.static "Sourcewright" "PLAIN" "[I") (Jvm.Term.int (0 : Int32))) (Jvm.Term.int (0 : Int32))) ∈ flatC (Jvm.Cond.and given_1 narrow_1) := by decide +kernel
theorem wf_3 : (Jvm.Cond.eq (Jvm.Term.elem (Jvm.Term.static "Sourcewright" "PLAIN" "[I") (Jvm.Term.int (1 : Int32))) (Jvm.Term.int (1 : Int32))) ∈ flatC (Jvm.Cond.and given_1 narrow_1) := by decide +kernel
theorem wf_4 : (Jvm.Cond.eq (Jvm.Term.elem (Jvm.Term.static "Sourcewright" "PLAIN" "[I") (Jvm.Term.int (2 : Int32))) (Jvm.Term.int (2 : Int32))) ∈ flatC (Jvm.Cond.and given_1 narrow_1) := by decide +kernel
theorem wf_5 : (Jvm.Cond.eq (Jvm.Term.elem (Jvm.Term.static "Sourcewright" "PLAIN" "[I") (Jvm.Term.int (3 : Int32))) (Jvm.Term.int (3 : Int32))) ∈ flatC (Jvm.Cond.and given_1 narrow_1) := by decide +kernel
theorem wf_6 : (Jvm.Cond.eq (Jvm.Term.elem (Jvm.Term.static "Sourcewright" "PLAIN" "[I") (Jvm.Term.int (4 : Int32))) (Jvm.Term.int (4 : Int32))) ∈ flatC (Jvm.Cond.and given_1 narrow_1) := by decide +kernel
theorem wf_7 : (Jvm.Cond.eq (Jvm.Term.elem (Jvm.Term.static "Sourcewright" "PLAIN" "[I") (Jvm.Term.int (5 : Int32))) (Jvm.Term.int (5 : Int32))) ∈ flatC (Jvm.Cond.and given_1 narrow_1) := by decide +kernel
theorem wf_8 : (Jvm.Cond.eq (Jvm.Term.elem (Jvm.Term.static "Sourcewright" "PLAIN" "[I") (Jvm.Term.int (6 : Int32))) (Jvm.Term.int (6 : Int32))) ∈ flatC (Jvm.Cond.and given_1 narrow_1) := by decide +kernel
theorem wf_9 : (Jvm.Cond.eq (Jvm.Term.elem (Jvm.Term.static "Sourcewright" "PLAIN" "[I") (Jvm.Term.int (7 : Int32))) (Jvm.Term.int (7 : Int32))) ∈ flatC (Jvm.Cond.and given_1 narrow_1) := by decide +kernel
theorem wf_10 : (Jvm.Cond.eq (Jvm.Term.elem (Jvm.Term.static "Sourcewright" "PLAIN" "[I") (Jvm.Term.int (8 : Int32))) (Jvm.Term.int (13 : Int32))) ∈ flatC (Jvm.Cond.and given_1 narrow_1) := by decide +kernel
theorem wf_11 : (Jvm.Cond.eq (Jvm.Term.elem (Jvm.Term.static "Sourcewright" "PLAIN" "[I") (Jvm.Term.int (9 : Int32))) (Jvm.Term.int (9 : Int32))) ∈ flatC (Jvm.Cond.and given_1 narrow_1) := by decide +kernel
theorem wf_12 : (Jvm.Cond.eq (Jvm.Term.elem (Jvm.Term.static "Sourcewright" "PLAIN" "[I") (Jvm.Term.int (10 : Int32))) (Jvm.Term.int (10 : Int32))) ∈ flatC (Jvm.Cond.and given_1 narrow_1) := by decide +kernel
theorem wf_13 : (Jvm.Cond.eq (Jvm.Term.elem (Jvm.Term.static "Sourcewright" "PLAIN" "[I") (Jvm.Term.int (11 : Int32))) (Jvm.Term.int (11 : Int32))) ∈ flatC (Jvm.Cond.and given_1 narrow_1) := by decide +kernel
theorem wf_14 : (Jvm.Cond.eq (Jvm.Term.elem (Jvm.Term.static "Sourcewright" "PLAIN" "[I") (Jvm.Term.int (12 : Int32))) (Jvm.Term.int (12 : Int32))) ∈ flatC (Jvm.Cond.and given_1 narrow_1) := by decide +kernel
theorem wf_15 : (Jvm.Cond.eq (Jvm.Term.elem (Jvm.Term.static "Sourcewright" "PLAIN" "[I") (Jvm.Term.int (13 : Int32))) (Jvm.Term.int (13 : Int32))) ∈ flatC (Jvm.Cond.and given_1 narrow_1) := by decide +kernel
theorem wf_16 : (Jvm.Cond.eq (Jvm.Term.elem (Jvm.Term.static "Sourcewright" "PLAIN" "[I") (Jvm.Term.int (14 : Int32))) (Jvm.Term.int (13 : Int32))) ∈ flatC (Jvm.Cond.and given_1 narrow_1) := by decide +kernel
theorem wf_17 : (Jvm.Cond.eq (Jvm.Term.elem (Jvm.Term.static "Sourcewright" "PLAIN" "[I") (Jvm.Term.int (15 : Int32))) (Jvm.Term.int (13 : Int32))) ∈ flatC (Jvm.Cond.and given_1 narrow_1) := by decide +kernel
theorem wr_549 : (Jvm.Cond.laysStatic "Sourcewright" "PLAIN" "[I") ∈ lw_tbl := List.mem_append_right _ (List.mem_of_getElem? (i := 549) (by decide +kernel))
theorem wf_18 : (Jvm.Cond.arrayOf (Jvm.Term.static "Sourcewright" "BRANCHES" "[I") Jvm.ClassFile.FieldType.int) ∈ flatC (Jvm.Cond.and given_1 narrow_1) := by decide +kernel
theorem wf_19 : (Jvm.Cond.eq (Jvm.Term.length (Jvm.Term.static "Sourcewright" "BRANCHES" "[I")) (Jvm.Term.int (16 : Int32))) ∈ flatC (Jvm.Cond.and given_1 narrow_1) := by decide +kernel
theorem wf_20 : (Jvm.Cond.eq (Jvm.Term.elem (Jvm.Term.static "Sourcewright" "BRANCHES" "[I") (Jvm.Term.int (0 : Int32))) (Jvm.Term.int (8 : Int32))) ∈ flatC (Jvm.Cond.and given_1 narrow_1) := by decide +kernel
theorem wf_21 : (Jvm.Cond.eq (Jvm.Term.elem (Jvm.Term.static "Sourcewright" "BRANCHES" "[I") (Jvm.Term.int (1 : Int32))) (Jvm.Term.int (14 : Int32))) ∈ flatC (Jvm.Cond.and given_1 narrow_1) := by decide +kernel
theorem wf_22 : (Jvm.Cond.eq (Jvm.Term.elem (Jvm.Term.static "Sourcewright" "BRANCHES" "[I") (Jvm.Term.int (2 : Int32))) (Jvm.Term.int (14 : Int32))) ∈ flatC (Jvm.Cond.and given_1 narrow_1) := by decide +kernel
theorem wf_23 : (Jvm.Cond.eq (Jvm.Term.elem (Jvm.Term.static "Sourcewright" "BRANCHES" "[I") (Jvm.Term.int (3 : Int32))) (Jvm.Term.int (14 : Int32))) ∈ flatC (Jvm.Cond.and given_1 narrow_1) := by decide +kernel
theorem wf_24 : (Jvm.Cond.eq (Jvm.Term.elem (Jvm.Term.static "Sourcewright" "BRANCHES" "[I") (Jvm.Term.int (4 : Int32))) (Jvm.Term.int (14 : Int32))) ∈ flatC (Jvm.Cond.and given_1 narrow_1) := by decide +kernel
theorem wf_25 : (Jvm.Cond.eq (Jvm.Term.elem (Jvm.Term.static "Sourcewright" "BRANCHES" "[I") (Jvm.Term.int (5 : Int32))) (Jvm.Term.int (15 : Int32))) ∈ flatC (Jvm.Cond.and given_1 narrow_1) := by decide +kernel
theorem wf_26 : (Jvm.Cond.eq (Jvm.Term.elem (Jvm.Term.static "Sourcewright" "BRANCHES" "[I") (Jvm.Term.int (6 : Int32))) (Jvm.Term.int (16 : Int32))) ∈ flatC (Jvm.Cond.and given_1 narrow_1) := by decide +kernel
theorem wf_27 : (Jvm.Cond.eq (Jvm.Term.elem (Jvm.Term.static "Sourcewright" "BRANCHES" "[I") (Jvm.Term.int (7 : Int32))) (Jvm.Term.int (13 : Int32))) ∈ flatC (Jvm.Cond.and given_1 narrow_1) := by decide +kernel
theorem wf_28 : (Jvm.Cond.eq (Jvm.Term.elem (Jvm.Term.static "Sourcewright" "BRANCHES" "[I") (Jvm.Term.int (8 : Int32))) (Jvm.Term.int (17 : Int32))) ∈ flatC (Jvm.Cond.and given_1 narrow_1) := by decide +kernel
theorem wf_29 : (Jvm.Cond.eq (Jvm.Term.elem (Jvm.Term.static "Sourcewright" "BRANCHES" "[I") (Jvm.Term.int (9 : Int32))) (Jvm.Term.int (17 : Int32))) ∈ flatC (Jvm.Cond.and given_1 narrow_1) := by decide +kernel
theorem wf_30 : (Jvm.Cond.eq (Jvm.Term.elem (Jvm.Term.static "Sourcewright" "BRANCHES" "[I") (Jvm.Term.int (10 : Int32))) (Jvm.Term.int (17 : Int32))) ∈ flatC (Jvm.Cond.and given_1 narrow_1) := by decide +kernel
theorem wf_31 : (Jvm.Cond.eq (Jvm.Term.elem (Jvm.Term.static "Sourcewright" "BRANCHES" "[I") (Jvm.Term.int (11 : Int32))) (Jvm.Term.int (17 : Int32))) ∈ flatC (Jvm.Cond.and given_1 narrow_1) := by decide +kernel
theorem wf_32 : (Jvm.Cond.eq (Jvm.Term.elem (Jvm.Term.static "Sourcewright" "BRANCHES" "[I") (Jvm.Term.int (12 : Int32))) (Jvm.Term.int (13 : Int32))) ∈ flatC (Jvm.Cond.and given_1 narrow_1) := by decide +kernel
theorem wf_33 : (Jvm.Cond.eq (Jvm.Term.elem (Jvm.Term.static "Sourcewright" "BRANCHES" "[I") (Jvm.Term.int (13 : Int32))) (Jvm.Term.int (13 : Int32))) ∈ flatC (Jvm.Cond.and given_1 narrow_1) := by decide +kernel
theorem wf_34 : (Jvm.Cond.eq (Jvm.Term.elem (Jvm.Term.static "Sourcewright" "BRANCHES" "[I") (Jvm.Term.int (14 : Int32))) (Jvm.Term.int (13 : Int32))) ∈ flatC (Jvm.Cond.and given_1 narrow_1) := by decide +kernel
theorem wf_35 : (Jvm.Cond.eq (Jvm.Term.elem (Jvm.Term.static "Sourcewright" "BRANCHES" "[I") (Jvm.Term.int (15 : Int32))) (Jvm.Term.int (13 : Int32))) ∈ flatC (Jvm.Cond.and given_1 narrow_1) := by decide +kernel
theorem wr_547 : (Jvm.Cond.laysStatic "Sourcewright" "BRANCHES" "[I") ∈ lw_tbl := List.mem_append_right _ (List.mem_of_getElem? (i := 547) (by decide +kernel))
theorem wf_36 : (Jvm.Cond.arrayOf (Jvm.Term.static "Sourcewright" "SPANS" "[I") Jvm.ClassFile.FieldType.int) ∈ flatC (Jvm.Cond.and given_1 narrow_1) := by decide +kernel
theorem wf_37 : (Jvm.Cond.eq (Jvm.Term.length (Jvm.Term.static "Sourcewright" "SPANS" "[I")) (Jvm.Term.int (19 : Int32))) ∈ flatC (Jvm.Cond.and given_1 narrow_1) := by decide +kernel
theorem wf_38 : (Jvm.Cond.eq (Jvm.Term.elem (Jvm.Term.static "Sourcewright" "SPANS" "[I") (Jvm.Term.int (0 : Int32))) (Jvm.Term.int (1 : Int32))) ∈ flatC (Jvm.Cond.and given_1 narrow_1) := by decide +kernel
theorem wf_39 : (Jvm.Cond.eq (Jvm.Term.elem (Jvm.Term.static "Sourcewright" "SPANS" "[I") (Jvm.Term.int (1 : Int32))) (Jvm.Term.int (2 : Int32))) ∈ flatC (Jvm.Cond.and given_1 narrow_1) := by decide +kernel
theorem wf_40 : (Jvm.Cond.eq (Jvm.Term.elem (Jvm.Term.static "Sourcewright" "SPANS" "[I") (Jvm.Term.int (2 : Int32))) (Jvm.Term.int (1 : Int32))) ∈ flatC (Jvm.Cond.and given_1 narrow_1) := by decide +kernel
theorem wf_41 : (Jvm.Cond.eq (Jvm.Term.elem (Jvm.Term.static "Sourcewright" "SPANS" "[I") (Jvm.Term.int (3 : Int32))) (Jvm.Term.int (1 : Int32))) ∈ flatC (Jvm.Cond.and given_1 narrow_1) := by decide +kernel
theorem wf_42 : (Jvm.Cond.eq (Jvm.Term.elem (Jvm.Term.static "Sourcewright" "SPANS" "[I") (Jvm.Term.int (4 : Int32))) (Jvm.Term.int (1 : Int32))) ∈ flatC (Jvm.Cond.and given_1 narrow_1) := by decide +kernel
theorem wf_43 : (Jvm.Cond.eq (Jvm.Term.elem (Jvm.Term.static "Sourcewright" "SPANS" "[I") (Jvm.Term.int (5 : Int32))) (Jvm.Term.int (1 : Int32))) ∈ flatC (Jvm.Cond.and given_1 narrow_1) := by decide +kernel
theorem wf_44 : (Jvm.Cond.eq (Jvm.Term.elem (Jvm.Term.static "Sourcewright" "SPANS" "[I") (Jvm.Term.int (6 : Int32))) (Jvm.Term.int (1 : Int32))) ∈ flatC (Jvm.Cond.and given_1 narrow_1) := by decide +kernel
theorem wf_45 : (Jvm.Cond.eq (Jvm.Term.elem (Jvm.Term.static "Sourcewright" "SPANS" "[I") (Jvm.Term.int (7 : Int32))) (Jvm.Term.int (1 : Int32))) ∈ flatC (Jvm.Cond.and given_1 narrow_1) := by decide +kernel
theorem wf_46 : (Jvm.Cond.eq (Jvm.Term.elem (Jvm.Term.static "Sourcewright" "SPANS" "[I") (Jvm.Term.int (8 : Int32))) (Jvm.Term.int (2 : Int32))) ∈ flatC (Jvm.Cond.and given_1 narrow_1) := by decide +kernel
theorem wf_47 : (Jvm.Cond.eq (Jvm.Term.elem (Jvm.Term.static "Sourcewright" "SPANS" "[I") (Jvm.Term.int (9 : Int32))) (Jvm.Term.int (1 : Int32))) ∈ flatC (Jvm.Cond.and given_1 narrow_1) := by decide +kernel
theorem wf_48 : (Jvm.Cond.eq (Jvm.Term.elem (Jvm.Term.static "Sourcewright" "SPANS" "[I") (Jvm.Term.int (10 : Int32))) (Jvm.Term.int (1 : Int32))) ∈ flatC (Jvm.Cond.and given_1 narrow_1) := by decide +kernel
theorem wf_49 : (Jvm.Cond.eq (Jvm.Term.elem (Jvm.Term.static "Sourcewright" "SPANS" "[I") (Jvm.Term.int (11 : Int32))) (Jvm.Term.int (2 : Int32))) ∈ flatC (Jvm.Cond.and given_1 narrow_1) := by decide +kernel
theorem wf_50 : (Jvm.Cond.eq (Jvm.Term.elem (Jvm.Term.static "Sourcewright" "SPANS" "[I") (Jvm.Term.int (12 : Int32))) (Jvm.Term.int (2 : Int32))) ∈ flatC (Jvm.Cond.and given_1 narrow_1) := by decide +kernel
theorem wf_51 : (Jvm.Cond.eq (Jvm.Term.elem (Jvm.Term.static "Sourcewright" "SPANS" "[I") (Jvm.Term.int (13 : Int32))) (Jvm.Term.int (1 : Int32))) ∈ flatC (Jvm.Cond.and given_1 narrow_1) := by decide +kernel
theorem wf_52 : (Jvm.Cond.eq (Jvm.Term.elem (Jvm.Term.static "Sourcewright" "SPANS" "[I") (Jvm.Term.int (14 : Int32))) (Jvm.Term.int (2 : Int32))) ∈ flatC (Jvm.Cond.and given_1 narrow_1) := by decide +kernel
theorem wf_53 : (Jvm.Cond.eq (Jvm.Term.elem (Jvm.Term.static "Sourcewright" "SPANS" "[I") (Jvm.Term.int (15 : Int32))) (Jvm.Term.int (2 : Int32))) ∈ flatC (Jvm.Cond.and given_1 narrow_1) := by decide +kernel
theorem wf_54 : (Jvm.Cond.eq (Jvm.Term.elem (Jvm.Term.static "Sourcewright" "SPANS" "[I") (Jvm.Term.int (16 : Int32))) (Jvm.Term.int (1 : Int32))) ∈ flatC (Jvm.Cond.and given_1 narrow_1) := by decide +kernel
theorem wf_55 : (Jvm.Cond.eq (Jvm.Term.elem (Jvm.Term.static "Sourcewright" "SPANS" "[I") (Jvm.Term.int (17 : Int32))) (Jvm.Term.int (3 : Int32))) ∈ flatC (Jvm.Cond.and given_1 narrow_1) := by decide +kernel
theorem wf_56 : (Jvm.Cond.eq (Jvm.Term.elem (Jvm.Term.static "Sourcewright" "SPANS" "[I") (Jvm.Term.int (18 : Int32))) (Jvm.Term.int (0 : Int32))) ∈ flatC (Jvm.Cond.and given_1 narrow_1) := by decide +kernel
theorem wr_554 : (Jvm.Cond.laysStatic "Sourcewright" "SPANS" "[I") ∈ lw_tbl := List.mem_append_right _ (List.mem_of_getElem? (i := 554) (by decide +kernel))
theorem wf_57 : (Jvm.Cond.arrayOf (Jvm.Term.static "java/util/ArrayList" "DEFAULTCAPACITY_EMPTY_ELEMENTDATA" "[Ljava/lang/Object;") (Jvm.ClassFile.FieldType.object "java/lang/Object")) ∈ flatC (Jvm.Cond.and given_1 narrow_1) := by decide +kernel
theorem wf_58 : (Jvm.Cond.eq (Jvm.Term.length (Jvm.Term.static "java/util/ArrayList" "DEFAULTCAPACITY_EMPTY_ELEMENTDATA" "[Ljava/lang/Object;")) (Jvm.Term.int (0 : Int32))) ∈ flatC (Jvm.Cond.and given_1 narrow_1) := by decide +kernel
theorem wr_1797 : (Jvm.Cond.laysStatic "java/util/ArrayList" "DEFAULTCAPACITY_EMPTY_ELEMENTDATA" "[Ljava/lang/Object;") ∈ lw_tbl := List.mem_append_right _ (List.mem_of_getElem? (i := 1797) (by decide +kernel))
theorem wr_16 : (Jvm.Cond.initialized "java/util/ArrayList") ∈ lw_tbl := List.mem_append_right _ (List.mem_of_getElem? (i := 16) (by decide +kernel))
theorem wf_59 : (Jvm.Cond.exactly (Jvm.Term.static "java/util/ArrayList" "DEFAULTCAPACITY_EMPTY_ELEMENTDATA" "[Ljava/lang/Object;") "[Ljava/lang/Object;") ∈ flatC (Jvm.Cond.and given_1 narrow_1) := by decide +kernel
theorem wf_60 : (Jvm.Cond.eq (Jvm.Term.length (Jvm.Term.static "java/lang/Integer$IntegerCache" "cache" "[Ljava/lang/Integer;")) (Jvm.Term.int (256 : Int32))) ∈ flatC (Jvm.Cond.and given_1 narrow_1) := by decide +kernel
theorem wf_61 : (Jvm.Cond.all (Jvm.Term.static "java/lang/Integer$IntegerCache" "cache" "[Ljava/lang/Integer;") (Jvm.Cond.and (Jvm.Cond.exactly (Jvm.Term.elem (Jvm.Term.static "java/lang/Integer$IntegerCache" "cache" "[Ljava/lang/Integer;") (Jvm.Term.index (0 : Nat))) "java/lang/Integer") (Jvm.Cond.eq (Jvm.Term.field (Jvm.Term.elem (Jvm.Term.static "java/lang/Integer$IntegerCache" "cache" "[Ljava/lang/Integer;") (Jvm.Term.index (0 : Nat))) "java/lang/Integer" "value" "I") (Jvm.Term.sub (Jvm.Term.index (0 : Nat)) (Jvm.Term.int (128 : Int32)))))) ∈ flatC (Jvm.Cond.and given_1 narrow_1) := by decide +kernel
theorem wf_62 : (Jvm.Cond.arrayOf (Jvm.Term.static "java/lang/Integer$IntegerCache" "cache" "[Ljava/lang/Integer;") (Jvm.ClassFile.FieldType.object "java/lang/Integer")) ∈ flatC (Jvm.Cond.and given_1 narrow_1) := by decide +kernel
theorem wr_1856 : (Jvm.Cond.laysStatic "java/lang/Integer$IntegerCache" "cache" "[Ljava/lang/Integer;") ∈ lw_tbl := List.mem_append_right _ (List.mem_of_getElem? (i := 1856) (by decide +kernel))
theorem wr_25 : (Jvm.Cond.initialized "java/lang/Integer$IntegerCache") ∈ lw_tbl := List.mem_append_right _ (List.mem_of_getElem? (i := 25) (by decide +kernel))
theorem wr_1854 : (Jvm.Cond.laysStatic "java/lang/Integer$IntegerCache" "high" "I") ∈ lw_tbl := List.mem_append_right _ (List.mem_of_getElem? (i := 1854) (by decide +kernel))
theorem wf_63 : (Jvm.Cond.eq (Jvm.Term.static "java/lang/Integer$IntegerCache" "high" "I") (Jvm.Term.int (127 : Int32))) ∈ flatC (Jvm.Cond.and given_1 narrow_1) := by decide +kernel
theorem wr_1291 : (Jvm.Cond.laysStatic "java/lang/Throwable" "UNASSIGNED_STACK" "[Ljava/lang/StackTraceElement;") ∈ lw_tbl := List.mem_append_right _ (List.mem_of_getElem? (i := 1291) (by decide +kernel))
theorem wr_17 : (Jvm.Cond.initialized "java/lang/Throwable") ∈ lw_tbl := List.mem_append_right _ (List.mem_of_getElem? (i := 17) (by decide +kernel))
theorem wf_64 : (Jvm.Cond.isRef (Jvm.Term.static "java/lang/Throwable" "UNASSIGNED_STACK" "[Ljava/lang/StackTraceElement;")) ∈ flatC (Jvm.Cond.and given_1 narrow_1) := by decide +kernel
theorem wr_1293 : (Jvm.Cond.laysStatic "java/lang/Throwable" "SUPPRESSED_SENTINEL" "Ljava/util/List;") ∈ lw_tbl := List.mem_append_right _ (List.mem_of_getElem? (i := 1293) (by decide +kernel))
theorem wf_65 : (Jvm.Cond.isRef (Jvm.Term.static "java/lang/Throwable" "SUPPRESSED_SENTINEL" "Ljava/util/List;")) ∈ flatC (Jvm.Cond.and given_1 narrow_1) := by decide +kernel
theorem wf_66 : (Jvm.Cond.isRef (Jvm.Term.mirror "[Ljava/lang/Object;")) ∈ flatC (Jvm.Cond.and given_1 narrow_1) := by decide +kernel
theorem wf_67 : (Jvm.Cond.exactly (Jvm.Term.string "Sourcewright" (122 : Nat)) "java/lang/String") ∈ flatC (Jvm.Cond.and given_1 narrow_1) := by decide +kernel
theorem wf_68 : (Jvm.Cond.exactly (Jvm.Term.string "Sourcewright" (268 : Nat)) "java/lang/String") ∈ flatC (Jvm.Cond.and given_1 narrow_1) := by decide +kernel
theorem wf_69 : (Jvm.Cond.exactly (Jvm.Term.string "Sourcewright" (286 : Nat)) "java/lang/String") ∈ flatC (Jvm.Cond.and given_1 narrow_1) := by decide +kernel
theorem wf_70 : (Jvm.Cond.exactly (Jvm.Term.string "Sourcewright" (320 : Nat)) "java/lang/String") ∈ flatC (Jvm.Cond.and given_1 narrow_1) := by decide +kernel
theorem wf_71 : (Jvm.Cond.exactly (Jvm.Term.string "Sourcewright" (336 : Nat)) "java/lang/String") ∈ flatC (Jvm.Cond.and given_1 narrow_1) := by decide +kernel
theorem wf_72 : (Jvm.Cond.exactly (Jvm.Term.string "Sourcewright" (345 : Nat)) "java/lang/String") ∈ flatC (Jvm.Cond.and given_1 narrow_1) := by decide +kernel
theorem wr_1310 : (Jvm.Cond.stringRef "Sourcewright" (122 : Nat) "no byte") ∈ lw_tbl := List.mem_append_right _ (List.mem_of_getElem? (i := 1310) (by decide +kernel))
theorem wr_1397 : (Jvm.Cond.stringRef "Sourcewright" (268 : Nat) "no such byte") ∈ lw_tbl := List.mem_append_right _ (List.mem_of_getElem? (i := 1397) (by decide +kernel))
theorem wr_1719 : (Jvm.Cond.stringRef "Sourcewright" (286 : Nat) "no such number") ∈ lw_tbl := List.mem_append_right _ (List.mem_of_getElem? (i := 1719) (by decide +kernel))
theorem wr_1769 : (Jvm.Cond.stringRef "Sourcewright" (320 : Nat) "no bytes") ∈ lw_tbl := List.mem_append_right _ (List.mem_of_getElem? (i := 1769) (by decide +kernel))
theorem wr_1476 : (Jvm.Cond.stringRef "Sourcewright" (336 : Nat) "no such function") ∈ lw_tbl := List.mem_append_right _ (List.mem_of_getElem? (i := 1476) (by decide +kernel))
theorem wr_1711 : (Jvm.Cond.stringRef "Sourcewright" (345 : Nat) "no such number of steps") ∈ lw_tbl := List.mem_append_right _ (List.mem_of_getElem? (i := 1711) (by decide +kernel))
theorem pz_nx_in : pz_nx.all (fun w => decide (w ∈ tables_1)) = true := by decide +kernel
theorem wf_73 : (Jvm.Cond.not (Jvm.Cond.castable "java/util/NoSuchElementException" "java/lang/UnsupportedOperationException")) ∈ flatC (Jvm.Cond.and given_1 narrow_1) := by decide +kernel
theorem wr_2067 : (Jvm.Cond.declares ({ cls := "java/util/Collection", name := "toArray", desc := "()[Ljava/lang/Object;" } : Jvm.MethodName)) ∈ lw_tbl := List.mem_append_right _ (List.mem_of_getElem? (i := 2067) (by decide +kernel))
theorem wr_2066 : (Jvm.Cond.interfaceMethod "java/util/Collection" "java/util/Collection" "toArray" "()[Ljava/lang/Object;") ∈ lw_tbl := List.mem_append_right _ (List.mem_of_getElem? (i := 2066) (by decide +kernel))
theorem wr_2072 : (Jvm.Cond.publicMethod ({ cls := "java/util/ArrayList", name := "toArray", desc := "()[Ljava/lang/Object;" } : Jvm.MethodName)) ∈ lw_tbl := List.mem_append_right _ (List.mem_of_getElem? (i := 2072) (by decide +kernel))
theorem wr_2070 : (Jvm.Cond.unhidden "java/util/ArrayList" "toArray" "()[Ljava/lang/Object;") ∈ lw_tbl := List.mem_append_right _ (List.mem_of_getElem? (i := 2070) (by decide +kernel))
theorem wr_2068 : (Jvm.Cond.castable "java/util/ArrayList" "java/util/Collection") ∈ lw_tbl := List.mem_append_right _ (List.mem_of_getElem? (i := 2068) (by decide +kernel))
theorem wr_2105 : (Jvm.Cond.declares ({ cls := "java/util/Iterator", name := "hasNext", desc := "()Z" } : Jvm.MethodName)) ∈ lw_tbl := List.mem_append_right _ (List.mem_of_getElem? (i := 2105) (by decide +kernel))
theorem wr_2104 : (Jvm.Cond.interfaceMethod "java/util/Iterator" "java/util/Iterator" "hasNext" "()Z") ∈ lw_tbl := List.mem_append_right _ (List.mem_of_getElem? (i := 2104) (by decide +kernel))
theorem wr_2110 : (Jvm.Cond.publicMethod ({ cls := "java/util/ArrayList$Itr", name := "hasNext", desc := "()Z" } : Jvm.MethodName)) ∈ lw_tbl := List.mem_append_right _ (List.mem_of_getElem? (i := 2110) (by decide +kernel))
theorem wr_2108 : (Jvm.Cond.unhidden "java/util/ArrayList$Itr" "hasNext" "()Z") ∈ lw_tbl := List.mem_append_right _ (List.mem_of_getElem? (i := 2108) (by decide +kernel))
theorem wr_2106 : (Jvm.Cond.castable "java/util/ArrayList$Itr" "java/util/Iterator") ∈ lw_tbl := List.mem_append_right _ (List.mem_of_getElem? (i := 2106) (by decide +kernel))
theorem wr_2115 : (Jvm.Cond.declares ({ cls := "java/util/Iterator", name := "next", desc := "()Ljava/lang/Object;" } : Jvm.MethodName)) ∈ lw_tbl := List.mem_append_right _ (List.mem_of_getElem? (i := 2115) (by decide +kernel))
theorem wr_2114 : (Jvm.Cond.interfaceMethod "java/util/Iterator" "java/util/Iterator" "next" "()Ljava/lang/Object;") ∈ lw_tbl := List.mem_append_right _ (List.mem_of_getElem? (i := 2114) (by decide +kernel))
theorem wr_2119 : (Jvm.Cond.publicMethod ({ cls := "java/util/ArrayList$Itr", name := "next", desc := "()Ljava/lang/Object;" } : Jvm.MethodName)) ∈ lw_tbl := List.mem_append_right _ (List.mem_of_getElem? (i := 2119) (by decide +kernel))
theorem wr_2117 : (Jvm.Cond.unhidden "java/util/ArrayList$Itr" "next" "()Ljava/lang/Object;") ∈ lw_tbl := List.mem_append_right _ (List.mem_of_getElem? (i := 2117) (by decide +kernel))
set_option maxHeartbeats 4000000 in
set_option maxRecDepth 100000 in
theorem pz_entry {s : State} {b : Nat} (hgv : (Jvm.Cond.and given_1 narrow_1).before #[Value.ref b] s = true) (hts : ∀ w ∈ lw_tbl, w.before #[Value.ref b] s = true) : ∃ (G : pz_G) (X : Nat → Nat), va_K G.1 pz_cl (pz_T G) s ∧ pz_E X (fun q => s.heap.size ≤ q) s s.heap := by
  have hf := flat_of_before _ hgv
  have hg : ∀ w ∈ lw_good, w.before #[Value.ref b] s = true := fun w h => hts w (List.mem_filter.mp h).1
  have hA : ∀ a : Nat, a < s.heap.size → ¬ (fun q : Nat => s.heap.size ≤ q) a := fun a h => Nat.not_le.mpr h
  obtain ⟨c0, i0, k0⟩ := u_known (C := "Sourcewright$Blocks") (T := TX0) (N := 15) (n := 15) hg inX0 (hts _ wr_126)
  obtain ⟨c1, i1, k1⟩ := u_known (C := "Sourcewright$Builder") (T := TX1) (N := 16) (n := 16) hg inX1 (hts _ wr_332)
  obtain ⟨c2, i2, k2⟩ := u_known (C := "Sourcewright$Code") (T := TX2) (N := 3) (n := 3) hg inX2 (hts _ wr_57)
  obtain ⟨c3, i3, k3⟩ := u_known (C := "Sourcewright$Life") (T := TX3) (N := 3) (n := 3) hg inX3 (hts _ wr_235)
  obtain ⟨c4, i4, k4⟩ := u_known (C := "Sourcewright$Machine") (T := TX4) (N := 10) (n := 10) hg inX4 (hts _ wr_407)
  obtain ⟨c5, i5, k5⟩ := u_known (C := "Sourcewright$Reading") (T := TX5) (N := 10) (n := 10) hg inX5 (hts _ wr_74)
  obtain ⟨c6, i6, k6⟩ := u_known (C := "Sourcewright$Scribe") (T := TX6) (N := 8) (n := 8) hg inX6 (hts _ wr_251)
  obtain ⟨c7, i7, k7⟩ := u_known (C := "Sourcewright$Sets") (T := TX7) (N := 2) (n := 2) hg inX7 (hts _ wr_80)
  obtain ⟨c8, i8, k8⟩ := u_known (C := "Sourcewright$Shelf") (T := TX8) (N := 3) (n := 3) hg inX8 (hts _ wr_391)
  obtain ⟨c9, i9, k9⟩ := u_known (C := "Sourcewright$Tour") (T := TX9) (N := 14) (n := 14) hg inX9 (hts _ wr_257)
  obtain ⟨c10, i10, k10⟩ := u_known (C := "Sourcewright$Ways") (T := TX10) (N := 16) (n := 16) hg inX10 (hts _ wr_178)
  obtain ⟨c11, i11, k11⟩ := u_known (C := "Sourcewright") (T := TX11) (N := 20) (n := 20) hg inX11 (hts _ wr_49)
  obtain ⟨c12, i12, k12⟩ := u_known (C := "SourcewrightModel$Reading") (T := TX13) (N := 4) (n := 4) hg inX13 (hts _ wr_2048)
  obtain ⟨c13, i13, k13⟩ := u_known (C := "SourcewrightModel$Run") (T := TX14) (N := 3) (n := 3) hg inX14 (hts _ wr_3061)
  obtain ⟨c14, i14, k14⟩ := u_known (C := "SourcewrightModel$Writer") (T := TX15) (N := 6) (n := 6) hg inX15 (hts _ wr_2960)
  obtain ⟨c15, i15, k15⟩ := u_known (C := "SourcewrightModel") (T := TX16) (N := 7) (n := 7) hg inX16 (hts _ wr_1779)
  obtain ⟨c16, i16, k16⟩ := u_known (C := "java/lang/Integer") (T := TJ6) (N := 1) (n := 1) hg inJ6 (hts _ wr_1858)
  obtain ⟨c17, i17, k17⟩ := u_known (C := "java/util/ArrayList") (T := TJx4a65c) (N := 3) (n := 3) hg inJx4a65c (hts _ wr_1785)
  obtain ⟨c18, i18, k18⟩ := u_known (C := "java/util/ArrayList$Itr") (T := TJx35411) (N := 4) (n := 4) hg inJx35411 (hts _ wr_2084)
  obtain ⟨a0, ka0, co0, fa0, ga0, ea0⟩ := Cond.arrayClass_spec (hts _ wr_72)
  obtain ⟨a1, ka1, co1, fa1, ga1, ea1⟩ := Cond.arrayClass_spec (hts _ wr_124)
  obtain ⟨a2, ka2, co2, fa2, ga2, ea2⟩ := Cond.arrayClass_spec (hts _ wr_92)
  obtain ⟨a3, ka3, co3, fa3, ga3, ea3⟩ := Cond.arrayClass_spec (hts _ wr_305)
  obtain ⟨a4, ka4, co4, fa4, ga4, ea4⟩ := Cond.arrayClass_spec (hts _ wr_3198)
  obtain ⟨co5, a5, ka5, hc5, _, ga5, ea5, fa5⟩ := Cond.arrayOver_spec (hts _ wr_1935)
  obtain ⟨co6, a6, ka6, hc6, ga6, ea6, fa6⟩ := pz_over (hts _ wr_2230)
  obtain ⟨t0, et0, T0v⟩ := va_Tof (tm := (Jvm.Term.static "Sourcewright" "PLAIN" "[I")) (ty := .int) (N := 16) (f := pz_fP) (A := fun q => s.heap.size ≤ q) (by decide) (hf _ wf_0) (va_eqt (hf _ wf_1)) (fun j hj => by
    match j, hj with
    | 0, _ => exact va_eqt (hf _ wf_2)
    | 1, _ => exact va_eqt (hf _ wf_3)
    | 2, _ => exact va_eqt (hf _ wf_4)
    | 3, _ => exact va_eqt (hf _ wf_5)
    | 4, _ => exact va_eqt (hf _ wf_6)
    | 5, _ => exact va_eqt (hf _ wf_7)
    | 6, _ => exact va_eqt (hf _ wf_8)
    | 7, _ => exact va_eqt (hf _ wf_9)
    | 8, _ => exact va_eqt (hf _ wf_10)
    | 9, _ => exact va_eqt (hf _ wf_11)
    | 10, _ => exact va_eqt (hf _ wf_12)
    | 11, _ => exact va_eqt (hf _ wf_13)
    | 12, _ => exact va_eqt (hf _ wf_14)
    | 13, _ => exact va_eqt (hf _ wf_15)
    | 14, _ => exact va_eqt (hf _ wf_16)
    | 15, _ => exact va_eqt (hf _ wf_17)
    | k + 16, h => exact absurd h (by omega)) hA
  have z0 := va_Zref (hts _ wr_549) (hts _ wr_1) et0 hA
  obtain ⟨t1, et1, T1v⟩ := va_Tof (tm := (Jvm.Term.static "Sourcewright" "BRANCHES" "[I")) (ty := .int) (N := 16) (f := pz_fB) (A := fun q => s.heap.size ≤ q) (by decide) (hf _ wf_18) (va_eqt (hf _ wf_19)) (fun j hj => by
    match j, hj with
    | 0, _ => exact va_eqt (hf _ wf_20)
    | 1, _ => exact va_eqt (hf _ wf_21)
    | 2, _ => exact va_eqt (hf _ wf_22)
    | 3, _ => exact va_eqt (hf _ wf_23)
    | 4, _ => exact va_eqt (hf _ wf_24)
    | 5, _ => exact va_eqt (hf _ wf_25)
    | 6, _ => exact va_eqt (hf _ wf_26)
    | 7, _ => exact va_eqt (hf _ wf_27)
    | 8, _ => exact va_eqt (hf _ wf_28)
    | 9, _ => exact va_eqt (hf _ wf_29)
    | 10, _ => exact va_eqt (hf _ wf_30)
    | 11, _ => exact va_eqt (hf _ wf_31)
    | 12, _ => exact va_eqt (hf _ wf_32)
    | 13, _ => exact va_eqt (hf _ wf_33)
    | 14, _ => exact va_eqt (hf _ wf_34)
    | 15, _ => exact va_eqt (hf _ wf_35)
    | k + 16, h => exact absurd h (by omega)) hA
  have z1 := va_Zref (hts _ wr_547) (hts _ wr_1) et1 hA
  obtain ⟨t2, et2, T2v⟩ := va_Tof (tm := (Jvm.Term.static "Sourcewright" "SPANS" "[I")) (ty := .int) (N := 19) (f := pz_fS) (A := fun q => s.heap.size ≤ q) (by decide) (hf _ wf_36) (va_eqt (hf _ wf_37)) (fun j hj => by
    match j, hj with
    | 0, _ => exact va_eqt (hf _ wf_38)
    | 1, _ => exact va_eqt (hf _ wf_39)
    | 2, _ => exact va_eqt (hf _ wf_40)
    | 3, _ => exact va_eqt (hf _ wf_41)
    | 4, _ => exact va_eqt (hf _ wf_42)
    | 5, _ => exact va_eqt (hf _ wf_43)
    | 6, _ => exact va_eqt (hf _ wf_44)
    | 7, _ => exact va_eqt (hf _ wf_45)
    | 8, _ => exact va_eqt (hf _ wf_46)
    | 9, _ => exact va_eqt (hf _ wf_47)
    | 10, _ => exact va_eqt (hf _ wf_48)
    | 11, _ => exact va_eqt (hf _ wf_49)
    | 12, _ => exact va_eqt (hf _ wf_50)
    | 13, _ => exact va_eqt (hf _ wf_51)
    | 14, _ => exact va_eqt (hf _ wf_52)
    | 15, _ => exact va_eqt (hf _ wf_53)
    | 16, _ => exact va_eqt (hf _ wf_54)
    | 17, _ => exact va_eqt (hf _ wf_55)
    | 18, _ => exact va_eqt (hf _ wf_56)
    | k + 19, h => exact absurd h (by omega)) hA
  have z2 := va_Zref (hts _ wr_554) (hts _ wr_1) et2 hA
  obtain ⟨t3, et3, T3v⟩ := va_Tof (tm := (Jvm.Term.static "java/util/ArrayList" "DEFAULTCAPACITY_EMPTY_ELEMENTDATA" "[Ljava/lang/Object;")) (ty := .object "java/lang/Object") (N := 0) (f := fun _ => .null) (A := fun q => s.heap.size ≤ q) (by decide) (hf _ wf_57) (va_eqt (hf _ wf_58)) (fun j hj => absurd hj (Nat.not_lt_zero j)) hA
  have z3 := va_Zref (hts _ wr_1797) (hts _ wr_16) et3 hA
  have o3 := va_Oof (hf _ wf_59) et3 hA
  have hlen := va_eqt (hf _ wf_60)
  obtain ⟨ad, hC, hel⟩ := vb_Cof (st := (Jvm.Term.static "java/lang/Integer$IntegerCache" "cache" "[Ljava/lang/Integer;")) (A := fun q => s.heap.size ≤ q) rfl hlen (hf _ wf_61) hA
  obtain ⟨t4, et4, T4v⟩ := va_Tof (tm := (Jvm.Term.static "java/lang/Integer$IntegerCache" "cache" "[Ljava/lang/Integer;")) (ty := .object "java/lang/Integer") (N := 256) (f := fun k => .ref (ad k)) (A := fun q => s.heap.size ≤ q) (by decide) (hf _ wf_62) hlen hel hA
  have z4 := va_Zref (hts _ wr_1856) (hts _ wr_25) et4 hA
  have z5 := va_Zof (hts _ wr_1854) (hts _ wr_25) (va_eqi (hf _ wf_63)) hA
  have y0 : vx_Zq Bundle.tN "UNASSIGNED_STACK" Bundle.steD (fun q => s.heap.size ≤ q) s s.heap := vx_Zqof (hts _ wr_1291) (hts _ wr_17) (hf _ wf_64) hA
  have y1 : vx_Zq Bundle.tN "SUPPRESSED_SENTINEL" Bundle.listD (fun q => s.heap.size ≤ q) s s.heap := vx_Zqof (hts _ wr_1293) (hts _ wr_17) (hf _ wf_65) hA
  obtain ⟨mi, hmi⟩ := va_Mi.of (hf _ wf_66)
  obtain ⟨s0, _, _, _, es0, _⟩ := Cond.exactly_spec (hf _ wf_67)
  obtain ⟨s1, _, _, _, es1, _⟩ := Cond.exactly_spec (hf _ wf_68)
  obtain ⟨s2, _, _, _, es2, _⟩ := Cond.exactly_spec (hf _ wf_69)
  obtain ⟨s3, _, _, _, es3, _⟩ := Cond.exactly_spec (hf _ wf_70)
  obtain ⟨s4, _, _, _, es4, _⟩ := Cond.exactly_spec (hf _ wf_71)
  obtain ⟨s5, _, _, _, es5, _⟩ := Cond.exactly_spec (hf _ wf_72)
  have hstr : ∀ q ∈ pz_strs, ∃ a : Nat, vk_R q.1 q.2.1 q.2.2 a s := fun q hq => by
    simp only [pz_strs, List.mem_cons, List.not_mem_nil, or_false] at hq
    rcases hq with rfl | rfl | rfl | rfl | rfl | rfl
    · exact ⟨s0, vk_R.of (hts _ wr_1310) es0⟩
    · exact ⟨s1, vk_R.of (hts _ wr_1397) es1⟩
    · exact ⟨s2, vk_R.of (hts _ wr_1719) es2⟩
    · exact ⟨s3, vk_R.of (hts _ wr_1769) es3⟩
    · exact ⟨s4, vk_R.of (hts _ wr_1476) es4⟩
    · exact ⟨s5, vk_R.of (hts _ wr_1711) es5⟩
  have hnx : ∀ w ∈ pz_nx, va_Nw w s := fun w hw => va_Nw.of (pz_wk_tab (List.all_eq_true.mp pz_nx_wk w hw)) (hts w (List.mem_append_right _ (of_decide_eq_true (List.all_eq_true.mp pz_nx_in w hw))))
  have hnc : ∀ q ∈ pz_ncs, va_Nc q.1 q.2 s := fun q hq => by
    simp only [pz_ncs, List.mem_cons, List.not_mem_nil, or_false] at hq
    subst hq
    exact va_Nc.of (hf _ wf_73)
  have hfw : ∀ q ∈ pz_fws, va_Fw q.1 q.2.1 q.2.2 s := fun q hq => by
    simp only [pz_fws, List.mem_cons, List.not_mem_nil, or_false] at hq
    rcases hq with rfl | rfl | rfl
    · exact va_Fw.of (hts _ wr_2067) (hts _ wr_2066) (hts _ wr_2072) (hts _ wr_2070) (hts _ wr_2068)
    · exact va_Fw.of (hts _ wr_2105) (hts _ wr_2104) (hts _ wr_2110) (hts _ wr_2108) (hts _ wr_2106)
    · exact va_Fw.of (hts _ wr_2115) (hts _ wr_2114) (hts _ wr_2119) (hts _ wr_2117) (hts _ wr_2106)
  refine ⟨((fun k => ([c0, c1, c2, c3, c4, c5, c6, c7, c8, c9, c10, c11, c12, c13, c14, c15, c16, c17, c18] : List ClassId).getD k c0, fun k => ([i0, i1, i2, i3, i4, i5, i6, i7, i8, i9, i10, i11, i12, i13, i14, i15, i16, i17, i18] : List (Nat → Nat)).getD k i0), fun k => ([a0, a1, a2, a3, a4, a5, a6] : List ClassId).getD k a0), fun k => if k < 1000 then ([t0, t1, t2, t3, t4, mi] : List Nat).getD k 0 else ad (k - 1000), ⟨?_, ?_⟩, ?_⟩
  · intro k q hq
    match k, hq with
    | 0, hq => cases hq; exact k0
    | 1, hq => cases hq; exact k1
    | 2, hq => cases hq; exact k2
    | 3, hq => cases hq; exact k3
    | 4, hq => cases hq; exact k4
    | 5, hq => cases hq; exact k5
    | 6, hq => cases hq; exact k6
    | 7, hq => cases hq; exact k7
    | 8, hq => cases hq; exact k8
    | 9, hq => cases hq; exact k9
    | 10, hq => cases hq; exact k10
    | 11, hq => cases hq; exact k11
    | 12, hq => cases hq; exact k12
    | 13, hq => cases hq; exact k13
    | 14, hq => cases hq; exact k14
    | 15, hq => cases hq; exact k15
    | 16, hq => cases hq; exact k16
    | 17, hq => cases hq; exact k17
    | 18, hq => cases hq; exact k18
    | k + 19, hq => cases hq
  · intro k q hq
    match k, hq with
    | 0, hq => cases hq; exact ⟨fun N z => ⟨(fun k h => by cases h), ka0, ga0, co0, ea0⟩, fa0⟩
    | 1, hq => cases hq; exact ⟨fun N z => ⟨(fun k h => by cases h), ka1, ga1, co1, ea1⟩, fa1⟩
    | 2, hq => cases hq; exact ⟨fun N z => ⟨(fun k h => by cases h), ka2, ga2, co2, ea2⟩, fa2⟩
    | 3, hq => cases hq; exact ⟨fun N z => ⟨(fun k h => by cases h), ka3, ga3, co3, ea3⟩, fa3⟩
    | 4, hq => cases hq; exact ⟨fun N z => ⟨(fun k h => by cases h), ka4, ga4, co4, ea4⟩, fa4⟩
    | 5, hq => cases hq; exact ⟨fun N z => ⟨(fun k h => by cases h), ka5, ga5, co5, ea5⟩, ka5, co5, ga5, ea5, hc5, fa5⟩
    | 6, hq => cases hq; exact ⟨fun N z => ⟨(fun k h => by cases h), ka6, ga6, co6, ea6⟩, fa6⟩
    | k + 7, hq => cases hq
  · have hX : (fun k : Nat => (if 1000 + k < 1000 then ([t0, t1, t2, t3, t4, mi] : List Nat).getD (1000 + k) 0 else ad (1000 + k - 1000))) = ad := funext fun k => by rw [if_neg (by omega), Nat.add_sub_cancel_left]
    have hX2 : (fun k : Nat => Value.ref (if 1000 + k < 1000 then ([t0, t1, t2, t3, t4, mi] : List Nat).getD (1000 + k) 0 else ad (1000 + k - 1000))) = fun k => .ref (ad k) := funext fun k => congrArg Value.ref (congrFun hX k)
    refine ⟨⟨z0, T0v⟩, ⟨z1, T1v⟩, ⟨z2, T2v⟩, ⟨z3, T3v, o3⟩, ⟨z5, z4, ?_, ?_⟩, ⟨y0, y1⟩, hmi, hstr, hnx, hnc, va_AO.of (hts _ wr_1935), ?_, hfw⟩
    · show va_T _ _ _ (fun k : Nat => Value.ref (if 1000 + k < 1000 then ([t0, t1, t2, t3, t4, mi] : List Nat).getD (1000 + k) 0 else ad (1000 + k - 1000))) _ _ _
      rw [hX2]; exact T4v
    · show vb_C (fun k : Nat => (if 1000 + k < 1000 then ([t0, t1, t2, t3, t4, mi] : List Nat).getD (1000 + k) 0 else ad (1000 + k - 1000))) _ _ _
      rw [hX]; exact hC
    · exact ⟨co6, a6, ka6, hc6, ga6, ea6, fa6⟩
