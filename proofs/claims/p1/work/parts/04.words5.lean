theorem wqs_0 : (Jvm.Cond.selects "Sourcewright" ({ cls := "Sourcewright", name := "forget", desc := "()V" } : Jvm.MethodName) ({ cls := "Sourcewright", name := "forget", desc := "()V" } : Jvm.MethodName)) ∈ lw_good := pz_inS (List.mem_of_getElem? (i := 0) (by decide +kernel)) rfl
theorem wqs_1 : (Jvm.Cond.selects "Sourcewright" ({ cls := "Sourcewright", name := "read", desc := "()V" } : Jvm.MethodName) ({ cls := "Sourcewright", name := "read", desc := "()V" } : Jvm.MethodName)) ∈ lw_good := pz_inS (List.mem_of_getElem? (i := 1) (by decide +kernel)) rfl
theorem wqs_2 : (Jvm.Cond.selects "Sourcewright$Code" ({ cls := "Sourcewright$Code", name := "find", desc := "(I)I" } : Jvm.MethodName) ({ cls := "Sourcewright$Code", name := "find", desc := "(I)I" } : Jvm.MethodName)) ∈ lw_good := pz_inS (List.mem_of_getElem? (i := 2) (by decide +kernel)) rfl
theorem wqs_4 : (Jvm.Cond.selects "Sourcewright$Reading" ({ cls := "Sourcewright$Reading", name := "findReturns", desc := "()V" } : Jvm.MethodName) ({ cls := "Sourcewright$Reading", name := "findReturns", desc := "()V" } : Jvm.MethodName)) ∈ lw_good := pz_inS (List.mem_of_getElem? (i := 4) (by decide +kernel)) rfl
theorem wqs_6 : (Jvm.Cond.selects "Sourcewright$Reading" ({ cls := "Sourcewright$Reading", name := "findFunctions", desc := "([II)V" } : Jvm.MethodName) ({ cls := "Sourcewright$Reading", name := "findFunctions", desc := "([II)V" } : Jvm.MethodName)) ∈ lw_good := pz_inS (List.mem_of_getElem? (i := 6) (by decide +kernel)) rfl
theorem wqs_7 : (Jvm.Cond.selects "Sourcewright$Reading" ({ cls := "Sourcewright$Reading", name := "noteEntry", desc := "(I)Z" } : Jvm.MethodName) ({ cls := "Sourcewright$Reading", name := "noteEntry", desc := "(I)Z" } : Jvm.MethodName)) ∈ lw_good := pz_inS (List.mem_of_getElem? (i := 7) (by decide +kernel)) rfl
theorem wqs_10 : (Jvm.Cond.selects "Sourcewright$Reading" ({ cls := "Sourcewright$Reading", name := "markBytes", desc := "()V" } : Jvm.MethodName) ({ cls := "Sourcewright$Reading", name := "markBytes", desc := "()V" } : Jvm.MethodName)) ∈ lw_good := pz_inS (List.mem_of_getElem? (i := 10) (by decide +kernel)) rfl
theorem wqs_58 : (Jvm.Cond.selects "Sourcewright" ({ cls := "Sourcewright", name := "build", desc := "()V" } : Jvm.MethodName) ({ cls := "Sourcewright", name := "build", desc := "()V" } : Jvm.MethodName)) ∈ lw_good := pz_inS (List.mem_of_getElem? (i := 58) (by decide +kernel)) rfl
theorem wqs_59 : (Jvm.Cond.selects "Sourcewright$Builder" ({ cls := "Sourcewright$Builder", name := "put", desc := "(I)V" } : Jvm.MethodName) ({ cls := "Sourcewright$Builder", name := "put", desc := "(I)V" } : Jvm.MethodName)) ∈ lw_good := pz_inS (List.mem_of_getElem? (i := 59) (by decide +kernel)) rfl
theorem wqs_65 : (Jvm.Cond.selects "Sourcewright" ({ cls := "Sourcewright", name := "isAgreed", desc := "(I)Z" } : Jvm.MethodName) ({ cls := "Sourcewright", name := "isAgreed", desc := "(I)Z" } : Jvm.MethodName)) ∈ lw_good := pz_inS (List.mem_of_getElem? (i := 65) (by decide +kernel)) rfl
theorem wqs_66 : (Jvm.Cond.selects "Sourcewright$Machine" ({ cls := "Sourcewright$Machine", name := "reset", desc := "()V" } : Jvm.MethodName) ({ cls := "Sourcewright$Machine", name := "reset", desc := "()V" } : Jvm.MethodName)) ∈ lw_good := pz_inS (List.mem_of_getElem? (i := 66) (by decide +kernel)) rfl
theorem wqs_69 : (Jvm.Cond.selects "Sourcewright$Machine" ({ cls := "Sourcewright$Machine", name := "perform", desc := "(LSourcewright$Code;I)C" } : Jvm.MethodName) ({ cls := "Sourcewright$Machine", name := "perform", desc := "(LSourcewright$Code;I)C" } : Jvm.MethodName)) ∈ lw_good := pz_inS (List.mem_of_getElem? (i := 69) (by decide +kernel)) rfl
theorem wqs_72 : (Jvm.Cond.selects "Sourcewright$Machine" ({ cls := "Sourcewright$Machine", name := "branch", desc := "(LSourcewright$Code;I)C" } : Jvm.MethodName) ({ cls := "Sourcewright$Machine", name := "branch", desc := "(LSourcewright$Code;I)C" } : Jvm.MethodName)) ∈ lw_good := pz_inS (List.mem_of_getElem? (i := 72) (by decide +kernel)) rfl
theorem wqs_73 : (Jvm.Cond.selects "Sourcewright$Machine" ({ cls := "Sourcewright$Machine", name := "isTaken", desc := "(I)Z" } : Jvm.MethodName) ({ cls := "Sourcewright$Machine", name := "isTaken", desc := "(I)Z" } : Jvm.MethodName)) ∈ lw_good := pz_inS (List.mem_of_getElem? (i := 73) (by decide +kernel)) rfl
theorem wqs_75 : (Jvm.Cond.selects "Sourcewright" ({ cls := "Sourcewright", name := "checkPlace", desc := "(I)V" } : Jvm.MethodName) ({ cls := "Sourcewright", name := "checkPlace", desc := "(I)V" } : Jvm.MethodName)) ∈ lw_good := pz_inS (List.mem_of_getElem? (i := 75) (by decide +kernel)) rfl
theorem wqs_77 : (Jvm.Cond.selects "Sourcewright" ({ cls := "Sourcewright", name := "checkFunction", desc := "(I)V" } : Jvm.MethodName) ({ cls := "Sourcewright", name := "checkFunction", desc := "(I)V" } : Jvm.MethodName)) ∈ lw_good := pz_inS (List.mem_of_getElem? (i := 77) (by decide +kernel)) rfl
theorem wqs_78 : (Jvm.Cond.selects "Sourcewright" ({ cls := "Sourcewright", name := "checkBlock", desc := "(II)V" } : Jvm.MethodName) ({ cls := "Sourcewright", name := "checkBlock", desc := "(II)V" } : Jvm.MethodName)) ∈ lw_good := pz_inS (List.mem_of_getElem? (i := 78) (by decide +kernel)) rfl
theorem wqs_79 : (Jvm.Cond.selects "Sourcewright" ({ cls := "Sourcewright", name := "checkInstruction", desc := "(II)V" } : Jvm.MethodName) ({ cls := "Sourcewright", name := "checkInstruction", desc := "(II)V" } : Jvm.MethodName)) ∈ lw_good := pz_inS (List.mem_of_getElem? (i := 79) (by decide +kernel)) rfl
theorem wqs_80 : (Jvm.Cond.selects "Sourcewright" ({ cls := "Sourcewright", name := "checkCompiled", desc := "()V" } : Jvm.MethodName) ({ cls := "Sourcewright", name := "checkCompiled", desc := "()V" } : Jvm.MethodName)) ∈ lw_good := pz_inS (List.mem_of_getElem? (i := 80) (by decide +kernel)) rfl
theorem wqs_81 : (Jvm.Cond.selects "Sourcewright" ({ cls := "Sourcewright", name := "checkSteps", desc := "(I)V" } : Jvm.MethodName) ({ cls := "Sourcewright", name := "checkSteps", desc := "(I)V" } : Jvm.MethodName)) ∈ lw_good := pz_inS (List.mem_of_getElem? (i := 81) (by decide +kernel)) rfl
theorem wqs_84 : (Jvm.Cond.selects "java/util/ArrayList" ({ cls := "java/util/ArrayList", name := "add", desc := "(Ljava/lang/Object;[Ljava/lang/Object;I)V" } : Jvm.MethodName) ({ cls := "java/util/ArrayList", name := "add", desc := "(Ljava/lang/Object;[Ljava/lang/Object;I)V" } : Jvm.MethodName)) ∈ lw_good := pz_inS (List.mem_of_getElem? (i := 84) (by decide +kernel)) rfl
theorem wqs_85 : (Jvm.Cond.selects "java/util/ArrayList" ({ cls := "java/util/ArrayList", name := "grow", desc := "()[Ljava/lang/Object;" } : Jvm.MethodName) ({ cls := "java/util/ArrayList", name := "grow", desc := "()[Ljava/lang/Object;" } : Jvm.MethodName)) ∈ lw_good := pz_inS (List.mem_of_getElem? (i := 85) (by decide +kernel)) rfl
theorem wqs_86 : (Jvm.Cond.selects "java/util/ArrayList" ({ cls := "java/util/ArrayList", name := "grow", desc := "(I)[Ljava/lang/Object;" } : Jvm.MethodName) ({ cls := "java/util/ArrayList", name := "grow", desc := "(I)[Ljava/lang/Object;" } : Jvm.MethodName)) ∈ lw_good := pz_inS (List.mem_of_getElem? (i := 86) (by decide +kernel)) rfl
theorem wqs_87 : (Jvm.Cond.selects "SourcewrightModel" ({ cls := "SourcewrightModel", name := "noByte", desc := "(I)Z" } : Jvm.MethodName) ({ cls := "SourcewrightModel", name := "noByte", desc := "(I)Z" } : Jvm.MethodName)) ∈ lw_good := pz_inS (List.mem_of_getElem? (i := 87) (by decide +kernel)) rfl
theorem wqs_88 : (Jvm.Cond.selects "SourcewrightModel" ({ cls := "SourcewrightModel", name := "read", desc := "()LSourcewrightModel$Reading;" } : Jvm.MethodName) ({ cls := "SourcewrightModel", name := "read", desc := "()LSourcewrightModel$Reading;" } : Jvm.MethodName)) ∈ lw_good := pz_inS (List.mem_of_getElem? (i := 88) (by decide +kernel)) rfl
theorem wqs_89 : (Jvm.Cond.selects "SourcewrightModel$Reading" ({ cls := "SourcewrightModel$Reading", name := "walked", desc := "([Z)[Z" } : Jvm.MethodName) ({ cls := "SourcewrightModel$Reading", name := "walked", desc := "([Z)[Z" } : Jvm.MethodName)) ∈ lw_good := pz_inS (List.mem_of_getElem? (i := 89) (by decide +kernel)) rfl
theorem wqs_99 : (Jvm.Cond.selects "SourcewrightModel" ({ cls := "SourcewrightModel", name := "function", desc := "(I)LSourcewrightModel$Function;" } : Jvm.MethodName) ({ cls := "SourcewrightModel", name := "function", desc := "(I)LSourcewrightModel$Function;" } : Jvm.MethodName)) ∈ lw_good := pz_inS (List.mem_of_getElem? (i := 99) (by decide +kernel)) rfl
theorem wqs_101 : (Jvm.Cond.selects "SourcewrightModel" ({ cls := "SourcewrightModel", name := "withBlock", desc := "(II)LSourcewrightModel$Function;" } : Jvm.MethodName) ({ cls := "SourcewrightModel", name := "withBlock", desc := "(II)LSourcewrightModel$Function;" } : Jvm.MethodName)) ∈ lw_good := pz_inS (List.mem_of_getElem? (i := 101) (by decide +kernel)) rfl
theorem wqs_103 : (Jvm.Cond.selects "SourcewrightModel" ({ cls := "SourcewrightModel", name := "withPlace", desc := "(II)LSourcewrightModel$Function;" } : Jvm.MethodName) ({ cls := "SourcewrightModel", name := "withPlace", desc := "(II)LSourcewrightModel$Function;" } : Jvm.MethodName)) ∈ lw_good := pz_inS (List.mem_of_getElem? (i := 103) (by decide +kernel)) rfl
theorem wqs_115 : (Jvm.Cond.selects "SourcewrightModel" ({ cls := "SourcewrightModel", name := "back", desc := "()[I" } : Jvm.MethodName) ({ cls := "SourcewrightModel", name := "back", desc := "()[I" } : Jvm.MethodName)) ∈ lw_good := pz_inS (List.mem_of_getElem? (i := 115) (by decide +kernel)) rfl
theorem wqs_116 : (Jvm.Cond.selects "SourcewrightModel$Writer" ({ cls := "SourcewrightModel$Writer", name := "goTo", desc := "(I)V" } : Jvm.MethodName) ({ cls := "SourcewrightModel$Writer", name := "goTo", desc := "(I)V" } : Jvm.MethodName)) ∈ lw_good := pz_inS (List.mem_of_getElem? (i := 116) (by decide +kernel)) rfl
theorem wqs_121 : (Jvm.Cond.selects "SourcewrightModel" ({ cls := "SourcewrightModel", name := "agrees", desc := "([II)Z" } : Jvm.MethodName) ({ cls := "SourcewrightModel", name := "agrees", desc := "([II)Z" } : Jvm.MethodName)) ∈ lw_good := pz_inS (List.mem_of_getElem? (i := 121) (by decide +kernel)) rfl
theorem inX0 : ∀ w ∈ u_ws "Sourcewright$Blocks" TX0 15, w ∈ lw_good := fun w hw => by
  obtain ⟨k, hk, rfl⟩ := List.mem_map.mp hw
  have hk := List.mem_range.mp hk
  match k, hk with
  | 0, _ => exact wq_146
  | 1, _ => exact wq_148
  | 2, _ => exact wq_150
  | 3, _ => exact wq_152
  | 4, _ => exact wq_154
  | 5, _ => exact wq_156
  | 6, _ => exact wq_158
  | 7, _ => exact wq_160
  | 8, _ => exact wq_162
  | 9, _ => exact wq_164
  | 10, _ => exact wq_166
  | 11, _ => exact wq_168
  | 12, _ => exact wq_170
  | 13, _ => exact wq_172
  | 14, _ => exact wq_174
  | k + 15, h => exact absurd h (by omega)
theorem pz_dfX0 : ∀ j, j < 15 → defaultValue (tyX0 j) = vp_V [.null, .null, .null, .null, .null, .null, .null, .null, .null, .null, .null, .null, .int 0, .int 0, .int 0] j := fun j hj => match j, hj with
  | 0, _ => rfl
  | 1, _ => rfl
  | 2, _ => rfl
  | 3, _ => rfl
  | 4, _ => rfl
  | 5, _ => rfl
  | 6, _ => rfl
  | 7, _ => rfl
  | 8, _ => rfl
  | 9, _ => rfl
  | 10, _ => rfl
  | 11, _ => rfl
  | 12, _ => rfl
  | 13, _ => rfl
  | 14, _ => rfl
  | k + 15, h => absurd h (by omega)
theorem inX1 : ∀ w ∈ u_ws "Sourcewright$Builder" TX1 16, w ∈ lw_good := fun w hw => by
  obtain ⟨k, hk, rfl⟩ := List.mem_map.mp hw
  have hk := List.mem_range.mp hk
  match k, hk with
  | 0, _ => exact wq_357
  | 1, _ => exact wq_359
  | 2, _ => exact wq_361
  | 3, _ => exact wq_363
  | 4, _ => exact wq_365
  | 5, _ => exact wq_367
  | 6, _ => exact wq_369
  | 7, _ => exact wq_371
  | 8, _ => exact wq_373
  | 9, _ => exact wq_375
  | 10, _ => exact wq_377
  | 11, _ => exact wq_379
  | 12, _ => exact wq_381
  | 13, _ => exact wq_383
  | 14, _ => exact wq_385
  | 15, _ => exact wq_387
  | k + 16, h => exact absurd h (by omega)
theorem pz_dfX1 : ∀ j, j < 16 → defaultValue (tyX1 j) = vp_V [.null, .null, .null, .null, .null, .null, .null, .null, .null, .null, .null, .null, .int 0, .int 0, .int 0, .int 0] j := fun j hj => match j, hj with
  | 0, _ => rfl
  | 1, _ => rfl
  | 2, _ => rfl
  | 3, _ => rfl
  | 4, _ => rfl
  | 5, _ => rfl
  | 6, _ => rfl
  | 7, _ => rfl
  | 8, _ => rfl
  | 9, _ => rfl
  | 10, _ => rfl
  | 11, _ => rfl
  | 12, _ => rfl
  | 13, _ => rfl
  | 14, _ => rfl
  | 15, _ => rfl
  | k + 16, h => absurd h (by omega)
theorem inX2 : ∀ w ∈ u_ws "Sourcewright$Code" TX2 3, w ∈ lw_good := fun w hw => by
  obtain ⟨k, hk, rfl⟩ := List.mem_map.mp hw
  have hk := List.mem_range.mp hk
  match k, hk with
  | 0, _ => exact wq_65
  | 1, _ => exact wq_67
  | 2, _ => exact wq_69
  | k + 3, h => exact absurd h (by omega)
theorem pz_dfX2 : ∀ j, j < 3 → defaultValue (tyX2 j) = vp_V [.null, .null, .int 0] j := fun j hj => match j, hj with
  | 0, _ => rfl
  | 1, _ => rfl
  | 2, _ => rfl
  | k + 3, h => absurd h (by omega)
theorem inX3 : ∀ w ∈ u_ws "Sourcewright$Life" TX3 3, w ∈ lw_good := fun w hw => by
  obtain ⟨k, hk, rfl⟩ := List.mem_map.mp hw
  have hk := List.mem_range.mp hk
  match k, hk with
  | 0, _ => exact wq_243
  | 1, _ => exact wq_245
  | 2, _ => exact wq_247
  | k + 3, h => exact absurd h (by omega)
theorem pz_dfX3 : ∀ j, j < 3 → defaultValue (tyX3 j) = vp_V [.null, .null, .null] j := fun j hj => match j, hj with
  | 0, _ => rfl
  | 1, _ => rfl
  | 2, _ => rfl
  | k + 3, h => absurd h (by omega)
theorem inX4 : ∀ w ∈ u_ws "Sourcewright$Machine" TX4 10, w ∈ lw_good := fun w hw => by
  obtain ⟨k, hk, rfl⟩ := List.mem_map.mp hw
  have hk := List.mem_range.mp hk
  match k, hk with
  | 0, _ => exact wq_422
  | 1, _ => exact wq_424
  | 2, _ => exact wq_426
  | 3, _ => exact wq_428
  | 4, _ => exact wq_430
  | 5, _ => exact wq_432
  | 6, _ => exact wq_434
  | 7, _ => exact wq_436
  | 8, _ => exact wq_438
  | 9, _ => exact wq_440
  | k + 10, h => exact absurd h (by omega)
theorem pz_dfX4 : ∀ j, j < 10 → defaultValue (tyX4 j) = vp_V [.null, .null, .null, .null, .int 0, .int 0, .int 0, .int 0, .int 0, .int 0] j := fun j hj => match j, hj with
  | 0, _ => rfl
  | 1, _ => rfl
  | 2, _ => rfl
  | 3, _ => rfl
  | 4, _ => rfl
  | 5, _ => rfl
  | 6, _ => rfl
  | 7, _ => rfl
  | 8, _ => rfl
  | 9, _ => rfl
  | k + 10, h => absurd h (by omega)
theorem inX5 : ∀ w ∈ u_ws "Sourcewright$Reading" TX5 10, w ∈ lw_good := fun w hw => by
  obtain ⟨k, hk, rfl⟩ := List.mem_map.mp hw
  have hk := List.mem_range.mp hk
  match k, hk with
  | 0, _ => exact wq_103
  | 1, _ => exact wq_105
  | 2, _ => exact wq_107
  | 3, _ => exact wq_109
  | 4, _ => exact wq_111
  | 5, _ => exact wq_113
  | 6, _ => exact wq_115
  | 7, _ => exact wq_117
  | 8, _ => exact wq_119
  | 9, _ => exact wq_121
  | k + 10, h => exact absurd h (by omega)
theorem pz_dfX5 : ∀ j, j < 10 → defaultValue (tyX5 j) = vp_V [.null, .null, .null, .null, .null, .null, .null, .int 0, .int 0, .int 0] j := fun j hj => match j, hj with
  | 0, _ => rfl
  | 1, _ => rfl
  | 2, _ => rfl
  | 3, _ => rfl
  | 4, _ => rfl
  | 5, _ => rfl
  | 6, _ => rfl
  | 7, _ => rfl
  | 8, _ => rfl
  | 9, _ => rfl
  | k + 10, h => absurd h (by omega)
theorem inX6 : ∀ w ∈ u_ws "Sourcewright$Scribe" TX6 8, w ∈ lw_good := fun w hw => by
  obtain ⟨k, hk, rfl⟩ := List.mem_map.mp hw
  have hk := List.mem_range.mp hk
  match k, hk with
  | 0, _ => exact wq_314
  | 1, _ => exact wq_316
  | 2, _ => exact wq_318
  | 3, _ => exact wq_320
  | 4, _ => exact wq_322
  | 5, _ => exact wq_324
  | 6, _ => exact wq_326
  | 7, _ => exact wq_328
  | k + 8, h => exact absurd h (by omega)
theorem pz_dfX6 : ∀ j, j < 8 → defaultValue (tyX6 j) = vp_V [.null, .null, .null, .null, .null, .null, .int 0, .int 0] j := fun j hj => match j, hj with
  | 0, _ => rfl
  | 1, _ => rfl
  | 2, _ => rfl
  | 3, _ => rfl
  | 4, _ => rfl
  | 5, _ => rfl
  | 6, _ => rfl
  | 7, _ => rfl
  | k + 8, h => absurd h (by omega)
theorem inX7 : ∀ w ∈ u_ws "Sourcewright$Sets" TX7 2, w ∈ lw_good := fun w hw => by
  obtain ⟨k, hk, rfl⟩ := List.mem_map.mp hw
  have hk := List.mem_range.mp hk
  match k, hk with
  | 0, _ => exact wq_87
  | 1, _ => exact wq_89
  | k + 2, h => exact absurd h (by omega)
theorem pz_dfX7 : ∀ j, j < 2 → defaultValue (tyX7 j) = vp_V [.null, .null] j := fun j hj => match j, hj with
  | 0, _ => rfl
  | 1, _ => rfl
  | k + 2, h => absurd h (by omega)
theorem inX8 : ∀ w ∈ u_ws "Sourcewright$Shelf" TX8 3, w ∈ lw_good := fun w hw => by
  obtain ⟨k, hk, rfl⟩ := List.mem_map.mp hw
  have hk := List.mem_range.mp hk
  match k, hk with
  | 0, _ => exact wq_399
  | 1, _ => exact wq_401
  | 2, _ => exact wq_403
  | k + 3, h => exact absurd h (by omega)
theorem pz_dfX8 : ∀ j, j < 3 → defaultValue (tyX8 j) = vp_V [.null, .null, .int 0] j := fun j hj => match j, hj with
  | 0, _ => rfl
  | 1, _ => rfl
  | 2, _ => rfl
  | k + 3, h => absurd h (by omega)
theorem inX9 : ∀ w ∈ u_ws "Sourcewright$Tour" TX9 14, w ∈ lw_good := fun w hw => by
  obtain ⟨k, hk, rfl⟩ := List.mem_map.mp hw
  have hk := List.mem_range.mp hk
  match k, hk with
  | 0, _ => exact wq_276
  | 1, _ => exact wq_278
  | 2, _ => exact wq_280
  | 3, _ => exact wq_282
  | 4, _ => exact wq_284
  | 5, _ => exact wq_286
  | 6, _ => exact wq_288
  | 7, _ => exact wq_290
  | 8, _ => exact wq_292
  | 9, _ => exact wq_294
  | 10, _ => exact wq_296
  | 11, _ => exact wq_298
  | 12, _ => exact wq_300
  | 13, _ => exact wq_302
  | k + 14, h => exact absurd h (by omega)
theorem pz_dfX9 : ∀ j, j < 14 → defaultValue (tyX9 j) = vp_V [.null, .null, .null, .int 0, .null, .null, .null, .null, .int 0, .int 0, .int 0, .int 0, .int 0, .int 0] j := fun j hj => match j, hj with
  | 0, _ => rfl
  | 1, _ => rfl
  | 2, _ => rfl
  | 3, _ => rfl
  | 4, _ => rfl
  | 5, _ => rfl
  | 6, _ => rfl
  | 7, _ => rfl
  | 8, _ => rfl
  | 9, _ => rfl
  | 10, _ => rfl
  | 11, _ => rfl
  | 12, _ => rfl
  | 13, _ => rfl
  | k + 14, h => absurd h (by omega)
theorem inX10 : ∀ w ∈ u_ws "Sourcewright$Ways" TX10 16, w ∈ lw_good := fun w hw => by
  obtain ⟨k, hk, rfl⟩ := List.mem_map.mp hw
  have hk := List.mem_range.mp hk
  match k, hk with
  | 0, _ => exact wq_201
  | 1, _ => exact wq_203
  | 2, _ => exact wq_205
  | 3, _ => exact wq_207
  | 4, _ => exact wq_209
  | 5, _ => exact wq_211
  | 6, _ => exact wq_213
  | 7, _ => exact wq_215
  | 8, _ => exact wq_217
  | 9, _ => exact wq_219
  | 10, _ => exact wq_221
  | 11, _ => exact wq_223
  | 12, _ => exact wq_225
  | 13, _ => exact wq_227
  | 14, _ => exact wq_229
  | 15, _ => exact wq_231
  | k + 16, h => exact absurd h (by omega)
theorem pz_dfX10 : ∀ j, j < 16 → defaultValue (tyX10 j) = vp_V [.null, .null, .null, .null, .null, .null, .null, .null, .null, .null, .null, .null, .null, .null, .int 0, .int 0] j := fun j hj => match j, hj with
  | 0, _ => rfl
  | 1, _ => rfl
  | 2, _ => rfl
  | 3, _ => rfl
  | 4, _ => rfl
  | 5, _ => rfl
  | 6, _ => rfl
  | 7, _ => rfl
  | 8, _ => rfl
  | 9, _ => rfl
  | 10, _ => rfl
  | 11, _ => rfl
  | 12, _ => rfl
  | 13, _ => rfl
  | 14, _ => rfl
  | 15, _ => rfl
  | k + 16, h => absurd h (by omega)
theorem inX11 : ∀ w ∈ u_ws "Sourcewright" TX11 20, w ∈ lw_good := fun w hw => by
  obtain ⟨k, hk, rfl⟩ := List.mem_map.mp hw
  have hk := List.mem_range.mp hk
  match k, hk with
  | 0, _ => exact wq_463
  | 1, _ => exact wq_465
  | 2, _ => exact wq_467
  | 3, _ => exact wq_469
  | 4, _ => exact wq_471
  | 5, _ => exact wq_473
  | 6, _ => exact wq_475
  | 7, _ => exact wq_477
  | 8, _ => exact wq_479
  | 9, _ => exact wq_481
  | 10, _ => exact wq_483
  | 11, _ => exact wq_485
  | 12, _ => exact wq_487
  | 13, _ => exact wq_489
  | 14, _ => exact wq_491
  | 15, _ => exact wq_493
  | 16, _ => exact wq_495
  | 17, _ => exact wq_497
  | 18, _ => exact wq_499
  | 19, _ => exact wq_501
  | k + 20, h => exact absurd h (by omega)
theorem pz_dfX11 : ∀ j, j < 20 → defaultValue (tyX11 j) = vp_V [.null, .null, .int 0, .null, .int 0, .int 0, .null, .null, .null, .null, .null, .null, .null, .null, .null, .null, .int 0, .int 0, .int 0, .int 0] j := fun j hj => match j, hj with
  | 0, _ => rfl
  | 1, _ => rfl
  | 2, _ => rfl
  | 3, _ => rfl
  | 4, _ => rfl
  | 5, _ => rfl
  | 6, _ => rfl
  | 7, _ => rfl
  | 8, _ => rfl
  | 9, _ => rfl
  | 10, _ => rfl
  | 11, _ => rfl
  | 12, _ => rfl
  | 13, _ => rfl
  | 14, _ => rfl
  | 15, _ => rfl
  | 16, _ => rfl
  | 17, _ => rfl
  | 18, _ => rfl
  | 19, _ => rfl
  | k + 20, h => absurd h (by omega)
theorem inX13 : ∀ w ∈ u_ws "SourcewrightModel$Reading" TX13 4, w ∈ lw_good := fun w hw => by
  obtain ⟨k, hk, rfl⟩ := List.mem_map.mp hw
  have hk := List.mem_range.mp hk
  match k, hk with
  | 0, _ => exact wq_2347
  | 1, _ => exact wq_2349
  | 2, _ => exact wq_2351
  | 3, _ => exact wq_2353
  | k + 4, h => exact absurd h (by omega)
theorem pz_dfX13 : ∀ j, j < 4 → defaultValue (tyX13 j) = vp_V [.null, .null, .null, .null] j := fun j hj => match j, hj with
  | 0, _ => rfl
  | 1, _ => rfl
  | 2, _ => rfl
  | 3, _ => rfl
  | k + 4, h => absurd h (by omega)
theorem inX14 : ∀ w ∈ u_ws "SourcewrightModel$Run" TX14 3, w ∈ lw_good := fun w hw => by
  obtain ⟨k, hk, rfl⟩ := List.mem_map.mp hw
  have hk := List.mem_range.mp hk
  match k, hk with
  | 0, _ => exact wq_3087
  | 1, _ => exact wq_3089
  | 2, _ => exact wq_3091
  | k + 3, h => exact absurd h (by omega)
theorem pz_dfX14 : ∀ j, j < 3 → defaultValue (tyX14 j) = vp_V [.int 0, .int 0, .null] j := fun j hj => match j, hj with
  | 0, _ => rfl
  | 1, _ => rfl
  | 2, _ => rfl
  | k + 3, h => absurd h (by omega)
theorem inX15 : ∀ w ∈ u_ws "SourcewrightModel$Writer" TX15 6, w ∈ lw_good := fun w hw => by
  obtain ⟨k, hk, rfl⟩ := List.mem_map.mp hw
  have hk := List.mem_range.mp hk
  match k, hk with
  | 0, _ => exact wq_3031
  | 1, _ => exact wq_3033
  | 2, _ => exact wq_3035
  | 3, _ => exact wq_3037
  | 4, _ => exact wq_3039
  | 5, _ => exact wq_3041
  | k + 6, h => exact absurd h (by omega)
theorem pz_dfX15 : ∀ j, j < 6 → defaultValue (tyX15 j) = vp_V [.null, .int 0, .null, .null, .null, .int 0] j := fun j hj => match j, hj with
  | 0, _ => rfl
  | 1, _ => rfl
  | 2, _ => rfl
  | 3, _ => rfl
  | 4, _ => rfl
  | 5, _ => rfl
  | k + 6, h => absurd h (by omega)
theorem inX16 : ∀ w ∈ u_ws "SourcewrightModel" TX16 7, w ∈ lw_good := fun w hw => by
  obtain ⟨k, hk, rfl⟩ := List.mem_map.mp hw
  have hk := List.mem_range.mp hk
  match k, hk with
  | 0, _ => exact wq_1820
  | 1, _ => exact wq_1822
  | 2, _ => exact wq_1824
  | 3, _ => exact wq_1826
  | 4, _ => exact wq_1828
  | 5, _ => exact wq_1830
  | 6, _ => exact wq_1832
  | k + 7, h => exact absurd h (by omega)
theorem pz_dfX16 : ∀ j, j < 7 → defaultValue (tyX16 j) = vp_V [.int 0, .null, .null, .null, .null, .int 0, .null] j := fun j hj => match j, hj with
  | 0, _ => rfl
  | 1, _ => rfl
  | 2, _ => rfl
  | 3, _ => rfl
  | 4, _ => rfl
  | 5, _ => rfl
  | 6, _ => rfl
  | k + 7, h => absurd h (by omega)
theorem inJ6 : ∀ w ∈ u_ws "java/lang/Integer" TJ6 1, w ∈ lw_good := fun w hw => by
  obtain ⟨k, hk, rfl⟩ := List.mem_map.mp hw
  have hk := List.mem_range.mp hk
  match k, hk with
  | 0, _ => exact wq_1867
  | k + 1, h => exact absurd h (by omega)
theorem pz_dfJ6 : ∀ j, j < 1 → defaultValue (tyJ6 j) = vp_V [.int 0] j := fun j hj => match j, hj with
  | 0, _ => rfl
  | k + 1, h => absurd h (by omega)
theorem inJx4a65c : ∀ w ∈ u_ws "java/util/ArrayList" TJx4a65c 3, w ∈ lw_good := fun w hw => by
  obtain ⟨k, hk, rfl⟩ := List.mem_map.mp hw
  have hk := List.mem_range.mp hk
  match k, hk with
  | 0, _ => exact wq_1810
  | 1, _ => exact wq_1806
  | 2, _ => exact wq_1808
  | k + 3, h => exact absurd h (by omega)
theorem pz_dfJx4a65c : ∀ j, j < 3 → defaultValue (tyJx4a65c j) = vp_V [.int 0, .null, .int 0] j := fun j hj => match j, hj with
  | 0, _ => rfl
  | 1, _ => rfl
  | 2, _ => rfl
  | k + 3, h => absurd h (by omega)
theorem inJx35411 : ∀ w ∈ u_ws "java/util/ArrayList$Itr" TJx35411 4, w ∈ lw_good := fun w hw => by
  obtain ⟨k, hk, rfl⟩ := List.mem_map.mp hw
  have hk := List.mem_range.mp hk
  match k, hk with
  | 0, _ => exact wq_2093
  | 1, _ => exact wq_2095
  | 2, _ => exact wq_2097
  | 3, _ => exact wq_2099
  | k + 4, h => exact absurd h (by omega)
theorem pz_dfJx35411 : ∀ j, j < 4 → defaultValue (tyJx35411 j) = vp_V [.int 0, .int 0, .int 0, .null] j := fun j hj => match j, hj with
  | 0, _ => rfl
  | 1, _ => rfl
  | 2, _ => rfl
  | 3, _ => rfl
  | k + 4, h => absurd h (by omega)
def pz_nx : List Cond := [(Jvm.Cond.methodLinkNest "Sourcewright" (9 : Nat) ({ cls := "Sourcewright$Code", name := "<init>", desc := "()V" } : Jvm.MethodName) "Sourcewright"), (Jvm.Cond.methodLinkNest "Sourcewright$Reading" (11 : Nat) ({ cls := "Sourcewright$Sets", name := "<init>", desc := "()V" } : Jvm.MethodName) "Sourcewright"), (Jvm.Cond.methodLinkNest "Sourcewright$Ways" (11 : Nat) ({ cls := "Sourcewright$Sets", name := "<init>", desc := "()V" } : Jvm.MethodName) "Sourcewright"), (Jvm.Cond.methodLinkNest "Sourcewright$Builder" (11 : Nat) ({ cls := "Sourcewright$Code", name := "<init>", desc := "()V" } : Jvm.MethodName) "Sourcewright"), (Jvm.Cond.methodLinkNest "Sourcewright" (86 : Nat) ({ cls := "Sourcewright$Shelf", name := "<init>", desc := "()V" } : Jvm.MethodName) "Sourcewright"), (Jvm.Cond.methodLinkNest "Sourcewright" (93 : Nat) ({ cls := "Sourcewright$Machine", name := "<init>", desc := "()V" } : Jvm.MethodName) "Sourcewright"), (Jvm.Cond.fieldLinkNest "Sourcewright$Code" (48 : Nat) "Sourcewright" "BRANCHES" "[I" "Sourcewright"), (Jvm.Cond.fieldLinkNest "Sourcewright$Code" (51 : Nat) "Sourcewright" "PLAIN" "[I" "Sourcewright"), (Jvm.Cond.fieldLinkNest "Sourcewright$Code" (28 : Nat) "Sourcewright" "SPANS" "[I" "Sourcewright"), (Jvm.Cond.castable "java/lang/IllegalArgumentException" "java/lang/IllegalArgumentException"), (Jvm.Cond.castable "java/lang/IndexOutOfBoundsException" "java/lang/IndexOutOfBoundsException"), (Jvm.Cond.castable "java/util/NoSuchElementException" "java/util/NoSuchElementException"), (Jvm.Cond.castable "java/lang/ArithmeticException" "java/lang/ArithmeticException"), (Jvm.Cond.fieldLinkNest "java/util/ArrayList$Itr" (28 : Nat) "java/util/ArrayList" "size" "I" "java/util/ArrayList"), (Jvm.Cond.methodLinkNest "SourcewrightModel$Reading" (78 : Nat) ({ cls := "SourcewrightModel", name := "isWhole", desc := "([II)Z" } : Jvm.MethodName) "SourcewrightModel"), (Jvm.Cond.fieldLinkNest "SourcewrightModel$Writer" (35 : Nat) "SourcewrightModel$Reading" "code" "[I" "SourcewrightModel"), (Jvm.Cond.fieldLinkNest "SourcewrightModel$Writer" (26 : Nat) "SourcewrightModel$Reading" "functions" "Ljava/util/ArrayList;" "SourcewrightModel"), (Jvm.Cond.fieldLinkNest "SourcewrightModel" (63 : Nat) "SourcewrightModel$Reading" "functions" "Ljava/util/ArrayList;" "SourcewrightModel"), (Jvm.Cond.fieldLinkNest "SourcewrightModel" (206 : Nat) "SourcewrightModel$Writer" "made" "Ljava/util/ArrayList;" "SourcewrightModel"), (Jvm.Cond.methodLinkNest "SourcewrightModel$Run" (22 : Nat) ({ cls := "SourcewrightModel", name := "isWhole", desc := "([II)Z" } : Jvm.MethodName) "SourcewrightModel"), (Jvm.Cond.methodLinkNest "SourcewrightModel$Run" (26 : Nat) ({ cls := "SourcewrightModel", name := "isGood", desc := "([II)Z" } : Jvm.MethodName) "SourcewrightModel"), (Jvm.Cond.methodLinkNest "SourcewrightModel$Run" (33 : Nat) ({ cls := "SourcewrightModel", name := "told", desc := "(I)I" } : Jvm.MethodName) "SourcewrightModel"), (Jvm.Cond.fieldLinkNest "SourcewrightModel" (222 : Nat) "SourcewrightModel$Run" "end" "C" "SourcewrightModel"), (Jvm.Cond.fieldLinkNest "SourcewrightModel" (226 : Nat) "SourcewrightModel$Run" "out" "Ljava/util/ArrayList;" "SourcewrightModel"), (Jvm.Cond.castable "java/lang/Integer" "java/lang/Object"), (Jvm.Cond.declares ({ cls := "java/lang/Object", name := "getClass", desc := "()Ljava/lang/Class;" } : Jvm.MethodName)), (Jvm.Cond.superclass "java/lang/Throwable" "java/lang/Object"), (Jvm.Cond.castable "java/lang/IllegalStateException" "java/lang/IllegalStateException"), (Jvm.Cond.castable "java/lang/UnsupportedOperationException" "java/lang/UnsupportedOperationException"), (Jvm.Cond.declares ({ cls := "java/lang/RuntimeException", name := "<init>", desc := "(Ljava/lang/String;)V" } : Jvm.MethodName)), (Jvm.Cond.declares ({ cls := "java/lang/Exception", name := "<init>", desc := "(Ljava/lang/String;)V" } : Jvm.MethodName)), (Jvm.Cond.declares ({ cls := "java/lang/Throwable", name := "<init>", desc := "(Ljava/lang/String;)V" } : Jvm.MethodName))]
theorem nx_58 : (Jvm.Cond.methodLinkNest "Sourcewright" (9 : Nat) ({ cls := "Sourcewright$Code", name := "<init>", desc := "()V" } : Jvm.MethodName) "Sourcewright") ∈ pz_nx := List.mem_of_getElem? (i := 0) rfl
theorem nx_81 : (Jvm.Cond.methodLinkNest "Sourcewright$Reading" (11 : Nat) ({ cls := "Sourcewright$Sets", name := "<init>", desc := "()V" } : Jvm.MethodName) "Sourcewright") ∈ pz_nx := List.mem_of_getElem? (i := 1) rfl
theorem nx_184 : (Jvm.Cond.methodLinkNest "Sourcewright$Ways" (11 : Nat) ({ cls := "Sourcewright$Sets", name := "<init>", desc := "()V" } : Jvm.MethodName) "Sourcewright") ∈ pz_nx := List.mem_of_getElem? (i := 2) rfl
theorem nx_338 : (Jvm.Cond.methodLinkNest "Sourcewright$Builder" (11 : Nat) ({ cls := "Sourcewright$Code", name := "<init>", desc := "()V" } : Jvm.MethodName) "Sourcewright") ∈ pz_nx := List.mem_of_getElem? (i := 3) rfl
theorem nx_392 : (Jvm.Cond.methodLinkNest "Sourcewright" (86 : Nat) ({ cls := "Sourcewright$Shelf", name := "<init>", desc := "()V" } : Jvm.MethodName) "Sourcewright") ∈ pz_nx := List.mem_of_getElem? (i := 4) rfl
theorem nx_408 : (Jvm.Cond.methodLinkNest "Sourcewright" (93 : Nat) ({ cls := "Sourcewright$Machine", name := "<init>", desc := "()V" } : Jvm.MethodName) "Sourcewright") ∈ pz_nx := List.mem_of_getElem? (i := 5) rfl
theorem nx_546 : (Jvm.Cond.fieldLinkNest "Sourcewright$Code" (48 : Nat) "Sourcewright" "BRANCHES" "[I" "Sourcewright") ∈ pz_nx := List.mem_of_getElem? (i := 6) rfl
theorem nx_548 : (Jvm.Cond.fieldLinkNest "Sourcewright$Code" (51 : Nat) "Sourcewright" "PLAIN" "[I" "Sourcewright") ∈ pz_nx := List.mem_of_getElem? (i := 7) rfl
theorem nx_553 : (Jvm.Cond.fieldLinkNest "Sourcewright$Code" (28 : Nat) "Sourcewright" "SPANS" "[I" "Sourcewright") ∈ pz_nx := List.mem_of_getElem? (i := 8) rfl
theorem nx_1266 : (Jvm.Cond.castable "java/lang/IllegalArgumentException" "java/lang/IllegalArgumentException") ∈ pz_nx := List.mem_of_getElem? (i := 9) rfl
theorem nx_1390 : (Jvm.Cond.castable "java/lang/IndexOutOfBoundsException" "java/lang/IndexOutOfBoundsException") ∈ pz_nx := List.mem_of_getElem? (i := 10) rfl
theorem nx_1488 : (Jvm.Cond.castable "java/util/NoSuchElementException" "java/util/NoSuchElementException") ∈ pz_nx := List.mem_of_getElem? (i := 11) rfl
theorem nx_1762 : (Jvm.Cond.castable "java/lang/ArithmeticException" "java/lang/ArithmeticException") ∈ pz_nx := List.mem_of_getElem? (i := 12) rfl
theorem nx_1800 : (Jvm.Cond.fieldLinkNest "java/util/ArrayList$Itr" (28 : Nat) "java/util/ArrayList" "size" "I" "java/util/ArrayList") ∈ pz_nx := List.mem_of_getElem? (i := 13) rfl
theorem nx_2138 : (Jvm.Cond.methodLinkNest "SourcewrightModel$Reading" (78 : Nat) ({ cls := "SourcewrightModel", name := "isWhole", desc := "([II)Z" } : Jvm.MethodName) "SourcewrightModel") ∈ pz_nx := List.mem_of_getElem? (i := 14) rfl
theorem nx_2340 : (Jvm.Cond.fieldLinkNest "SourcewrightModel$Writer" (35 : Nat) "SourcewrightModel$Reading" "code" "[I" "SourcewrightModel") ∈ pz_nx := List.mem_of_getElem? (i := 15) rfl
theorem nx_2345 : (Jvm.Cond.fieldLinkNest "SourcewrightModel$Writer" (26 : Nat) "SourcewrightModel$Reading" "functions" "Ljava/util/ArrayList;" "SourcewrightModel") ∈ pz_nx := List.mem_of_getElem? (i := 16) rfl
theorem nx_2346 : (Jvm.Cond.fieldLinkNest "SourcewrightModel" (63 : Nat) "SourcewrightModel$Reading" "functions" "Ljava/util/ArrayList;" "SourcewrightModel") ∈ pz_nx := List.mem_of_getElem? (i := 17) rfl
theorem nx_3027 : (Jvm.Cond.fieldLinkNest "SourcewrightModel" (206 : Nat) "SourcewrightModel$Writer" "made" "Ljava/util/ArrayList;" "SourcewrightModel") ∈ pz_nx := List.mem_of_getElem? (i := 18) rfl
theorem nx_3068 : (Jvm.Cond.methodLinkNest "SourcewrightModel$Run" (22 : Nat) ({ cls := "SourcewrightModel", name := "isWhole", desc := "([II)Z" } : Jvm.MethodName) "SourcewrightModel") ∈ pz_nx := List.mem_of_getElem? (i := 19) rfl
theorem nx_3069 : (Jvm.Cond.methodLinkNest "SourcewrightModel$Run" (26 : Nat) ({ cls := "SourcewrightModel", name := "isGood", desc := "([II)Z" } : Jvm.MethodName) "SourcewrightModel") ∈ pz_nx := List.mem_of_getElem? (i := 20) rfl
theorem nx_3070 : (Jvm.Cond.methodLinkNest "SourcewrightModel$Run" (33 : Nat) ({ cls := "SourcewrightModel", name := "told", desc := "(I)I" } : Jvm.MethodName) "SourcewrightModel") ∈ pz_nx := List.mem_of_getElem? (i := 21) rfl
theorem nx_3082 : (Jvm.Cond.fieldLinkNest "SourcewrightModel" (222 : Nat) "SourcewrightModel$Run" "end" "C" "SourcewrightModel") ∈ pz_nx := List.mem_of_getElem? (i := 22) rfl
theorem nx_3086 : (Jvm.Cond.fieldLinkNest "SourcewrightModel" (226 : Nat) "SourcewrightModel$Run" "out" "Ljava/util/ArrayList;" "SourcewrightModel") ∈ pz_nx := List.mem_of_getElem? (i := 23) rfl
theorem nx_3213 : (Jvm.Cond.castable "java/lang/Integer" "java/lang/Object") ∈ pz_nx := List.mem_of_getElem? (i := 24) rfl
theorem nx_3246 : (Jvm.Cond.declares ({ cls := "java/lang/Object", name := "getClass", desc := "()Ljava/lang/Class;" } : Jvm.MethodName)) ∈ pz_nx := List.mem_of_getElem? (i := 25) rfl
theorem nx_1286 : (Jvm.Cond.superclass "java/lang/Throwable" "java/lang/Object") ∈ pz_nx := List.mem_of_getElem? (i := 26) rfl
theorem nx_1338 : (Jvm.Cond.castable "java/lang/IllegalStateException" "java/lang/IllegalStateException") ∈ pz_nx := List.mem_of_getElem? (i := 27) rfl
theorem nx_1423 : (Jvm.Cond.castable "java/lang/UnsupportedOperationException" "java/lang/UnsupportedOperationException") ∈ pz_nx := List.mem_of_getElem? (i := 28) rfl
theorem nx_1268 : (Jvm.Cond.declares ({ cls := "java/lang/RuntimeException", name := "<init>", desc := "(Ljava/lang/String;)V" } : Jvm.MethodName)) ∈ pz_nx := List.mem_of_getElem? (i := 29) rfl
theorem nx_1270 : (Jvm.Cond.declares ({ cls := "java/lang/Exception", name := "<init>", desc := "(Ljava/lang/String;)V" } : Jvm.MethodName)) ∈ pz_nx := List.mem_of_getElem? (i := 30) rfl
theorem nx_1272 : (Jvm.Cond.declares ({ cls := "java/lang/Throwable", name := "<init>", desc := "(Ljava/lang/String;)V" } : Jvm.MethodName)) ∈ pz_nx := List.mem_of_getElem? (i := 31) rfl
def pz_wk : Cond → Bool
  | .methodLinkNest .. | .fieldLinkNest .. | .castable .. | .declares _ | .publicMethod _ | .unhidden .. | .superclass .. => true
  | _ => false
theorem pz_sup {s : State} {vm' : Vm} (h : s.vm.Alike vm') (a b : String) (h0 : (Cond.superclass a b).before #[] s = true) : (Cond.superclass a b).before #[] (s.setVm vm') = true := by
  simp only [Cond.before, Cond.holds, Cond.value, State.vm_setVm, h.findClass] at h0 ⊢
  cases ha : s.vm.findClass a with
  | none => simp [ha] at h0
  | some c =>
    cases hb : s.vm.findClass b with
    | none => simp [ha, hb] at h0
    | some d =>
      simp only [ha, hb] at h0 ⊢
      cases hc : s.vm.classes[c]? with
      | none => simp [hc] at h0
      | some k =>
        cases hd : s.vm.classes[d]? with
        | none => simp [hc, hd] at h0
        | some k2 =>
          obtain ⟨k', h1, h2⟩ := h.2.2 _ _ hc
          obtain ⟨k2', h3, h4⟩ := h.2.2 _ _ hd
          simp only [hc, hd, Option.bind_some, Option.map_some] at h0
          simp only [h1, h3, Option.bind_some, Option.map_some]
          rw [h2, h4]
          exact h0
theorem pz_warm {w : Cond} (hk : pz_wk w = true) {s U : State} (hW : s.WarmedH U.vm) (h : va_Nw w s) : va_Nw w U := by
  have hv := hW.alike
  cases w <;> first | exact absurd (show false = true from hk) Bool.false_ne_true | exact va_Nw.warmM hW h | exact va_Nw.warmF hW h | exact va_Nw.warmC hW h | exact va_Nw.warmD hW h | exact va_tabs rfl (rfl : (s.setVm U.vm).vm = U.vm) (by rw [Cond.publicMethod_setVm hv]; exact h) | exact va_tabs rfl (rfl : (s.setVm U.vm).vm = U.vm) (by rw [Cond.unhidden_setVm hv]; exact h) | exact va_tabs rfl (rfl : (s.setVm U.vm).vm = U.vm) (pz_sup hv _ _ h)
theorem pz_nx_wk : pz_nx.all pz_wk = true := by decide +kernel
theorem pz_nx_warm (w : Cond) (hw : w ∈ pz_nx) {s U : State} (hW : s.WarmedH U.vm) (h : va_Nw w s) : va_Nw w U := pz_warm (List.all_eq_true.mp pz_nx_wk w hw) hW h
def pz_strs : List (String × Nat × String) := [("Sourcewright", 122, "no byte"), ("Sourcewright", 268, "no such byte"), ("Sourcewright", 286, "no such number"), ("Sourcewright", 320, "no bytes"), ("Sourcewright", 336, "no such function"), ("Sourcewright", 345, "no such number of steps")]
theorem str_Sourcewright_122 : (("Sourcewright", 122, "no byte") : String × Nat × String) ∈ pz_strs := List.mem_of_getElem? (i := 0) rfl
theorem str_Sourcewright_268 : (("Sourcewright", 268, "no such byte") : String × Nat × String) ∈ pz_strs := List.mem_of_getElem? (i := 1) rfl
theorem str_Sourcewright_286 : (("Sourcewright", 286, "no such number") : String × Nat × String) ∈ pz_strs := List.mem_of_getElem? (i := 2) rfl
theorem str_Sourcewright_320 : (("Sourcewright", 320, "no bytes") : String × Nat × String) ∈ pz_strs := List.mem_of_getElem? (i := 3) rfl
theorem str_Sourcewright_336 : (("Sourcewright", 336, "no such function") : String × Nat × String) ∈ pz_strs := List.mem_of_getElem? (i := 4) rfl
theorem str_Sourcewright_345 : (("Sourcewright", 345, "no such number of steps") : String × Nat × String) ∈ pz_strs := List.mem_of_getElem? (i := 5) rfl
def pz_ncs : List (String × String) := [("java/util/NoSuchElementException", "java/lang/UnsupportedOperationException")]
theorem ncs_NoSuchElementException_UnsupportedOperationException : (("java/util/NoSuchElementException", "java/lang/UnsupportedOperationException") : String × String) ∈ pz_ncs := List.mem_of_getElem? (i := 0) rfl
def pz_fws : List (String × MethodName × MethodName) := [("java/util/ArrayList", ({ cls := "java/util/Collection", name := "toArray", desc := "()[Ljava/lang/Object;" }), ({ cls := "java/util/ArrayList", name := "toArray", desc := "()[Ljava/lang/Object;" })), ("java/util/ArrayList$Itr", ({ cls := "java/util/Iterator", name := "hasNext", desc := "()Z" }), ({ cls := "java/util/ArrayList$Itr", name := "hasNext", desc := "()Z" })), ("java/util/ArrayList$Itr", ({ cls := "java/util/Iterator", name := "next", desc := "()Ljava/lang/Object;" }), ({ cls := "java/util/ArrayList$Itr", name := "next", desc := "()Ljava/lang/Object;" }))]
theorem fw_ArrayList_toArray : (("java/util/ArrayList", ({ cls := "java/util/Collection", name := "toArray", desc := "()[Ljava/lang/Object;" } : Jvm.MethodName), ({ cls := "java/util/ArrayList", name := "toArray", desc := "()[Ljava/lang/Object;" } : Jvm.MethodName)) : String × MethodName × MethodName) ∈ pz_fws := List.mem_of_getElem? (i := 0) rfl
theorem fw_ArrayList_Itr_hasNext : (("java/util/ArrayList$Itr", ({ cls := "java/util/Iterator", name := "hasNext", desc := "()Z" } : Jvm.MethodName), ({ cls := "java/util/ArrayList$Itr", name := "hasNext", desc := "()Z" } : Jvm.MethodName)) : String × MethodName × MethodName) ∈ pz_fws := List.mem_of_getElem? (i := 1) rfl
theorem fw_ArrayList_Itr_next : (("java/util/ArrayList$Itr", ({ cls := "java/util/Iterator", name := "next", desc := "()Ljava/lang/Object;" } : Jvm.MethodName), ({ cls := "java/util/ArrayList$Itr", name := "next", desc := "()Ljava/lang/Object;" } : Jvm.MethodName)) : String × MethodName × MethodName) ∈ pz_fws := List.mem_of_getElem? (i := 2) rfl
theorem pz_fws_ok : ∀ q ∈ pz_fws, q.2.1.cls ≠ "java/lang/invoke/MethodHandle" ∧ q.2.1.cls ≠ "java/lang/invoke/VarHandle" := by decide +kernel
def pz_fP : Nat → Value := fun k => .int (([0, 1, 2, 3, 4, 5, 6, 7, 13, 9, 10, 11, 12, 13, 13, 13] : List Int32).getD k 0)
def pz_fB : Nat → Value := fun k => .int (([8, 14, 14, 14, 14, 15, 16, 13, 17, 17, 17, 17, 13, 13, 13, 13] : List Int32).getD k 0)
def pz_fS : Nat → Value := fun k => .int (([1, 2, 1, 1, 1, 1, 1, 1, 2, 1, 1, 2, 2, 1, 2, 2, 1, 3, 0] : List Int32).getD k 0)
