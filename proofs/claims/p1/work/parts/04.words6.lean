theorem pz_atL {L : List Cond} (h : L.all (fun w => (goodWord w && decide (w ∈ tables_1)) || decide (w ∈ pz_nx)) = true) : ∀ w ∈ L, w ∈ lw_good ∨ w ∈ pz_nx := fun w hw => by
  have h1 := List.all_eq_true.mp h w hw
  simp only [Bool.or_eq_true, Bool.and_eq_true, decide_eq_true_eq] at h1
  rcases h1 with h1 | h1
  · exact Or.inl (pz_in h1.2 h1.1)
  · exact Or.inr h1
theorem pz_at_Sourcewright_124 : ∀ w ∈ vx_atS "Sourcewright" 124 "java/lang/IllegalArgumentException" ["java/lang/RuntimeException", "java/lang/Exception"], w ∈ lw_good ∨ w ∈ pz_nx := pz_atL (by decide +kernel)
theorem pz_hg_Sourcewright_124 : ∀ w ∈ Cond.classLink "Sourcewright" 120 "java/lang/IllegalArgumentException" :: Cond.initialized "java/lang/IllegalArgumentException" :: vx_atS "Sourcewright" 124 "java/lang/IllegalArgumentException" ["java/lang/RuntimeException", "java/lang/Exception"], vx_ot w = true := List.all_eq_true.mp (by decide +kernel)
theorem pz_at_Sourcewright_195 : ∀ w ∈ pz_atX "Sourcewright" 195 "java/util/NoSuchElementException" "java/lang/RuntimeException" 13 prog_56_method_4_code ["java/lang/Exception"], w ∈ lw_good ∨ w ∈ pz_nx := pz_atL (by decide +kernel)
theorem pz_hg_Sourcewright_195 : ∀ w ∈ Cond.classLink "Sourcewright" 191 "java/util/NoSuchElementException" :: Cond.initialized "java/util/NoSuchElementException" :: pz_atX "Sourcewright" 195 "java/util/NoSuchElementException" "java/lang/RuntimeException" 13 prog_56_method_4_code ["java/lang/Exception"], vx_ot w = true := List.all_eq_true.mp (by decide +kernel)
theorem pz_at_Sourcewright_322 : ∀ w ∈ vx_atS "Sourcewright" 322 "java/lang/ArithmeticException" ["java/lang/RuntimeException", "java/lang/Exception"], w ∈ lw_good ∨ w ∈ pz_nx := pz_atL (by decide +kernel)
theorem pz_hg_Sourcewright_322 : ∀ w ∈ Cond.classLink "Sourcewright" 318 "java/lang/ArithmeticException" :: Cond.initialized "java/lang/ArithmeticException" :: vx_atS "Sourcewright" 322 "java/lang/ArithmeticException" ["java/lang/RuntimeException", "java/lang/Exception"], vx_ot w = true := List.all_eq_true.mp (by decide +kernel)
theorem pz_at_Sourcewright_332 : ∀ w ∈ vx_atS "Sourcewright" 332 "java/lang/IndexOutOfBoundsException" ["java/lang/RuntimeException", "java/lang/Exception"], w ∈ lw_good ∨ w ∈ pz_nx := pz_atL (by decide +kernel)
theorem pz_hg_Sourcewright_332 : ∀ w ∈ Cond.classLink "Sourcewright" 330 "java/lang/IndexOutOfBoundsException" :: Cond.initialized "java/lang/IndexOutOfBoundsException" :: vx_atS "Sourcewright" 332 "java/lang/IndexOutOfBoundsException" ["java/lang/RuntimeException", "java/lang/Exception"], vx_ot w = true := List.all_eq_true.mp (by decide +kernel)
