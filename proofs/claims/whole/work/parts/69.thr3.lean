/-! THE WORDS OF EACH THROW -/
set_option maxRecDepth 100000 in
theorem tw_0 : Bundle.fit "java/lang/ArithmeticException" = true ∧ (∀ n ∈ (["java/lang/RuntimeException", "java/lang/Exception"] : List String), Bundle.fit n = true) ∧ (∀ w ∈ Bundle.ownAtoms "FractionPool" 73 "java/lang/ArithmeticException" ["java/lang/RuntimeException", "java/lang/Exception"], w ∈ big ∨ w ∈ thW) := by
  refine ⟨by decide +kernel, by decide +kernel, fun w h => ?_⟩
  have h2 := (by decide +kernel : ∀ w ∈ Bundle.ownAtoms "FractionPool" 73 "java/lang/ArithmeticException" ["java/lang/RuntimeException", "java/lang/Exception"], (w ∈ lw_tbl ∧ okW w = true) ∨ w ∈ thW) w h
  exact h2.imp (fun h3 => List.mem_filter.mpr h3) id
set_option maxRecDepth 100000 in
theorem tw_1 : Bundle.fit "java/lang/IndexOutOfBoundsException" = true ∧ (∀ n ∈ (["java/lang/RuntimeException", "java/lang/Exception"] : List String), Bundle.fit n = true) ∧ (∀ w ∈ Bundle.ownAtoms "FractionPool" 165 "java/lang/IndexOutOfBoundsException" ["java/lang/RuntimeException", "java/lang/Exception"], w ∈ big ∨ w ∈ thW) := by
  refine ⟨by decide +kernel, by decide +kernel, fun w h => ?_⟩
  have h2 := (by decide +kernel : ∀ w ∈ Bundle.ownAtoms "FractionPool" 165 "java/lang/IndexOutOfBoundsException" ["java/lang/RuntimeException", "java/lang/Exception"], (w ∈ lw_tbl ∧ okW w = true) ∨ w ∈ thW) w h
  exact h2.imp (fun h3 => List.mem_filter.mpr h3) id
set_option maxRecDepth 100000 in
theorem tw_2 : Bundle.fit "java/lang/UnsupportedOperationException" = true ∧ (∀ n ∈ (["java/lang/RuntimeException", "java/lang/Exception"] : List String), Bundle.fit n = true) ∧ (∀ w ∈ Bundle.ownAtoms "FractionPool$Whole" 25 "java/lang/UnsupportedOperationException" ["java/lang/RuntimeException", "java/lang/Exception"], w ∈ big ∨ w ∈ thW) := by
  refine ⟨by decide +kernel, by decide +kernel, fun w h => ?_⟩
  have h2 := (by decide +kernel : ∀ w ∈ Bundle.ownAtoms "FractionPool$Whole" 25 "java/lang/UnsupportedOperationException" ["java/lang/RuntimeException", "java/lang/Exception"], (w ∈ lw_tbl ∧ okW w = true) ∨ w ∈ thW) w h
  exact h2.imp (fun h3 => List.mem_filter.mpr h3) id
set_option maxRecDepth 100000 in
theorem tw_3 : Bundle.fit "java/lang/UnsupportedOperationException" = true ∧ (∀ n ∈ (["java/lang/RuntimeException", "java/lang/Exception"] : List String), Bundle.fit n = true) ∧ (∀ w ∈ Bundle.ownAtoms "FractionPool$Registers" 78 "java/lang/UnsupportedOperationException" ["java/lang/RuntimeException", "java/lang/Exception"], w ∈ big ∨ w ∈ thW) := by
  refine ⟨by decide +kernel, by decide +kernel, fun w h => ?_⟩
  have h2 := (by decide +kernel : ∀ w ∈ Bundle.ownAtoms "FractionPool$Registers" 78 "java/lang/UnsupportedOperationException" ["java/lang/RuntimeException", "java/lang/Exception"], (w ∈ lw_tbl ∧ okW w = true) ∨ w ∈ thW) w h
  exact h2.imp (fun h3 => List.mem_filter.mpr h3) id
set_option maxRecDepth 100000 in
theorem tw_4 : Bundle.fit "java/lang/IllegalArgumentException" = true ∧ (∀ n ∈ (["java/lang/RuntimeException", "java/lang/Exception"] : List String), Bundle.fit n = true) ∧ (∀ w ∈ Bundle.ownAtoms "FractionPool" 143 "java/lang/IllegalArgumentException" ["java/lang/RuntimeException", "java/lang/Exception"], w ∈ big ∨ w ∈ thW) := by
  refine ⟨by decide +kernel, by decide +kernel, fun w h => ?_⟩
  have h2 := (by decide +kernel : ∀ w ∈ Bundle.ownAtoms "FractionPool" 143 "java/lang/IllegalArgumentException" ["java/lang/RuntimeException", "java/lang/Exception"], (w ∈ lw_tbl ∧ okW w = true) ∨ w ∈ thW) w h
  exact h2.imp (fun h3 => List.mem_filter.mpr h3) id
set_option maxRecDepth 100000 in
theorem tw_5 : Bundle.fit "java/lang/UnsupportedOperationException" = true ∧ (∀ n ∈ (["java/lang/RuntimeException", "java/lang/Exception"] : List String), Bundle.fit n = true) ∧ (∀ w ∈ Bundle.ownAtoms "FractionPool" 156 "java/lang/UnsupportedOperationException" ["java/lang/RuntimeException", "java/lang/Exception"], w ∈ big ∨ w ∈ thW) := by
  refine ⟨by decide +kernel, by decide +kernel, fun w h => ?_⟩
  have h2 := (by decide +kernel : ∀ w ∈ Bundle.ownAtoms "FractionPool" 156 "java/lang/UnsupportedOperationException" ["java/lang/RuntimeException", "java/lang/Exception"], (w ∈ lw_tbl ∧ okW w = true) ∨ w ∈ thW) w h
  exact h2.imp (fun h3 => List.mem_filter.mpr h3) id
