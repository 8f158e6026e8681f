/-! NAMES by program (gen/names.py) out of the Statement: the words' places, classes, fields, methods -/
/-- the words that hold at every state with the same tables, warmed -/
def okW : Cond → Bool
  | .methodLinkNest .. => true
  | .castable .. => true
  | .declares _ => true
  | .privateMethod _ => true
  | .stringRef .. => true
  | w => goodWord w
def big : List Cond := lw_tbl.filter okW
theorem big_in {w : Cond} (h : w ∈ lw_tbl) (k : okW w = true) : w ∈ big := List.mem_filter.mpr ⟨h, k⟩
theorem ok_good {w : Cond} (h : goodWord w = true) {args a' : Array Value} {s U : State} (hW : s.WarmedH U.vm) (hb : w.before args s = true) : w.before a' U = true := word_at hW (good_of_word h) hb
theorem okW_warm {w : Cond} (h : okW w = true) {args a' : Array Value} {s U : State} (hW : s.WarmedH U.vm) (hb : w.before args s = true) : w.before a' U = true := by
  unfold okW at h
  split at h
  · exact va_Nw.use rfl (va_Nw.warmM hW (va_Nw.of rfl hb))
  · exact va_Nw.use rfl (va_Nw.warmC hW (va_Nw.of rfl hb))
  · exact va_Nw.use rfl (va_Nw.warmD hW (va_Nw.of rfl hb))
  · exact va_tabs rfl (rfl : (s.setVm U.vm).vm = U.vm) (Cond.before_shiftedFace (State.Shifted.of_warmed hW) _ rfl hb)
  · next o k t =>
    have h1 := Cond.stringRef_warmed hW hb
    simp only [Cond.before, Cond.holds, Cond.value] at h1 ⊢
    exact h1
  · exact ok_good h hW hb
theorem big_warm {args : Array Value} {s : State} (hts : ∀ w ∈ big, w.before args s = true) : ∀ w ∈ big, ∀ (a' : Array Value) (U : State), s.WarmedH U.vm → w.before a' U = true := fun w hw a' U hW => okW_warm (List.mem_filter.mp hw).2 hW (hts w hw)
theorem mt_0 : ∀ w ∈ k2_sels lw_privs, w ∈ lw_tbl := fun w h => List.mem_append.mpr (Or.inl h)
theorem mt_1 : ∀ w ∈ tables_1_1, w ∈ lw_tbl := fun w h => List.mem_append.mpr (Or.inr (List.mem_append.mpr (Or.inl h)))
theorem mt_2 : ∀ w ∈ tables_1_2, w ∈ lw_tbl := fun w h => List.mem_append.mpr (Or.inr (List.mem_append.mpr (Or.inr (List.mem_append.mpr (Or.inl h)))))
theorem mt_3 : ∀ w ∈ tables_1_3, w ∈ lw_tbl := fun w h => List.mem_append.mpr (Or.inr (List.mem_append.mpr (Or.inr (List.mem_append.mpr (Or.inr (List.mem_append.mpr (Or.inl h)))))))
theorem mt_4 : ∀ w ∈ tables_1_4, w ∈ lw_tbl := fun w h => List.mem_append.mpr (Or.inr (List.mem_append.mpr (Or.inr (List.mem_append.mpr (Or.inr (List.mem_append.mpr (Or.inr (List.mem_append.mpr (Or.inl h)))))))))
theorem mt_5 : ∀ w ∈ tables_1_5, w ∈ lw_tbl := fun w h => List.mem_append.mpr (Or.inr (List.mem_append.mpr (Or.inr (List.mem_append.mpr (Or.inr (List.mem_append.mpr (Or.inr (List.mem_append.mpr (Or.inr (List.mem_append.mpr (Or.inl h)))))))))))
theorem mt_6 : ∀ w ∈ tables_1_6, w ∈ lw_tbl := fun w h => List.mem_append.mpr (Or.inr (List.mem_append.mpr (Or.inr (List.mem_append.mpr (Or.inr (List.mem_append.mpr (Or.inr (List.mem_append.mpr (Or.inr (List.mem_append.mpr (Or.inr h)))))))))))
theorem sp_0 : Cond.selects "java/lang/Throwable" ⟨"java/lang/Throwable", "fillInStackTrace", "(I)Ljava/lang/Throwable;"⟩ ⟨"java/lang/Throwable", "fillInStackTrace", "(I)Ljava/lang/Throwable;"⟩ ∈ lw_tbl := mt_0 _ (List.mem_of_getElem? (i := 0) rfl)
theorem sp_1 : Cond.selects "FractionPool$Whole" ⟨"FractionPool$Whole", "trim", "()V"⟩ ⟨"FractionPool$Whole", "trim", "()V"⟩ ∈ lw_tbl := mt_0 _ (List.mem_of_getElem? (i := 1) rfl)
theorem sp_2 : Cond.selects "FractionPool$Whole" ⟨"FractionPool$Whole", "claim", "(I)V"⟩ ⟨"FractionPool$Whole", "claim", "(I)V"⟩ ∈ lw_tbl := mt_0 _ (List.mem_of_getElem? (i := 2) rfl)
theorem sp_3 : Cond.selects "FractionPool$CommonDivisor" ⟨"FractionPool$CommonDivisor", "foreseeSteps", "()V"⟩ ⟨"FractionPool$CommonDivisor", "foreseeSteps", "()V"⟩ ∈ lw_tbl := mt_0 _ (List.mem_of_getElem? (i := 3) rfl)
theorem sp_4 : Cond.selects "FractionPool$CommonDivisor" ⟨"FractionPool$CommonDivisor", "makeSteps", "()V"⟩ ⟨"FractionPool$CommonDivisor", "makeSteps", "()V"⟩ ∈ lw_tbl := mt_0 _ (List.mem_of_getElem? (i := 4) rfl)
theorem sp_5 : Cond.selects "FractionPool$Whole" ⟨"FractionPool$Whole", "widen", "(I)V"⟩ ⟨"FractionPool$Whole", "widen", "(I)V"⟩ ∈ lw_tbl := mt_0 _ (List.mem_of_getElem? (i := 5) rfl)
theorem sp_6 : Cond.selects "FractionPool$Whole" ⟨"FractionPool$Whole", "guessLimb", "(LFractionPool$Whole;I)J"⟩ ⟨"FractionPool$Whole", "guessLimb", "(LFractionPool$Whole;I)J"⟩ ∈ lw_tbl := mt_0 _ (List.mem_of_getElem? (i := 6) rfl)
theorem sp_7 : Cond.selects "FractionPool$Whole" ⟨"FractionPool$Whole", "takeMultiple", "(LFractionPool$Whole;JI)Z"⟩ ⟨"FractionPool$Whole", "takeMultiple", "(LFractionPool$Whole;JI)Z"⟩ ∈ lw_tbl := mt_0 _ (List.mem_of_getElem? (i := 7) rfl)
theorem sp_8 : Cond.selects "FractionPool$Whole" ⟨"FractionPool$Whole", "giveBack", "(LFractionPool$Whole;I)V"⟩ ⟨"FractionPool$Whole", "giveBack", "(LFractionPool$Whole;I)V"⟩ ∈ lw_tbl := mt_0 _ (List.mem_of_getElem? (i := 8) rfl)
theorem sp_9 : Cond.selects "FractionPool$Bench" ⟨"FractionPool$Bench", "reduce", "(LFractionPool$Whole;LFractionPool$Whole;)V"⟩ ⟨"FractionPool$Bench", "reduce", "(LFractionPool$Whole;LFractionPool$Whole;)V"⟩ ∈ lw_tbl := mt_0 _ (List.mem_of_getElem? (i := 9) rfl)
theorem sp_10 : Cond.selects "FractionPool$Registers" ⟨"FractionPool$Registers", "takeOut", "(I)V"⟩ ⟨"FractionPool$Registers", "takeOut", "(I)V"⟩ ∈ lw_tbl := mt_0 _ (List.mem_of_getElem? (i := 10) rfl)
theorem sp_11 : Cond.selects "FractionPool" ⟨"FractionPool", "loadBoth", "(III)V"⟩ ⟨"FractionPool", "loadBoth", "(III)V"⟩ ∈ lw_tbl := mt_0 _ (List.mem_of_getElem? (i := 11) rfl)
theorem sp_12 : Cond.selects "FractionPool$Whole" ⟨"FractionPool$Whole", "addMultiple", "(LFractionPool$Whole;JI)V"⟩ ⟨"FractionPool$Whole", "addMultiple", "(LFractionPool$Whole;JI)V"⟩ ∈ lw_tbl := mt_0 _ (List.mem_of_getElem? (i := 12) rfl)
theorem sp_13 : Cond.selects "FractionPool$Bench" ⟨"FractionPool$Bench", "addSpare", "(LFractionPool$Whole;II)I"⟩ ⟨"FractionPool$Bench", "addSpare", "(LFractionPool$Whole;II)I"⟩ ∈ lw_tbl := mt_0 _ (List.mem_of_getElem? (i := 13) rfl)
theorem sp_14 : Cond.selects "FractionPool$Typed" ⟨"FractionPool$Typed", "faultOfText", "()I"⟩ ⟨"FractionPool$Typed", "faultOfText", "()I"⟩ ∈ lw_tbl := mt_0 _ (List.mem_of_getElem? (i := 14) rfl)
theorem sp_15 : Cond.selects "FractionPool$Printed" ⟨"FractionPool$Printed", "putFigures", "(LFractionPool$Whole;)V"⟩ ⟨"FractionPool$Printed", "putFigures", "(LFractionPool$Whole;)V"⟩ ∈ lw_tbl := mt_0 _ (List.mem_of_getElem? (i := 15) rfl)
theorem sp_16 : Cond.selects "FractionPool$Printed" ⟨"FractionPool$Printed", "put", "(C)V"⟩ ⟨"FractionPool$Printed", "put", "(C)V"⟩ ∈ lw_tbl := mt_0 _ (List.mem_of_getElem? (i := 16) rfl)
theorem sp_17 : Cond.selects "FractionPool$Printed" ⟨"FractionPool$Printed", "putNine", "(IZ)V"⟩ ⟨"FractionPool$Printed", "putNine", "(IZ)V"⟩ ∈ lw_tbl := mt_0 _ (List.mem_of_getElem? (i := 17) rfl)
theorem sp_18 : Cond.selects "FractionPoolModel" ⟨"FractionPoolModel", "refuses", "(I)Z"⟩ ⟨"FractionPoolModel", "refuses", "(I)Z"⟩ ∈ lw_tbl := mt_0 _ (List.mem_of_getElem? (i := 18) rfl)
theorem sp_19 : Cond.selects "FractionPoolModel" ⟨"FractionPoolModel", "setLong", "(IJ)V"⟩ ⟨"FractionPoolModel", "setLong", "(IJ)V"⟩ ∈ lw_tbl := mt_0 _ (List.mem_of_getElem? (i := 19) rfl)
theorem sp_20 : Cond.selects "FractionPoolModel" ⟨"FractionPoolModel", "put", "(III)I"⟩ ⟨"FractionPoolModel", "put", "(III)I"⟩ ∈ lw_tbl := mt_0 _ (List.mem_of_getElem? (i := 20) rfl)
theorem sp_21 : Cond.selects "FractionPoolModel" ⟨"FractionPoolModel", "reduce", "()V"⟩ ⟨"FractionPoolModel", "reduce", "()V"⟩ ∈ lw_tbl := mt_0 _ (List.mem_of_getElem? (i := 21) rfl)
theorem sp_22 : Cond.selects "FractionPoolModel" ⟨"FractionPoolModel", "copyTo", "(II)V"⟩ ⟨"FractionPoolModel", "copyTo", "(II)V"⟩ ∈ lw_tbl := mt_0 _ (List.mem_of_getElem? (i := 22) rfl)
theorem sp_23 : Cond.selects "FractionPoolModel" ⟨"FractionPoolModel", "common", "(II)V"⟩ ⟨"FractionPoolModel", "common", "(II)V"⟩ ∈ lw_tbl := mt_0 _ (List.mem_of_getElem? (i := 23) rfl)
theorem sp_24 : Cond.selects "FractionPoolModel" ⟨"FractionPoolModel", "divideBy", "(III)V"⟩ ⟨"FractionPoolModel", "divideBy", "(III)V"⟩ ∈ lw_tbl := mt_0 _ (List.mem_of_getElem? (i := 24) rfl)
theorem sp_25 : Cond.selects "FractionPoolModel" ⟨"FractionPoolModel", "takes", "(IIII)Z"⟩ ⟨"FractionPoolModel", "takes", "(IIII)Z"⟩ ∈ lw_tbl := mt_0 _ (List.mem_of_getElem? (i := 25) rfl)
theorem sp_26 : Cond.selects "FractionPoolModel" ⟨"FractionPoolModel", "trim", "(II)V"⟩ ⟨"FractionPoolModel", "trim", "(II)V"⟩ ∈ lw_tbl := mt_0 _ (List.mem_of_getElem? (i := 26) rfl)
theorem sp_27 : Cond.selects "FractionPoolModel" ⟨"FractionPoolModel", "store", "(III)I"⟩ ⟨"FractionPoolModel", "store", "(III)I"⟩ ∈ lw_tbl := mt_0 _ (List.mem_of_getElem? (i := 27) rfl)
theorem sp_28 : Cond.selects "FractionPoolModel" ⟨"FractionPoolModel", "limbs", "(I)I"⟩ ⟨"FractionPoolModel", "limbs", "(I)I"⟩ ∈ lw_tbl := mt_0 _ (List.mem_of_getElem? (i := 28) rfl)
theorem sp_29 : Cond.selects "FractionPoolModel" ⟨"FractionPoolModel", "parts", "(I)I"⟩ ⟨"FractionPoolModel", "parts", "(I)I"⟩ ∈ lw_tbl := mt_0 _ (List.mem_of_getElem? (i := 29) rfl)
theorem sp_30 : Cond.selects "FractionPoolModel" ⟨"FractionPoolModel", "keep", "(II)V"⟩ ⟨"FractionPoolModel", "keep", "(II)V"⟩ ∈ lw_tbl := mt_0 _ (List.mem_of_getElem? (i := 30) rfl)
theorem sp_31 : Cond.selects "FractionPoolModel" ⟨"FractionPoolModel", "load", "(II)V"⟩ ⟨"FractionPoolModel", "load", "(II)V"⟩ ∈ lw_tbl := mt_0 _ (List.mem_of_getElem? (i := 31) rfl)
theorem sp_32 : Cond.selects "FractionPoolModel" ⟨"FractionPoolModel", "sums", "(IIIZ)I"⟩ ⟨"FractionPoolModel", "sums", "(IIIZ)I"⟩ ∈ lw_tbl := mt_0 _ (List.mem_of_getElem? (i := 32) rfl)
theorem sp_33 : Cond.selects "FractionPoolModel" ⟨"FractionPoolModel", "sum", "(II)I"⟩ ⟨"FractionPoolModel", "sum", "(II)I"⟩ ∈ lw_tbl := mt_0 _ (List.mem_of_getElem? (i := 33) rfl)
theorem sp_34 : Cond.selects "FractionPoolModel" ⟨"FractionPoolModel", "product", "(III)V"⟩ ⟨"FractionPoolModel", "product", "(III)V"⟩ ∈ lw_tbl := mt_0 _ (List.mem_of_getElem? (i := 34) rfl)
theorem sp_35 : Cond.selects "FractionPoolModel" ⟨"FractionPoolModel", "addTo", "(II)V"⟩ ⟨"FractionPoolModel", "addTo", "(II)V"⟩ ∈ lw_tbl := mt_0 _ (List.mem_of_getElem? (i := 35) rfl)
theorem sp_36 : Cond.selects "FractionPoolModel" ⟨"FractionPoolModel", "figure", "(II)I"⟩ ⟨"FractionPoolModel", "figure", "(II)I"⟩ ∈ lw_tbl := mt_0 _ (List.mem_of_getElem? (i := 36) rfl)
theorem sp_37 : Cond.selects "FractionPoolModel" ⟨"FractionPoolModel", "order", "(II)I"⟩ ⟨"FractionPoolModel", "order", "(II)I"⟩ ∈ lw_tbl := mt_0 _ (List.mem_of_getElem? (i := 37) rfl)
theorem sp_38 : Cond.selects "FractionPoolModel" ⟨"FractionPoolModel", "takeFrom", "(II)V"⟩ ⟨"FractionPoolModel", "takeFrom", "(II)V"⟩ ∈ lw_tbl := mt_0 _ (List.mem_of_getElem? (i := 38) rfl)
theorem sp_39 : Cond.selects "FractionPoolModel" ⟨"FractionPoolModel", "products", "(IIIZ)I"⟩ ⟨"FractionPoolModel", "products", "(IIIZ)I"⟩ ∈ lw_tbl := mt_0 _ (List.mem_of_getElem? (i := 39) rfl)
theorem sp_40 : Cond.selects "FractionPoolModel" ⟨"FractionPoolModel", "bits", "(I)I"⟩ ⟨"FractionPoolModel", "bits", "(I)I"⟩ ∈ lw_tbl := mt_0 _ (List.mem_of_getElem? (i := 40) rfl)
theorem sp_41 : Cond.selects "FractionPoolModel" ⟨"FractionPoolModel", "raise", "(II)V"⟩ ⟨"FractionPoolModel", "raise", "(II)V"⟩ ∈ lw_tbl := mt_0 _ (List.mem_of_getElem? (i := 41) rfl)
theorem sp_42 : Cond.selects "FractionPoolModel" ⟨"FractionPoolModel", "doubled", "(II)V"⟩ ⟨"FractionPoolModel", "doubled", "(II)V"⟩ ∈ lw_tbl := mt_0 _ (List.mem_of_getElem? (i := 42) rfl)
theorem sp_43 : Cond.selects "FractionPoolModel" ⟨"FractionPoolModel", "small", "(II)V"⟩ ⟨"FractionPoolModel", "small", "(II)V"⟩ ∈ lw_tbl := mt_0 _ (List.mem_of_getElem? (i := 43) rfl)
theorem sp_44 : Cond.selects "FractionPoolModel" ⟨"FractionPoolModel", "multiple", "(III)I"⟩ ⟨"FractionPoolModel", "multiple", "(III)I"⟩ ∈ lw_tbl := mt_0 _ (List.mem_of_getElem? (i := 44) rfl)
theorem sp_45 : Cond.selects "FractionPoolModel" ⟨"FractionPoolModel", "nearest", "()V"⟩ ⟨"FractionPoolModel", "nearest", "()V"⟩ ∈ lw_tbl := mt_0 _ (List.mem_of_getElem? (i := 45) rfl)
theorem sp_46 : Cond.selects "FractionPoolModel" ⟨"FractionPoolModel", "wrong", "()I"⟩ ⟨"FractionPoolModel", "wrong", "()I"⟩ ∈ lw_tbl := mt_0 _ (List.mem_of_getElem? (i := 46) rfl)
theorem sp_47 : Cond.selects "FractionPoolModel" ⟨"FractionPoolModel", "at", "(I)I"⟩ ⟨"FractionPoolModel", "at", "(I)I"⟩ ∈ lw_tbl := mt_0 _ (List.mem_of_getElem? (i := 47) rfl)
theorem sp_48 : Cond.selects "FractionPoolModel" ⟨"FractionPoolModel", "behind", "(I)I"⟩ ⟨"FractionPoolModel", "behind", "(I)I"⟩ ∈ lw_tbl := mt_0 _ (List.mem_of_getElem? (i := 48) rfl)
theorem sp_49 : Cond.selects "FractionPoolModel" ⟨"FractionPoolModel", "isFigure", "(I)Z"⟩ ⟨"FractionPoolModel", "isFigure", "(I)Z"⟩ ∈ lw_tbl := mt_0 _ (List.mem_of_getElem? (i := 49) rfl)
theorem sp_50 : Cond.selects "FractionPoolModel" ⟨"FractionPoolModel", "figures", "(III)V"⟩ ⟨"FractionPoolModel", "figures", "(III)V"⟩ ∈ lw_tbl := mt_0 _ (List.mem_of_getElem? (i := 50) rfl)
theorem sp_51 : Cond.selects "FractionPoolModel" ⟨"FractionPoolModel", "say", "(I)V"⟩ ⟨"FractionPoolModel", "say", "(I)V"⟩ ∈ lw_tbl := mt_0 _ (List.mem_of_getElem? (i := 51) rfl)
theorem mw_0 : Jvm.Cond.initialized "FractionPoolLaw" ∈ lw_tbl := mt_1 _ (List.mem_of_getElem? (i := 0) rfl)
theorem mw_1 : Jvm.Cond.initialized "FractionPool" ∈ lw_tbl := mt_1 _ (List.mem_of_getElem? (i := 1) rfl)
theorem mw_2 : Jvm.Cond.initialized "FractionPool$Registers" ∈ lw_tbl := mt_1 _ (List.mem_of_getElem? (i := 2) rfl)
theorem mw_3 : Jvm.Cond.initialized "java/lang/Math" ∈ lw_tbl := mt_1 _ (List.mem_of_getElem? (i := 3) rfl)
theorem mw_4 : Jvm.Cond.initialized "FractionPool$Bench" ∈ lw_tbl := mt_1 _ (List.mem_of_getElem? (i := 4) rfl)
theorem mw_5 : Jvm.Cond.initialized "FractionPool$CommonDivisor" ∈ lw_tbl := mt_1 _ (List.mem_of_getElem? (i := 5) rfl)
theorem mw_6 : Jvm.Cond.initialized "FractionPool$Whole" ∈ lw_tbl := mt_1 _ (List.mem_of_getElem? (i := 6) rfl)
theorem mw_7 : Jvm.Cond.initialized "FractionPool$Typed" ∈ lw_tbl := mt_1 _ (List.mem_of_getElem? (i := 7) rfl)
theorem mw_8 : Jvm.Cond.initialized "FractionPool$Printed" ∈ lw_tbl := mt_1 _ (List.mem_of_getElem? (i := 8) rfl)
theorem mw_9 : Jvm.Cond.initialized "FractionPool$Ratio" ∈ lw_tbl := mt_1 _ (List.mem_of_getElem? (i := 9) rfl)
theorem mw_10 : Jvm.Cond.initialized "FractionPoolModel" ∈ lw_tbl := mt_1 _ (List.mem_of_getElem? (i := 10) rfl)
theorem mw_11 : Jvm.Cond.initialized "java/lang/Throwable" ∈ lw_tbl := mt_1 _ (List.mem_of_getElem? (i := 11) rfl)
theorem mw_12 : Jvm.Cond.initialized "java/lang/Exception" ∈ lw_tbl := mt_1 _ (List.mem_of_getElem? (i := 12) rfl)
theorem mw_13 : Jvm.Cond.initialized "java/lang/RuntimeException" ∈ lw_tbl := mt_1 _ (List.mem_of_getElem? (i := 13) rfl)
theorem mw_14 : Jvm.Cond.initialized "java/lang/IndexOutOfBoundsException" ∈ lw_tbl := mt_1 _ (List.mem_of_getElem? (i := 14) rfl)
theorem mw_15 : Jvm.Cond.initialized "java/lang/ArithmeticException" ∈ lw_tbl := mt_1 _ (List.mem_of_getElem? (i := 15) rfl)
theorem mw_16 : Jvm.Cond.initialized "java/lang/UnsupportedOperationException" ∈ lw_tbl := mt_1 _ (List.mem_of_getElem? (i := 16) rfl)
theorem mw_17 : Jvm.Cond.initialized "java/lang/System" ∈ lw_tbl := mt_1 _ (List.mem_of_getElem? (i := 17) rfl)
theorem mw_18 : Jvm.Cond.initialized "java/lang/Integer" ∈ lw_tbl := mt_1 _ (List.mem_of_getElem? (i := 18) rfl)
theorem mw_19 : Jvm.Cond.initialized "java/util/Arrays" ∈ lw_tbl := mt_1 _ (List.mem_of_getElem? (i := 19) rfl)
theorem mw_20 : Jvm.Cond.initialized "java/lang/IllegalArgumentException" ∈ lw_tbl := mt_1 _ (List.mem_of_getElem? (i := 20) rfl)
theorem mw_21 : Jvm.Cond.initialized "java/lang/AbstractStringBuilder" ∈ lw_tbl := mt_1 _ (List.mem_of_getElem? (i := 21) rfl)
theorem mw_22 : Jvm.Cond.initialized "java/lang/StringBuilder" ∈ lw_tbl := mt_1 _ (List.mem_of_getElem? (i := 22) rfl)
theorem mw_23 : Jvm.Cond.initialized "java/lang/String" ∈ lw_tbl := mt_1 _ (List.mem_of_getElem? (i := 23) rfl)
theorem mw_24 : Jvm.Cond.initialized "java/lang/StringUTF16" ∈ lw_tbl := mt_1 _ (List.mem_of_getElem? (i := 24) rfl)
theorem mw_25 : Jvm.Cond.initialized "jdk/internal/util/ArraysSupport" ∈ lw_tbl := mt_1 _ (List.mem_of_getElem? (i := 25) rfl)
theorem mw_26 : Jvm.Cond.initialized "jdk/internal/util/Preconditions" ∈ lw_tbl := mt_1 _ (List.mem_of_getElem? (i := 26) rfl)
theorem mw_27 : Jvm.Cond.initialized "java/lang/StringLatin1" ∈ lw_tbl := mt_1 _ (List.mem_of_getElem? (i := 27) rfl)
theorem mw_28 : Jvm.Cond.initialized "java/lang/ArrayIndexOutOfBoundsException" ∈ lw_tbl := mt_1 _ (List.mem_of_getElem? (i := 28) rfl)
theorem mw_29 : Jvm.Cond.initialized "java/lang/Long" ∈ lw_tbl := mt_1 _ (List.mem_of_getElem? (i := 29) rfl)
theorem mw_30 : Jvm.Cond.classLink "FractionPoolLaw" (8 : Nat) "FractionPool" ∈ lw_tbl := mt_1 _ (List.mem_of_getElem? (i := 30) rfl)
theorem mw_31 : Jvm.Cond.instantiable "FractionPool" (10 : Nat) ∈ lw_tbl := mt_1 _ (List.mem_of_getElem? (i := 31) rfl)
theorem mw_32 : Jvm.Cond.methodLink "FractionPoolLaw" (84 : Nat) ({ cls := "FractionPool", name := "<init>", desc := "(I)V" } : Jvm.MethodName) ∈ lw_tbl := mt_1 _ (List.mem_of_getElem? (i := 32) rfl)
theorem mw_33 : Jvm.Cond.instanceMethod ({ cls := "FractionPool", name := "<init>", desc := "(I)V" } : Jvm.MethodName) ∈ lw_tbl := mt_1 _ (List.mem_of_getElem? (i := 33) rfl)
theorem mw_34 : Jvm.Cond.code ({ cls := "FractionPool", name := "<init>", desc := "(I)V" } : Jvm.MethodName) prog_1_method_1_code (3 : Nat) (Option.none : Option Jvm.ClassFile.FieldType) ∈ lw_tbl := mt_1 _ (List.mem_of_getElem? (i := 34) rfl)
theorem mw_35 : Jvm.Cond.methodLink "FractionPool" (1 : Nat) ({ cls := "java/lang/Object", name := "<init>", desc := "()V" } : Jvm.MethodName) ∈ lw_tbl := mt_1 _ (List.mem_of_getElem? (i := 35) rfl)
theorem mw_36 : Jvm.Cond.instanceMethod ({ cls := "java/lang/Object", name := "<init>", desc := "()V" } : Jvm.MethodName) ∈ lw_tbl := mt_1 _ (List.mem_of_getElem? (i := 36) rfl)
theorem mw_37 : Jvm.Cond.code ({ cls := "java/lang/Object", name := "<init>", desc := "()V" } : Jvm.MethodName) object_method_1_code (1 : Nat) (Option.none : Option Jvm.ClassFile.FieldType) ∈ lw_tbl := mt_1 _ (List.mem_of_getElem? (i := 37) rfl)
theorem mw_38 : Jvm.Cond.methodLink "FractionPool" (13 : Nat) ({ cls := "FractionPool", name := "widthFor", desc := "(I)I" } : Jvm.MethodName) ∈ lw_tbl := mt_1 _ (List.mem_of_getElem? (i := 38) rfl)
theorem mw_39 : Jvm.Cond.static ({ cls := "FractionPool", name := "widthFor", desc := "(I)I" } : Jvm.MethodName) ∈ lw_tbl := mt_1 _ (List.mem_of_getElem? (i := 39) rfl)
theorem mw_40 : Jvm.Cond.code ({ cls := "FractionPool", name := "widthFor", desc := "(I)I" } : Jvm.MethodName) prog_1_method_24_code (1 : Nat) (Option.some Jvm.ClassFile.FieldType.int) ∈ lw_tbl := mt_1 _ (List.mem_of_getElem? (i := 40) rfl)
theorem mw_41 : Jvm.Cond.classLink "FractionPool" (17 : Nat) "FractionPool$Registers" ∈ lw_tbl := mt_1 _ (List.mem_of_getElem? (i := 41) rfl)
theorem mw_42 : Jvm.Cond.instantiable "FractionPool$Registers" (6 : Nat) ∈ lw_tbl := mt_1 _ (List.mem_of_getElem? (i := 42) rfl)
theorem mw_43 : Jvm.Cond.methodLink "FractionPool" (19 : Nat) ({ cls := "FractionPool$Registers", name := "<init>", desc := "(I)V" } : Jvm.MethodName) ∈ lw_tbl := mt_1 _ (List.mem_of_getElem? (i := 43) rfl)
theorem mw_44 : Jvm.Cond.instanceMethod ({ cls := "FractionPool$Registers", name := "<init>", desc := "(I)V" } : Jvm.MethodName) ∈ lw_tbl := mt_1 _ (List.mem_of_getElem? (i := 44) rfl)
theorem mw_45 : Jvm.Cond.code ({ cls := "FractionPool$Registers", name := "<init>", desc := "(I)V" } : Jvm.MethodName) prog_6_method_1_code (3 : Nat) (Option.none : Option Jvm.ClassFile.FieldType) ∈ lw_tbl := mt_1 _ (List.mem_of_getElem? (i := 45) rfl)
theorem mw_46 : Jvm.Cond.methodLink "FractionPool$Registers" (3 : Nat) ({ cls := "java/lang/Object", name := "<init>", desc := "()V" } : Jvm.MethodName) ∈ lw_tbl := mt_1 _ (List.mem_of_getElem? (i := 46) rfl)
theorem mw_47 : Jvm.Cond.methodLink "FractionPool$Registers" (24 : Nat) ({ cls := "java/lang/Math", name := "max", desc := "(II)I" } : Jvm.MethodName) ∈ lw_tbl := mt_1 _ (List.mem_of_getElem? (i := 47) rfl)
theorem mw_48 : Jvm.Cond.static ({ cls := "java/lang/Math", name := "max", desc := "(II)I" } : Jvm.MethodName) ∈ lw_tbl := mt_1 _ (List.mem_of_getElem? (i := 48) rfl)
theorem mw_49 : Jvm.Cond.code ({ cls := "java/lang/Math", name := "max", desc := "(II)I" } : Jvm.MethodName) prog_20_method_65_code (2 : Nat) (Option.some Jvm.ClassFile.FieldType.int) ∈ lw_tbl := mt_1 _ (List.mem_of_getElem? (i := 49) rfl)
theorem mw_50 : Jvm.Cond.fieldLink "FractionPool$Registers" (30 : Nat) "FractionPool$Registers" "pool" "[I" ∈ lw_tbl := mt_1 _ (List.mem_of_getElem? (i := 50) rfl)
theorem mw_51 : Jvm.Cond.fieldLink "FractionPool$Registers" (9 : Nat) "FractionPool$Registers" "from" "[I" ∈ lw_tbl := mt_1 _ (List.mem_of_getElem? (i := 51) rfl)
theorem mw_52 : Jvm.Cond.fieldLink "FractionPool$Registers" (15 : Nat) "FractionPool$Registers" "tops" "[I" ∈ lw_tbl := mt_1 _ (List.mem_of_getElem? (i := 52) rfl)
theorem mw_53 : Jvm.Cond.fieldLink "FractionPool$Registers" (18 : Nat) "FractionPool$Registers" "bottoms" "[I" ∈ lw_tbl := mt_1 _ (List.mem_of_getElem? (i := 53) rfl)
theorem mw_54 : Jvm.Cond.fieldLink "FractionPool$Registers" (21 : Nat) "FractionPool$Registers" "signs" "[I" ∈ lw_tbl := mt_1 _ (List.mem_of_getElem? (i := 54) rfl)
theorem mw_55 : Jvm.Cond.fieldLink "FractionPool$Registers" (33 : Nat) "FractionPool$Registers" "taken" "I" ∈ lw_tbl := mt_1 _ (List.mem_of_getElem? (i := 55) rfl)
theorem mw_56 : Jvm.Cond.fieldLink "FractionPool" (216 : Nat) "FractionPool$Registers" "taken" "I" ∈ lw_tbl := mt_1 _ (List.mem_of_getElem? (i := 56) rfl)
theorem mw_57 : Jvm.Cond.laysFinal "FractionPool$Registers" "FractionPool$Registers" "pool" "[I" ∈ lw_tbl := mt_1 _ (List.mem_of_getElem? (i := 57) rfl)
theorem mw_58 : Jvm.Cond.soleField "FractionPool$Registers" "pool" ∈ lw_tbl := mt_1 _ (List.mem_of_getElem? (i := 58) rfl)
theorem mw_59 : Jvm.Cond.laysFinal "FractionPool$Registers" "FractionPool$Registers" "from" "[I" ∈ lw_tbl := mt_1 _ (List.mem_of_getElem? (i := 59) rfl)
theorem mw_60 : Jvm.Cond.soleField "FractionPool$Registers" "from" ∈ lw_tbl := mt_1 _ (List.mem_of_getElem? (i := 60) rfl)
theorem mw_61 : Jvm.Cond.laysFinal "FractionPool$Registers" "FractionPool$Registers" "tops" "[I" ∈ lw_tbl := mt_1 _ (List.mem_of_getElem? (i := 61) rfl)
theorem mw_62 : Jvm.Cond.soleField "FractionPool$Registers" "tops" ∈ lw_tbl := mt_1 _ (List.mem_of_getElem? (i := 62) rfl)
theorem mw_63 : Jvm.Cond.laysFinal "FractionPool$Registers" "FractionPool$Registers" "bottoms" "[I" ∈ lw_tbl := mt_1 _ (List.mem_of_getElem? (i := 63) rfl)
theorem mw_64 : Jvm.Cond.soleField "FractionPool$Registers" "bottoms" ∈ lw_tbl := mt_1 _ (List.mem_of_getElem? (i := 64) rfl)
theorem mw_65 : Jvm.Cond.laysFinal "FractionPool$Registers" "FractionPool$Registers" "signs" "[I" ∈ lw_tbl := mt_1 _ (List.mem_of_getElem? (i := 65) rfl)
theorem mw_66 : Jvm.Cond.soleField "FractionPool$Registers" "signs" ∈ lw_tbl := mt_1 _ (List.mem_of_getElem? (i := 66) rfl)
theorem mw_67 : Jvm.Cond.lays "FractionPool$Registers" "FractionPool$Registers" "taken" "I" ∈ lw_tbl := mt_1 _ (List.mem_of_getElem? (i := 67) rfl)
theorem mw_68 : Jvm.Cond.soleField "FractionPool$Registers" "taken" ∈ lw_tbl := mt_1 _ (List.mem_of_getElem? (i := 68) rfl)
theorem mw_69 : Jvm.Cond.superclass "FractionPool$Registers" "java/lang/Object" ∈ lw_tbl := mt_1 _ (List.mem_of_getElem? (i := 69) rfl)
theorem mw_70 : Jvm.Cond.arrayClass Jvm.ClassFile.FieldType.int ∈ lw_tbl := mt_1 _ (List.mem_of_getElem? (i := 70) rfl)
theorem mw_71 : Jvm.Cond.classLink "FractionPool" (26 : Nat) "FractionPool$Bench" ∈ lw_tbl := mt_1 _ (List.mem_of_getElem? (i := 71) rfl)
theorem mw_72 : Jvm.Cond.instantiable "FractionPool$Bench" (4 : Nat) ∈ lw_tbl := mt_1 _ (List.mem_of_getElem? (i := 72) rfl)
theorem mw_73 : Jvm.Cond.methodLink "FractionPool" (28 : Nat) ({ cls := "FractionPool$Bench", name := "<init>", desc := "(I)V" } : Jvm.MethodName) ∈ lw_tbl := mt_1 _ (List.mem_of_getElem? (i := 73) rfl)
theorem mw_74 : Jvm.Cond.instanceMethod ({ cls := "FractionPool$Bench", name := "<init>", desc := "(I)V" } : Jvm.MethodName) ∈ lw_tbl := mt_1 _ (List.mem_of_getElem? (i := 74) rfl)
theorem mw_75 : Jvm.Cond.code ({ cls := "FractionPool$Bench", name := "<init>", desc := "(I)V" } : Jvm.MethodName) prog_2_method_1_code (2 : Nat) (Option.none : Option Jvm.ClassFile.FieldType) ∈ lw_tbl := mt_1 _ (List.mem_of_getElem? (i := 75) rfl)
theorem mw_76 : Jvm.Cond.methodLink "FractionPool$Bench" (1 : Nat) ({ cls := "java/lang/Object", name := "<init>", desc := "()V" } : Jvm.MethodName) ∈ lw_tbl := mt_1 _ (List.mem_of_getElem? (i := 76) rfl)
theorem mw_77 : Jvm.Cond.classLink "FractionPool$Bench" (7 : Nat) "FractionPool$CommonDivisor" ∈ lw_tbl := mt_1 _ (List.mem_of_getElem? (i := 77) rfl)
theorem mw_78 : Jvm.Cond.instantiable "FractionPool$CommonDivisor" (7 : Nat) ∈ lw_tbl := mt_1 _ (List.mem_of_getElem? (i := 78) rfl)
theorem mw_79 : Jvm.Cond.methodLink "FractionPool$Bench" (9 : Nat) ({ cls := "FractionPool$CommonDivisor", name := "<init>", desc := "(I)V" } : Jvm.MethodName) ∈ lw_tbl := mt_1 _ (List.mem_of_getElem? (i := 79) rfl)
theorem mw_80 : Jvm.Cond.instanceMethod ({ cls := "FractionPool$CommonDivisor", name := "<init>", desc := "(I)V" } : Jvm.MethodName) ∈ lw_tbl := mt_1 _ (List.mem_of_getElem? (i := 80) rfl)
theorem mw_81 : Jvm.Cond.code ({ cls := "FractionPool$CommonDivisor", name := "<init>", desc := "(I)V" } : Jvm.MethodName) prog_3_method_1_code (2 : Nat) (Option.none : Option Jvm.ClassFile.FieldType) ∈ lw_tbl := mt_1 _ (List.mem_of_getElem? (i := 81) rfl)
theorem mw_82 : Jvm.Cond.methodLink "FractionPool$CommonDivisor" (3 : Nat) ({ cls := "java/lang/Object", name := "<init>", desc := "()V" } : Jvm.MethodName) ∈ lw_tbl := mt_1 _ (List.mem_of_getElem? (i := 82) rfl)
theorem mw_83 : Jvm.Cond.classLink "FractionPool$CommonDivisor" (9 : Nat) "FractionPool$Whole" ∈ lw_tbl := mt_1 _ (List.mem_of_getElem? (i := 83) rfl)
theorem mw_84 : Jvm.Cond.instantiable "FractionPool$Whole" (2 : Nat) ∈ lw_tbl := mt_1 _ (List.mem_of_getElem? (i := 84) rfl)
theorem mw_85 : Jvm.Cond.methodLink "FractionPool$CommonDivisor" (11 : Nat) ({ cls := "FractionPool$Whole", name := "<init>", desc := "(I)V" } : Jvm.MethodName) ∈ lw_tbl := mt_1 _ (List.mem_of_getElem? (i := 85) rfl)
theorem mw_86 : Jvm.Cond.instanceMethod ({ cls := "FractionPool$Whole", name := "<init>", desc := "(I)V" } : Jvm.MethodName) ∈ lw_tbl := mt_1 _ (List.mem_of_getElem? (i := 86) rfl)
theorem mw_87 : Jvm.Cond.code ({ cls := "FractionPool$Whole", name := "<init>", desc := "(I)V" } : Jvm.MethodName) prog_8_method_1_code (2 : Nat) (Option.none : Option Jvm.ClassFile.FieldType) ∈ lw_tbl := mt_1 _ (List.mem_of_getElem? (i := 87) rfl)
theorem mw_88 : Jvm.Cond.methodLink "FractionPool$Whole" (3 : Nat) ({ cls := "java/lang/Object", name := "<init>", desc := "()V" } : Jvm.MethodName) ∈ lw_tbl := mt_1 _ (List.mem_of_getElem? (i := 88) rfl)
theorem mw_89 : Jvm.Cond.methodLink "FractionPool$Whole" (9 : Nat) ({ cls := "java/lang/Math", name := "max", desc := "(II)I" } : Jvm.MethodName) ∈ lw_tbl := mt_1 _ (List.mem_of_getElem? (i := 89) rfl)
theorem mw_90 : Jvm.Cond.fieldLink "FractionPool$Whole" (15 : Nat) "FractionPool$Whole" "limbs" "[I" ∈ lw_tbl := mt_1 _ (List.mem_of_getElem? (i := 90) rfl)
theorem mw_91 : Jvm.Cond.fieldLink "FractionPool$CommonDivisor" (85 : Nat) "FractionPool$Whole" "limbs" "[I" ∈ lw_tbl := mt_1 _ (List.mem_of_getElem? (i := 91) rfl)
theorem mw_92 : Jvm.Cond.fieldLink "FractionPool$Registers" (85 : Nat) "FractionPool$Whole" "limbs" "[I" ∈ lw_tbl := mt_1 _ (List.mem_of_getElem? (i := 92) rfl)
theorem mw_93 : Jvm.Cond.fieldLink "FractionPool$CommonDivisor" (35 : Nat) "FractionPool$Whole" "size" "I" ∈ lw_tbl := mt_1 _ (List.mem_of_getElem? (i := 93) rfl)
theorem mw_94 : Jvm.Cond.fieldLink "FractionPool$Whole" (28 : Nat) "FractionPool$Whole" "size" "I" ∈ lw_tbl := mt_1 _ (List.mem_of_getElem? (i := 94) rfl)
theorem mw_95 : Jvm.Cond.fieldLink "FractionPool$Ratio" (36 : Nat) "FractionPool$Whole" "size" "I" ∈ lw_tbl := mt_1 _ (List.mem_of_getElem? (i := 95) rfl)
theorem mw_96 : Jvm.Cond.fieldLink "FractionPool$Printed" (55 : Nat) "FractionPool$Whole" "size" "I" ∈ lw_tbl := mt_1 _ (List.mem_of_getElem? (i := 96) rfl)
theorem mw_97 : Jvm.Cond.fieldLink "FractionPool$Typed" (63 : Nat) "FractionPool$Whole" "size" "I" ∈ lw_tbl := mt_1 _ (List.mem_of_getElem? (i := 97) rfl)
theorem mw_98 : Jvm.Cond.fieldLink "FractionPool$Registers" (68 : Nat) "FractionPool$Whole" "size" "I" ∈ lw_tbl := mt_1 _ (List.mem_of_getElem? (i := 98) rfl)
theorem mw_99 : Jvm.Cond.fieldLink "FractionPool$Bench" (115 : Nat) "FractionPool$Whole" "size" "I" ∈ lw_tbl := mt_1 _ (List.mem_of_getElem? (i := 99) rfl)
theorem mw_100 : Jvm.Cond.fieldLink "FractionPool" (174 : Nat) "FractionPool$Whole" "size" "I" ∈ lw_tbl := mt_1 _ (List.mem_of_getElem? (i := 100) rfl)
theorem mw_101 : Jvm.Cond.laysFinal "FractionPool$Whole" "FractionPool$Whole" "limbs" "[I" ∈ lw_tbl := mt_1 _ (List.mem_of_getElem? (i := 101) rfl)
theorem mw_102 : Jvm.Cond.soleField "FractionPool$Whole" "limbs" ∈ lw_tbl := mt_1 _ (List.mem_of_getElem? (i := 102) rfl)
theorem mw_103 : Jvm.Cond.lays "FractionPool$Whole" "FractionPool$Whole" "size" "I" ∈ lw_tbl := mt_1 _ (List.mem_of_getElem? (i := 103) rfl)
theorem mw_104 : Jvm.Cond.soleField "FractionPool$Whole" "size" ∈ lw_tbl := mt_1 _ (List.mem_of_getElem? (i := 104) rfl)
theorem mw_105 : Jvm.Cond.superclass "FractionPool$Whole" "java/lang/Object" ∈ lw_tbl := mt_1 _ (List.mem_of_getElem? (i := 105) rfl)
theorem mw_106 : Jvm.Cond.fieldLink "FractionPool$CommonDivisor" (14 : Nat) "FractionPool$CommonDivisor" "large" "LFractionPool$Whole;" ∈ lw_tbl := mt_1 _ (List.mem_of_getElem? (i := 106) rfl)
theorem mw_107 : Jvm.Cond.fieldLink "FractionPool$CommonDivisor" (20 : Nat) "FractionPool$CommonDivisor" "small" "LFractionPool$Whole;" ∈ lw_tbl := mt_1 _ (List.mem_of_getElem? (i := 107) rfl)
theorem mw_108 : Jvm.Cond.fieldLink "FractionPool$CommonDivisor" (23 : Nat) "FractionPool$CommonDivisor" "quotient" "LFractionPool$Whole;" ∈ lw_tbl := mt_1 _ (List.mem_of_getElem? (i := 108) rfl)
theorem mw_109 : Jvm.Cond.fieldLink "FractionPool$CommonDivisor" (67 : Nat) "FractionPool$CommonDivisor" "a" "J" ∈ lw_tbl := mt_1 _ (List.mem_of_getElem? (i := 109) rfl)
theorem mw_110 : Jvm.Cond.fieldLink "FractionPool$CommonDivisor" (42 : Nat) "FractionPool$CommonDivisor" "b" "J" ∈ lw_tbl := mt_1 _ (List.mem_of_getElem? (i := 110) rfl)
theorem mw_111 : Jvm.Cond.fieldLink "FractionPool$CommonDivisor" (70 : Nat) "FractionPool$CommonDivisor" "c" "J" ∈ lw_tbl := mt_1 _ (List.mem_of_getElem? (i := 111) rfl)
theorem mw_112 : Jvm.Cond.fieldLink "FractionPool$CommonDivisor" (73 : Nat) "FractionPool$CommonDivisor" "d" "J" ∈ lw_tbl := mt_1 _ (List.mem_of_getElem? (i := 112) rfl)
theorem mw_113 : Jvm.Cond.lays "FractionPool$CommonDivisor" "FractionPool$CommonDivisor" "large" "LFractionPool$Whole;" ∈ lw_tbl := mt_1 _ (List.mem_of_getElem? (i := 113) rfl)
theorem mw_114 : Jvm.Cond.soleField "FractionPool$CommonDivisor" "large" ∈ lw_tbl := mt_1 _ (List.mem_of_getElem? (i := 114) rfl)
theorem mw_115 : Jvm.Cond.lays "FractionPool$CommonDivisor" "FractionPool$CommonDivisor" "small" "LFractionPool$Whole;" ∈ lw_tbl := mt_1 _ (List.mem_of_getElem? (i := 115) rfl)
theorem mw_116 : Jvm.Cond.soleField "FractionPool$CommonDivisor" "small" ∈ lw_tbl := mt_1 _ (List.mem_of_getElem? (i := 116) rfl)
theorem mw_117 : Jvm.Cond.laysFinal "FractionPool$CommonDivisor" "FractionPool$CommonDivisor" "quotient" "LFractionPool$Whole;" ∈ lw_tbl := mt_1 _ (List.mem_of_getElem? (i := 117) rfl)
theorem mw_118 : Jvm.Cond.soleField "FractionPool$CommonDivisor" "quotient" ∈ lw_tbl := mt_1 _ (List.mem_of_getElem? (i := 118) rfl)
theorem mw_119 : Jvm.Cond.lays "FractionPool$CommonDivisor" "FractionPool$CommonDivisor" "a" "J" ∈ lw_tbl := mt_1 _ (List.mem_of_getElem? (i := 119) rfl)
theorem mw_120 : Jvm.Cond.soleField "FractionPool$CommonDivisor" "a" ∈ lw_tbl := mt_1 _ (List.mem_of_getElem? (i := 120) rfl)
theorem mw_121 : Jvm.Cond.lays "FractionPool$CommonDivisor" "FractionPool$CommonDivisor" "b" "J" ∈ lw_tbl := mt_1 _ (List.mem_of_getElem? (i := 121) rfl)
theorem mw_122 : Jvm.Cond.soleField "FractionPool$CommonDivisor" "b" ∈ lw_tbl := mt_1 _ (List.mem_of_getElem? (i := 122) rfl)
theorem mw_123 : Jvm.Cond.lays "FractionPool$CommonDivisor" "FractionPool$CommonDivisor" "c" "J" ∈ lw_tbl := mt_1 _ (List.mem_of_getElem? (i := 123) rfl)
theorem mw_124 : Jvm.Cond.soleField "FractionPool$CommonDivisor" "c" ∈ lw_tbl := mt_1 _ (List.mem_of_getElem? (i := 124) rfl)
theorem mw_125 : Jvm.Cond.lays "FractionPool$CommonDivisor" "FractionPool$CommonDivisor" "d" "J" ∈ lw_tbl := mt_1 _ (List.mem_of_getElem? (i := 125) rfl)
theorem mw_126 : Jvm.Cond.soleField "FractionPool$CommonDivisor" "d" ∈ lw_tbl := mt_1 _ (List.mem_of_getElem? (i := 126) rfl)
theorem mw_127 : Jvm.Cond.superclass "FractionPool$CommonDivisor" "java/lang/Object" ∈ lw_tbl := mt_1 _ (List.mem_of_getElem? (i := 127) rfl)
theorem mw_128 : Jvm.Cond.classLink "FractionPool$Bench" (18 : Nat) "FractionPool$Whole" ∈ lw_tbl := mt_1 _ (List.mem_of_getElem? (i := 128) rfl)
theorem mw_129 : Jvm.Cond.methodLink "FractionPool$Bench" (20 : Nat) ({ cls := "FractionPool$Whole", name := "<init>", desc := "(I)V" } : Jvm.MethodName) ∈ lw_tbl := mt_1 _ (List.mem_of_getElem? (i := 129) rfl)
theorem mw_130 : Jvm.Cond.fieldLink "FractionPool$Bench" (12 : Nat) "FractionPool$Bench" "divisor" "LFractionPool$CommonDivisor;" ∈ lw_tbl := mt_1 _ (List.mem_of_getElem? (i := 130) rfl)
theorem mw_131 : Jvm.Cond.fieldLink "FractionPool$Bench" (21 : Nat) "FractionPool$Bench" "common" "LFractionPool$Whole;" ∈ lw_tbl := mt_1 _ (List.mem_of_getElem? (i := 131) rfl)
theorem mw_132 : Jvm.Cond.fieldLink "FractionPool$Bench" (25 : Nat) "FractionPool$Bench" "spare" "LFractionPool$Whole;" ∈ lw_tbl := mt_1 _ (List.mem_of_getElem? (i := 132) rfl)
theorem mw_133 : Jvm.Cond.fieldLink "FractionPool$Bench" (28 : Nat) "FractionPool$Bench" "rest" "LFractionPool$Whole;" ∈ lw_tbl := mt_1 _ (List.mem_of_getElem? (i := 133) rfl)
theorem mw_134 : Jvm.Cond.laysFinal "FractionPool$Bench" "FractionPool$Bench" "divisor" "LFractionPool$CommonDivisor;" ∈ lw_tbl := mt_1 _ (List.mem_of_getElem? (i := 134) rfl)
theorem mw_135 : Jvm.Cond.soleField "FractionPool$Bench" "divisor" ∈ lw_tbl := mt_1 _ (List.mem_of_getElem? (i := 135) rfl)
theorem mw_136 : Jvm.Cond.laysFinal "FractionPool$Bench" "FractionPool$Bench" "common" "LFractionPool$Whole;" ∈ lw_tbl := mt_1 _ (List.mem_of_getElem? (i := 136) rfl)
theorem mw_137 : Jvm.Cond.soleField "FractionPool$Bench" "common" ∈ lw_tbl := mt_1 _ (List.mem_of_getElem? (i := 137) rfl)
theorem mw_138 : Jvm.Cond.laysFinal "FractionPool$Bench" "FractionPool$Bench" "spare" "LFractionPool$Whole;" ∈ lw_tbl := mt_1 _ (List.mem_of_getElem? (i := 138) rfl)
theorem mw_139 : Jvm.Cond.soleField "FractionPool$Bench" "spare" ∈ lw_tbl := mt_1 _ (List.mem_of_getElem? (i := 139) rfl)
theorem mw_140 : Jvm.Cond.laysFinal "FractionPool$Bench" "FractionPool$Bench" "rest" "LFractionPool$Whole;" ∈ lw_tbl := mt_1 _ (List.mem_of_getElem? (i := 140) rfl)
theorem mw_141 : Jvm.Cond.soleField "FractionPool$Bench" "rest" ∈ lw_tbl := mt_1 _ (List.mem_of_getElem? (i := 141) rfl)
theorem mw_142 : Jvm.Cond.superclass "FractionPool$Bench" "java/lang/Object" ∈ lw_tbl := mt_1 _ (List.mem_of_getElem? (i := 142) rfl)
theorem mw_143 : Jvm.Cond.classLink "FractionPool" (33 : Nat) "FractionPool$Typed" ∈ lw_tbl := mt_1 _ (List.mem_of_getElem? (i := 143) rfl)
theorem mw_144 : Jvm.Cond.instantiable "FractionPool$Typed" (4 : Nat) ∈ lw_tbl := mt_1 _ (List.mem_of_getElem? (i := 144) rfl)
theorem mw_145 : Jvm.Cond.methodLinkNest "FractionPool" (35 : Nat) ({ cls := "FractionPool$Typed", name := "<init>", desc := "()V" } : Jvm.MethodName) "FractionPool" ∈ lw_tbl := mt_1 _ (List.mem_of_getElem? (i := 145) rfl)
theorem mw_146 : Jvm.Cond.instanceMethod ({ cls := "FractionPool$Typed", name := "<init>", desc := "()V" } : Jvm.MethodName) ∈ lw_tbl := mt_1 _ (List.mem_of_getElem? (i := 146) rfl)
theorem mw_147 : Jvm.Cond.code ({ cls := "FractionPool$Typed", name := "<init>", desc := "()V" } : Jvm.MethodName) prog_7_method_1_code (1 : Nat) (Option.none : Option Jvm.ClassFile.FieldType) ∈ lw_tbl := mt_1 _ (List.mem_of_getElem? (i := 147) rfl)
theorem mw_148 : Jvm.Cond.methodLink "FractionPool$Typed" (3 : Nat) ({ cls := "java/lang/Object", name := "<init>", desc := "()V" } : Jvm.MethodName) ∈ lw_tbl := mt_1 _ (List.mem_of_getElem? (i := 148) rfl)
theorem mw_149 : Jvm.Cond.fieldLink "FractionPool$Typed" (9 : Nat) "FractionPool$Typed" "characters" "[C" ∈ lw_tbl := mt_1 _ (List.mem_of_getElem? (i := 149) rfl)
theorem mw_150 : Jvm.Cond.fieldLink "FractionPool$Typed" (23 : Nat) "FractionPool$Typed" "count" "I" ∈ lw_tbl := mt_1 _ (List.mem_of_getElem? (i := 150) rfl)
theorem mw_151 : Jvm.Cond.fieldLink "FractionPool$Typed" (26 : Nat) "FractionPool$Typed" "judged" "I" ∈ lw_tbl := mt_1 _ (List.mem_of_getElem? (i := 151) rfl)
theorem mw_152 : Jvm.Cond.fieldLink "FractionPool$Typed" (15 : Nat) "FractionPool$Typed" "latestFault" "I" ∈ lw_tbl := mt_1 _ (List.mem_of_getElem? (i := 152) rfl)
theorem mw_153 : Jvm.Cond.fieldLink "FractionPool" (226 : Nat) "FractionPool$Typed" "latestFault" "I" ∈ lw_tbl := mt_1 _ (List.mem_of_getElem? (i := 153) rfl)
theorem mw_154 : Jvm.Cond.laysFinal "FractionPool$Typed" "FractionPool$Typed" "characters" "[C" ∈ lw_tbl := mt_1 _ (List.mem_of_getElem? (i := 154) rfl)
theorem mw_155 : Jvm.Cond.soleField "FractionPool$Typed" "characters" ∈ lw_tbl := mt_1 _ (List.mem_of_getElem? (i := 155) rfl)
theorem mw_156 : Jvm.Cond.lays "FractionPool$Typed" "FractionPool$Typed" "count" "I" ∈ lw_tbl := mt_1 _ (List.mem_of_getElem? (i := 156) rfl)
theorem mw_157 : Jvm.Cond.soleField "FractionPool$Typed" "count" ∈ lw_tbl := mt_1 _ (List.mem_of_getElem? (i := 157) rfl)
theorem mw_158 : Jvm.Cond.lays "FractionPool$Typed" "FractionPool$Typed" "judged" "I" ∈ lw_tbl := mt_1 _ (List.mem_of_getElem? (i := 158) rfl)
theorem mw_159 : Jvm.Cond.soleField "FractionPool$Typed" "judged" ∈ lw_tbl := mt_1 _ (List.mem_of_getElem? (i := 159) rfl)
theorem mw_160 : Jvm.Cond.lays "FractionPool$Typed" "FractionPool$Typed" "latestFault" "I" ∈ lw_tbl := mt_1 _ (List.mem_of_getElem? (i := 160) rfl)
theorem mw_161 : Jvm.Cond.soleField "FractionPool$Typed" "latestFault" ∈ lw_tbl := mt_1 _ (List.mem_of_getElem? (i := 161) rfl)
theorem mw_162 : Jvm.Cond.superclass "FractionPool$Typed" "java/lang/Object" ∈ lw_tbl := mt_1 _ (List.mem_of_getElem? (i := 162) rfl)
theorem mw_163 : Jvm.Cond.arrayClass Jvm.ClassFile.FieldType.char ∈ lw_tbl := mt_1 _ (List.mem_of_getElem? (i := 163) rfl)
theorem mw_164 : Jvm.Cond.classLink "FractionPool" (40 : Nat) "FractionPool$Printed" ∈ lw_tbl := mt_1 _ (List.mem_of_getElem? (i := 164) rfl)
theorem mw_165 : Jvm.Cond.instantiable "FractionPool$Printed" (2 : Nat) ∈ lw_tbl := mt_1 _ (List.mem_of_getElem? (i := 165) rfl)
theorem mw_166 : Jvm.Cond.methodLink "FractionPool" (42 : Nat) ({ cls := "FractionPool$Printed", name := "<init>", desc := "(I)V" } : Jvm.MethodName) ∈ lw_tbl := mt_1 _ (List.mem_of_getElem? (i := 166) rfl)
theorem mw_167 : Jvm.Cond.instanceMethod ({ cls := "FractionPool$Printed", name := "<init>", desc := "(I)V" } : Jvm.MethodName) ∈ lw_tbl := mt_1 _ (List.mem_of_getElem? (i := 167) rfl)
theorem mw_168 : Jvm.Cond.code ({ cls := "FractionPool$Printed", name := "<init>", desc := "(I)V" } : Jvm.MethodName) prog_4_method_1_code (2 : Nat) (Option.none : Option Jvm.ClassFile.FieldType) ∈ lw_tbl := mt_1 _ (List.mem_of_getElem? (i := 168) rfl)
theorem mw_169 : Jvm.Cond.methodLink "FractionPool$Printed" (3 : Nat) ({ cls := "java/lang/Object", name := "<init>", desc := "()V" } : Jvm.MethodName) ∈ lw_tbl := mt_1 _ (List.mem_of_getElem? (i := 169) rfl)
theorem mw_170 : Jvm.Cond.methodLink "FractionPool$Printed" (9 : Nat) ({ cls := "java/lang/Math", name := "max", desc := "(II)I" } : Jvm.MethodName) ∈ lw_tbl := mt_1 _ (List.mem_of_getElem? (i := 170) rfl)
theorem mw_171 : Jvm.Cond.fieldLink "FractionPool$Printed" (15 : Nat) "FractionPool$Printed" "row" "[C" ∈ lw_tbl := mt_1 _ (List.mem_of_getElem? (i := 171) rfl)
theorem mw_172 : Jvm.Cond.fieldLink "FractionPool$Printed" (21 : Nat) "FractionPool$Printed" "from" "I" ∈ lw_tbl := mt_1 _ (List.mem_of_getElem? (i := 172) rfl)
theorem mw_173 : Jvm.Cond.laysFinal "FractionPool$Printed" "FractionPool$Printed" "row" "[C" ∈ lw_tbl := mt_1 _ (List.mem_of_getElem? (i := 173) rfl)
theorem mw_174 : Jvm.Cond.soleField "FractionPool$Printed" "row" ∈ lw_tbl := mt_1 _ (List.mem_of_getElem? (i := 174) rfl)
theorem mw_175 : Jvm.Cond.lays "FractionPool$Printed" "FractionPool$Printed" "from" "I" ∈ lw_tbl := mt_1 _ (List.mem_of_getElem? (i := 175) rfl)
theorem mw_176 : Jvm.Cond.soleField "FractionPool$Printed" "from" ∈ lw_tbl := mt_1 _ (List.mem_of_getElem? (i := 176) rfl)
theorem mw_177 : Jvm.Cond.superclass "FractionPool$Printed" "java/lang/Object" ∈ lw_tbl := mt_1 _ (List.mem_of_getElem? (i := 177) rfl)
theorem mw_178 : Jvm.Cond.classLink "FractionPool" (47 : Nat) "FractionPool$Ratio" ∈ lw_tbl := mt_1 _ (List.mem_of_getElem? (i := 178) rfl)
theorem mw_179 : Jvm.Cond.instantiable "FractionPool$Ratio" (3 : Nat) ∈ lw_tbl := mt_1 _ (List.mem_of_getElem? (i := 179) rfl)
theorem mw_180 : Jvm.Cond.methodLink "FractionPool" (49 : Nat) ({ cls := "FractionPool$Ratio", name := "<init>", desc := "(I)V" } : Jvm.MethodName) ∈ lw_tbl := mt_1 _ (List.mem_of_getElem? (i := 180) rfl)
theorem mw_181 : Jvm.Cond.instanceMethod ({ cls := "FractionPool$Ratio", name := "<init>", desc := "(I)V" } : Jvm.MethodName) ∈ lw_tbl := mt_1 _ (List.mem_of_getElem? (i := 181) rfl)
theorem mw_182 : Jvm.Cond.code ({ cls := "FractionPool$Ratio", name := "<init>", desc := "(I)V" } : Jvm.MethodName) prog_5_method_1_code (2 : Nat) (Option.none : Option Jvm.ClassFile.FieldType) ∈ lw_tbl := mt_1 _ (List.mem_of_getElem? (i := 182) rfl)
theorem mw_183 : Jvm.Cond.methodLink "FractionPool$Ratio" (1 : Nat) ({ cls := "java/lang/Object", name := "<init>", desc := "()V" } : Jvm.MethodName) ∈ lw_tbl := mt_1 _ (List.mem_of_getElem? (i := 183) rfl)
theorem mw_184 : Jvm.Cond.classLink "FractionPool$Ratio" (7 : Nat) "FractionPool$Whole" ∈ lw_tbl := mt_1 _ (List.mem_of_getElem? (i := 184) rfl)
theorem mw_185 : Jvm.Cond.methodLink "FractionPool$Ratio" (9 : Nat) ({ cls := "FractionPool$Whole", name := "<init>", desc := "(I)V" } : Jvm.MethodName) ∈ lw_tbl := mt_1 _ (List.mem_of_getElem? (i := 185) rfl)
theorem mw_186 : Jvm.Cond.fieldLink "FractionPool$Ratio" (21 : Nat) "FractionPool$Ratio" "sign" "I" ∈ lw_tbl := mt_1 _ (List.mem_of_getElem? (i := 186) rfl)
theorem mw_187 : Jvm.Cond.fieldLink "FractionPool" (105 : Nat) "FractionPool$Ratio" "sign" "I" ∈ lw_tbl := mt_1 _ (List.mem_of_getElem? (i := 187) rfl)
theorem mw_188 : Jvm.Cond.fieldLink "FractionPool$Printed" (52 : Nat) "FractionPool$Ratio" "sign" "I" ∈ lw_tbl := mt_1 _ (List.mem_of_getElem? (i := 188) rfl)
theorem mw_189 : Jvm.Cond.fieldLink "FractionPool$Bench" (64 : Nat) "FractionPool$Ratio" "sign" "I" ∈ lw_tbl := mt_1 _ (List.mem_of_getElem? (i := 189) rfl)
theorem mw_190 : Jvm.Cond.fieldLink "FractionPool$Registers" (47 : Nat) "FractionPool$Ratio" "sign" "I" ∈ lw_tbl := mt_1 _ (List.mem_of_getElem? (i := 190) rfl)
theorem mw_191 : Jvm.Cond.fieldLink "FractionPool$Typed" (66 : Nat) "FractionPool$Ratio" "sign" "I" ∈ lw_tbl := mt_1 _ (List.mem_of_getElem? (i := 191) rfl)
theorem mw_192 : Jvm.Cond.fieldLink "FractionPool$Ratio" (12 : Nat) "FractionPool$Ratio" "top" "LFractionPool$Whole;" ∈ lw_tbl := mt_1 _ (List.mem_of_getElem? (i := 192) rfl)
theorem mw_193 : Jvm.Cond.fieldLink "FractionPool" (76 : Nat) "FractionPool$Ratio" "top" "LFractionPool$Whole;" ∈ lw_tbl := mt_1 _ (List.mem_of_getElem? (i := 193) rfl)
theorem mw_194 : Jvm.Cond.fieldLink "FractionPool$Bench" (50 : Nat) "FractionPool$Ratio" "top" "LFractionPool$Whole;" ∈ lw_tbl := mt_1 _ (List.mem_of_getElem? (i := 194) rfl)
theorem mw_195 : Jvm.Cond.fieldLink "FractionPool$Printed" (49 : Nat) "FractionPool$Ratio" "top" "LFractionPool$Whole;" ∈ lw_tbl := mt_1 _ (List.mem_of_getElem? (i := 195) rfl)
theorem mw_196 : Jvm.Cond.fieldLink "FractionPool$Registers" (52 : Nat) "FractionPool$Ratio" "top" "LFractionPool$Whole;" ∈ lw_tbl := mt_1 _ (List.mem_of_getElem? (i := 196) rfl)
theorem mw_197 : Jvm.Cond.fieldLink "FractionPool$Typed" (46 : Nat) "FractionPool$Ratio" "top" "LFractionPool$Whole;" ∈ lw_tbl := mt_1 _ (List.mem_of_getElem? (i := 197) rfl)
theorem mw_198 : Jvm.Cond.fieldLink "FractionPool$Ratio" (18 : Nat) "FractionPool$Ratio" "bottom" "LFractionPool$Whole;" ∈ lw_tbl := mt_1 _ (List.mem_of_getElem? (i := 198) rfl)
theorem mw_199 : Jvm.Cond.fieldLink "FractionPool" (92 : Nat) "FractionPool$Ratio" "bottom" "LFractionPool$Whole;" ∈ lw_tbl := mt_1 _ (List.mem_of_getElem? (i := 199) rfl)
theorem mw_200 : Jvm.Cond.fieldLink "FractionPool$Bench" (55 : Nat) "FractionPool$Ratio" "bottom" "LFractionPool$Whole;" ∈ lw_tbl := mt_1 _ (List.mem_of_getElem? (i := 200) rfl)
theorem mw_201 : Jvm.Cond.fieldLink "FractionPool$Printed" (29 : Nat) "FractionPool$Ratio" "bottom" "LFractionPool$Whole;" ∈ lw_tbl := mt_1 _ (List.mem_of_getElem? (i := 201) rfl)
theorem mw_202 : Jvm.Cond.fieldLink "FractionPool$Registers" (62 : Nat) "FractionPool$Ratio" "bottom" "LFractionPool$Whole;" ∈ lw_tbl := mt_1 _ (List.mem_of_getElem? (i := 202) rfl)
theorem mw_203 : Jvm.Cond.fieldLink "FractionPool$Typed" (50 : Nat) "FractionPool$Ratio" "bottom" "LFractionPool$Whole;" ∈ lw_tbl := mt_1 _ (List.mem_of_getElem? (i := 203) rfl)
theorem mw_204 : Jvm.Cond.lays "FractionPool$Ratio" "FractionPool$Ratio" "sign" "I" ∈ lw_tbl := mt_1 _ (List.mem_of_getElem? (i := 204) rfl)
theorem mw_205 : Jvm.Cond.soleField "FractionPool$Ratio" "sign" ∈ lw_tbl := mt_1 _ (List.mem_of_getElem? (i := 205) rfl)
theorem mw_206 : Jvm.Cond.lays "FractionPool$Ratio" "FractionPool$Ratio" "top" "LFractionPool$Whole;" ∈ lw_tbl := mt_1 _ (List.mem_of_getElem? (i := 206) rfl)
theorem mw_207 : Jvm.Cond.soleField "FractionPool$Ratio" "top" ∈ lw_tbl := mt_1 _ (List.mem_of_getElem? (i := 207) rfl)
theorem mw_208 : Jvm.Cond.lays "FractionPool$Ratio" "FractionPool$Ratio" "bottom" "LFractionPool$Whole;" ∈ lw_tbl := mt_1 _ (List.mem_of_getElem? (i := 208) rfl)
theorem mw_209 : Jvm.Cond.soleField "FractionPool$Ratio" "bottom" ∈ lw_tbl := mt_1 _ (List.mem_of_getElem? (i := 209) rfl)
theorem mw_210 : Jvm.Cond.superclass "FractionPool$Ratio" "java/lang/Object" ∈ lw_tbl := mt_1 _ (List.mem_of_getElem? (i := 210) rfl)
theorem mw_211 : Jvm.Cond.fieldLink "FractionPool" (9 : Nat) "FractionPool" "room" "I" ∈ lw_tbl := mt_1 _ (List.mem_of_getElem? (i := 211) rfl)
theorem mw_212 : Jvm.Cond.fieldLink "FractionPool" (22 : Nat) "FractionPool" "registers" "LFractionPool$Registers;" ∈ lw_tbl := mt_1 _ (List.mem_of_getElem? (i := 212) rfl)
theorem mw_213 : Jvm.Cond.fieldLink "FractionPool" (29 : Nat) "FractionPool" "bench" "LFractionPool$Bench;" ∈ lw_tbl := mt_1 _ (List.mem_of_getElem? (i := 213) rfl)
theorem mw_214 : Jvm.Cond.fieldLink "FractionPool" (36 : Nat) "FractionPool" "typed" "LFractionPool$Typed;" ∈ lw_tbl := mt_1 _ (List.mem_of_getElem? (i := 214) rfl)
theorem mw_215 : Jvm.Cond.fieldLink "FractionPool" (43 : Nat) "FractionPool" "printed" "LFractionPool$Printed;" ∈ lw_tbl := mt_1 _ (List.mem_of_getElem? (i := 215) rfl)
theorem mw_216 : Jvm.Cond.fieldLink "FractionPool" (50 : Nat) "FractionPool" "left" "LFractionPool$Ratio;" ∈ lw_tbl := mt_1 _ (List.mem_of_getElem? (i := 216) rfl)
theorem mw_217 : Jvm.Cond.fieldLink "FractionPool" (54 : Nat) "FractionPool" "right" "LFractionPool$Ratio;" ∈ lw_tbl := mt_1 _ (List.mem_of_getElem? (i := 217) rfl)
theorem mw_218 : Jvm.Cond.fieldLink "FractionPool" (57 : Nat) "FractionPool" "result" "LFractionPool$Ratio;" ∈ lw_tbl := mt_1 _ (List.mem_of_getElem? (i := 218) rfl)
theorem mw_219 : Jvm.Cond.fieldLink "FractionPool" (60 : Nat) "FractionPool" "total" "LFractionPool$Ratio;" ∈ lw_tbl := mt_1 _ (List.mem_of_getElem? (i := 219) rfl)
theorem mw_220 : Jvm.Cond.fieldLink "FractionPool" (63 : Nat) "FractionPool" "nextTotal" "LFractionPool$Ratio;" ∈ lw_tbl := mt_1 _ (List.mem_of_getElem? (i := 220) rfl)
theorem mw_221 : Jvm.Cond.laysFinal "FractionPool" "FractionPool" "room" "I" ∈ lw_tbl := mt_1 _ (List.mem_of_getElem? (i := 221) rfl)
theorem mw_222 : Jvm.Cond.soleField "FractionPool" "room" ∈ lw_tbl := mt_1 _ (List.mem_of_getElem? (i := 222) rfl)
theorem mw_223 : Jvm.Cond.laysFinal "FractionPool" "FractionPool" "registers" "LFractionPool$Registers;" ∈ lw_tbl := mt_1 _ (List.mem_of_getElem? (i := 223) rfl)
theorem mw_224 : Jvm.Cond.soleField "FractionPool" "registers" ∈ lw_tbl := mt_1 _ (List.mem_of_getElem? (i := 224) rfl)
theorem mw_225 : Jvm.Cond.laysFinal "FractionPool" "FractionPool" "bench" "LFractionPool$Bench;" ∈ lw_tbl := mt_1 _ (List.mem_of_getElem? (i := 225) rfl)
theorem mw_226 : Jvm.Cond.soleField "FractionPool" "bench" ∈ lw_tbl := mt_1 _ (List.mem_of_getElem? (i := 226) rfl)
theorem mw_227 : Jvm.Cond.laysFinal "FractionPool" "FractionPool" "typed" "LFractionPool$Typed;" ∈ lw_tbl := mt_1 _ (List.mem_of_getElem? (i := 227) rfl)
theorem mw_228 : Jvm.Cond.soleField "FractionPool" "typed" ∈ lw_tbl := mt_1 _ (List.mem_of_getElem? (i := 228) rfl)
theorem mw_229 : Jvm.Cond.laysFinal "FractionPool" "FractionPool" "printed" "LFractionPool$Printed;" ∈ lw_tbl := mt_1 _ (List.mem_of_getElem? (i := 229) rfl)
theorem mw_230 : Jvm.Cond.soleField "FractionPool" "printed" ∈ lw_tbl := mt_1 _ (List.mem_of_getElem? (i := 230) rfl)
theorem mw_231 : Jvm.Cond.laysFinal "FractionPool" "FractionPool" "left" "LFractionPool$Ratio;" ∈ lw_tbl := mt_1 _ (List.mem_of_getElem? (i := 231) rfl)
theorem mw_232 : Jvm.Cond.soleField "FractionPool" "left" ∈ lw_tbl := mt_1 _ (List.mem_of_getElem? (i := 232) rfl)
theorem mw_233 : Jvm.Cond.laysFinal "FractionPool" "FractionPool" "right" "LFractionPool$Ratio;" ∈ lw_tbl := mt_1 _ (List.mem_of_getElem? (i := 233) rfl)
theorem mw_234 : Jvm.Cond.soleField "FractionPool" "right" ∈ lw_tbl := mt_1 _ (List.mem_of_getElem? (i := 234) rfl)
theorem mw_235 : Jvm.Cond.laysFinal "FractionPool" "FractionPool" "result" "LFractionPool$Ratio;" ∈ lw_tbl := mt_1 _ (List.mem_of_getElem? (i := 235) rfl)
theorem mw_236 : Jvm.Cond.soleField "FractionPool" "result" ∈ lw_tbl := mt_1 _ (List.mem_of_getElem? (i := 236) rfl)
theorem mw_237 : Jvm.Cond.lays "FractionPool" "FractionPool" "total" "LFractionPool$Ratio;" ∈ lw_tbl := mt_1 _ (List.mem_of_getElem? (i := 237) rfl)
theorem mw_238 : Jvm.Cond.soleField "FractionPool" "total" ∈ lw_tbl := mt_1 _ (List.mem_of_getElem? (i := 238) rfl)
theorem mw_239 : Jvm.Cond.lays "FractionPool" "FractionPool" "nextTotal" "LFractionPool$Ratio;" ∈ lw_tbl := mt_1 _ (List.mem_of_getElem? (i := 239) rfl)
theorem mw_240 : Jvm.Cond.soleField "FractionPool" "nextTotal" ∈ lw_tbl := mt_2 _ (List.mem_of_getElem? (i := 0) rfl)
theorem mw_241 : Jvm.Cond.superclass "FractionPool" "java/lang/Object" ∈ lw_tbl := mt_2 _ (List.mem_of_getElem? (i := 1) rfl)
theorem mw_242 : Jvm.Cond.methodLink "FractionPoolLaw" (151 : Nat) ({ cls := "FractionPool", name := "used", desc := "()I" } : Jvm.MethodName) ∈ lw_tbl := mt_2 _ (List.mem_of_getElem? (i := 2) rfl)
theorem mw_243 : Jvm.Cond.instanceMethod ({ cls := "FractionPool", name := "used", desc := "()I" } : Jvm.MethodName) ∈ lw_tbl := mt_2 _ (List.mem_of_getElem? (i := 3) rfl)
theorem mw_244 : Jvm.Cond.selects "FractionPool" ({ cls := "FractionPool", name := "used", desc := "()I" } : Jvm.MethodName) ({ cls := "FractionPool", name := "used", desc := "()I" } : Jvm.MethodName) ∈ lw_tbl := mt_2 _ (List.mem_of_getElem? (i := 4) rfl)
theorem mw_245 : Jvm.Cond.code ({ cls := "FractionPool", name := "used", desc := "()I" } : Jvm.MethodName) prog_1_method_18_code (1 : Nat) (Option.some Jvm.ClassFile.FieldType.int) ∈ lw_tbl := mt_2 _ (List.mem_of_getElem? (i := 5) rfl)
theorem mw_246 : Jvm.Cond.methodLink "FractionPoolLaw" (155 : Nat) ({ cls := "FractionPool", name := "type", desc := "(J)Z" } : Jvm.MethodName) ∈ lw_tbl := mt_2 _ (List.mem_of_getElem? (i := 6) rfl)
theorem mw_247 : Jvm.Cond.instanceMethod ({ cls := "FractionPool", name := "type", desc := "(J)Z" } : Jvm.MethodName) ∈ lw_tbl := mt_2 _ (List.mem_of_getElem? (i := 7) rfl)
theorem mw_248 : Jvm.Cond.selects "FractionPool" ({ cls := "FractionPool", name := "type", desc := "(J)Z" } : Jvm.MethodName) ({ cls := "FractionPool", name := "type", desc := "(J)Z" } : Jvm.MethodName) ∈ lw_tbl := mt_2 _ (List.mem_of_getElem? (i := 8) rfl)
theorem mw_249 : Jvm.Cond.code ({ cls := "FractionPool", name := "type", desc := "(J)Z" } : Jvm.MethodName) prog_1_method_19_code (3 : Nat) (Option.some Jvm.ClassFile.FieldType.boolean) ∈ lw_tbl := mt_2 _ (List.mem_of_getElem? (i := 9) rfl)
theorem mw_250 : Jvm.Cond.methodLink "FractionPool" (219 : Nat) ({ cls := "FractionPool$Typed", name := "take", desc := "(J)Z" } : Jvm.MethodName) ∈ lw_tbl := mt_2 _ (List.mem_of_getElem? (i := 10) rfl)
theorem mw_251 : Jvm.Cond.instanceMethod ({ cls := "FractionPool$Typed", name := "take", desc := "(J)Z" } : Jvm.MethodName) ∈ lw_tbl := mt_2 _ (List.mem_of_getElem? (i := 11) rfl)
theorem mw_252 : Jvm.Cond.selects "FractionPool$Typed" ({ cls := "FractionPool$Typed", name := "take", desc := "(J)Z" } : Jvm.MethodName) ({ cls := "FractionPool$Typed", name := "take", desc := "(J)Z" } : Jvm.MethodName) ∈ lw_tbl := mt_2 _ (List.mem_of_getElem? (i := 12) rfl)
theorem mw_253 : Jvm.Cond.code ({ cls := "FractionPool$Typed", name := "take", desc := "(J)Z" } : Jvm.MethodName) prog_7_method_2_code (5 : Nat) (Option.some Jvm.ClassFile.FieldType.boolean) ∈ lw_tbl := mt_2 _ (List.mem_of_getElem? (i := 13) rfl)
theorem mw_254 : Jvm.Cond.methodLink "FractionPool$Typed" (19 : Nat) ({ cls := "FractionPool$Typed", name := "byteOf", desc := "(JI)I" } : Jvm.MethodName) ∈ lw_tbl := mt_2 _ (List.mem_of_getElem? (i := 14) rfl)
theorem mw_255 : Jvm.Cond.static ({ cls := "FractionPool$Typed", name := "byteOf", desc := "(JI)I" } : Jvm.MethodName) ∈ lw_tbl := mt_2 _ (List.mem_of_getElem? (i := 15) rfl)
theorem mw_256 : Jvm.Cond.code ({ cls := "FractionPool$Typed", name := "byteOf", desc := "(JI)I" } : Jvm.MethodName) prog_7_method_3_code (3 : Nat) (Option.some Jvm.ClassFile.FieldType.int) ∈ lw_tbl := mt_2 _ (List.mem_of_getElem? (i := 16) rfl)
theorem mw_257 : Jvm.Cond.methodLink "FractionPoolLaw" (163 : Nat) ({ cls := "FractionPool", name := "fault", desc := "()I" } : Jvm.MethodName) ∈ lw_tbl := mt_2 _ (List.mem_of_getElem? (i := 17) rfl)
theorem mw_258 : Jvm.Cond.instanceMethod ({ cls := "FractionPool", name := "fault", desc := "()I" } : Jvm.MethodName) ∈ lw_tbl := mt_2 _ (List.mem_of_getElem? (i := 18) rfl)
theorem mw_259 : Jvm.Cond.selects "FractionPool" ({ cls := "FractionPool", name := "fault", desc := "()I" } : Jvm.MethodName) ({ cls := "FractionPool", name := "fault", desc := "()I" } : Jvm.MethodName) ∈ lw_tbl := mt_2 _ (List.mem_of_getElem? (i := 19) rfl)
theorem mw_260 : Jvm.Cond.code ({ cls := "FractionPool", name := "fault", desc := "()I" } : Jvm.MethodName) prog_1_method_21_code (1 : Nat) (Option.some Jvm.ClassFile.FieldType.int) ∈ lw_tbl := mt_2 _ (List.mem_of_getElem? (i := 20) rfl)
theorem mw_261 : Jvm.Cond.methodLink "FractionPoolLaw" (170 : Nat) ({ cls := "FractionPool", name := "character", desc := "(I)I" } : Jvm.MethodName) ∈ lw_tbl := mt_2 _ (List.mem_of_getElem? (i := 21) rfl)
theorem mw_262 : Jvm.Cond.instanceMethod ({ cls := "FractionPool", name := "character", desc := "(I)I" } : Jvm.MethodName) ∈ lw_tbl := mt_2 _ (List.mem_of_getElem? (i := 22) rfl)
theorem mw_263 : Jvm.Cond.selects "FractionPool" ({ cls := "FractionPool", name := "character", desc := "(I)I" } : Jvm.MethodName) ({ cls := "FractionPool", name := "character", desc := "(I)I" } : Jvm.MethodName) ∈ lw_tbl := mt_2 _ (List.mem_of_getElem? (i := 23) rfl)
theorem mw_264 : Jvm.Cond.code ({ cls := "FractionPool", name := "character", desc := "(I)I" } : Jvm.MethodName) prog_1_method_23_code (2 : Nat) (Option.some Jvm.ClassFile.FieldType.int) ∈ lw_tbl := mt_2 _ (List.mem_of_getElem? (i := 24) rfl)
theorem mw_265 : Jvm.Cond.methodLink "FractionPool" (242 : Nat) ({ cls := "FractionPool$Printed", name := "at", desc := "(I)I" } : Jvm.MethodName) ∈ lw_tbl := mt_2 _ (List.mem_of_getElem? (i := 25) rfl)
theorem mw_266 : Jvm.Cond.instanceMethod ({ cls := "FractionPool$Printed", name := "at", desc := "(I)I" } : Jvm.MethodName) ∈ lw_tbl := mt_2 _ (List.mem_of_getElem? (i := 26) rfl)
theorem mw_267 : Jvm.Cond.selects "FractionPool$Printed" ({ cls := "FractionPool$Printed", name := "at", desc := "(I)I" } : Jvm.MethodName) ({ cls := "FractionPool$Printed", name := "at", desc := "(I)I" } : Jvm.MethodName) ∈ lw_tbl := mt_2 _ (List.mem_of_getElem? (i := 27) rfl)
theorem mw_268 : Jvm.Cond.code ({ cls := "FractionPool$Printed", name := "at", desc := "(I)I" } : Jvm.MethodName) prog_4_method_3_code (2 : Nat) (Option.some Jvm.ClassFile.FieldType.int) ∈ lw_tbl := mt_2 _ (List.mem_of_getElem? (i := 28) rfl)
theorem mw_269 : Jvm.Cond.methodLink "FractionPool$Printed" (25 : Nat) ({ cls := "FractionPool$Printed", name := "count", desc := "()I" } : Jvm.MethodName) ∈ lw_tbl := mt_2 _ (List.mem_of_getElem? (i := 29) rfl)
theorem mw_270 : Jvm.Cond.instanceMethod ({ cls := "FractionPool$Printed", name := "count", desc := "()I" } : Jvm.MethodName) ∈ lw_tbl := mt_2 _ (List.mem_of_getElem? (i := 30) rfl)
theorem mw_271 : Jvm.Cond.selects "FractionPool$Printed" ({ cls := "FractionPool$Printed", name := "count", desc := "()I" } : Jvm.MethodName) ({ cls := "FractionPool$Printed", name := "count", desc := "()I" } : Jvm.MethodName) ∈ lw_tbl := mt_2 _ (List.mem_of_getElem? (i := 31) rfl)
theorem mw_272 : Jvm.Cond.code ({ cls := "FractionPool$Printed", name := "count", desc := "()I" } : Jvm.MethodName) prog_4_method_2_code (1 : Nat) (Option.some Jvm.ClassFile.FieldType.int) ∈ lw_tbl := mt_2 _ (List.mem_of_getElem? (i := 32) rfl)
theorem mw_273 : Jvm.Cond.methodLink "FractionPoolLaw" (78 : Nat) ({ cls := "FractionPoolLaw", name := "cell", desc := "([II)I" } : Jvm.MethodName) ∈ lw_tbl := mt_2 _ (List.mem_of_getElem? (i := 33) rfl)
theorem mw_274 : Jvm.Cond.static ({ cls := "FractionPoolLaw", name := "cell", desc := "([II)I" } : Jvm.MethodName) ∈ lw_tbl := mt_2 _ (List.mem_of_getElem? (i := 34) rfl)
theorem mw_275 : Jvm.Cond.code ({ cls := "FractionPoolLaw", name := "cell", desc := "([II)I" } : Jvm.MethodName) method_2_code (2 : Nat) (Option.some Jvm.ClassFile.FieldType.int) ∈ lw_tbl := mt_2 _ (List.mem_of_getElem? (i := 35) rfl)
theorem mw_276 : Jvm.Cond.methodLink "FractionPoolLaw" (92 : Nat) ({ cls := "FractionPoolLaw", name := "set", desc := "(LFractionPool;IJJ[J)I" } : Jvm.MethodName) ∈ lw_tbl := mt_2 _ (List.mem_of_getElem? (i := 36) rfl)
theorem mw_277 : Jvm.Cond.static ({ cls := "FractionPoolLaw", name := "set", desc := "(LFractionPool;IJJ[J)I" } : Jvm.MethodName) ∈ lw_tbl := mt_2 _ (List.mem_of_getElem? (i := 37) rfl)
theorem mw_278 : Jvm.Cond.codeWith ({ cls := "FractionPoolLaw", name := "set", desc := "(LFractionPool;IJJ[J)I" } : Jvm.MethodName) method_3_code (8 : Nat) (Option.some Jvm.ClassFile.FieldType.int) [((0 : Nat), (13 : Nat), (16 : Nat), (13 : Nat)), ((0 : Nat), (13 : Nat), (20 : Nat), (15 : Nat)), ((0 : Nat), (13 : Nat), (24 : Nat), (17 : Nat))] ∈ lw_tbl := mt_2 _ (List.mem_of_getElem? (i := 38) rfl)
theorem mw_279 : Jvm.Cond.classLink "FractionPoolLaw" (13 : Nat) "java/lang/IndexOutOfBoundsException" ∈ lw_tbl := mt_2 _ (List.mem_of_getElem? (i := 39) rfl)
theorem mw_280 : Jvm.Cond.classLink "FractionPoolLaw" (15 : Nat) "java/lang/ArithmeticException" ∈ lw_tbl := mt_2 _ (List.mem_of_getElem? (i := 40) rfl)
theorem mw_281 : Jvm.Cond.classLink "FractionPoolLaw" (17 : Nat) "java/lang/UnsupportedOperationException" ∈ lw_tbl := mt_2 _ (List.mem_of_getElem? (i := 41) rfl)
theorem mw_282 : Jvm.Cond.methodLink "FractionPoolLaw" (7 : Nat) ({ cls := "FractionPool", name := "set", desc := "(IJJ)I" } : Jvm.MethodName) ∈ lw_tbl := mt_2 _ (List.mem_of_getElem? (i := 42) rfl)
theorem mw_283 : Jvm.Cond.instanceMethod ({ cls := "FractionPool", name := "set", desc := "(IJJ)I" } : Jvm.MethodName) ∈ lw_tbl := mt_2 _ (List.mem_of_getElem? (i := 43) rfl)
theorem mw_284 : Jvm.Cond.selects "FractionPool" ({ cls := "FractionPool", name := "set", desc := "(IJJ)I" } : Jvm.MethodName) ({ cls := "FractionPool", name := "set", desc := "(IJJ)I" } : Jvm.MethodName) ∈ lw_tbl := mt_2 _ (List.mem_of_getElem? (i := 44) rfl)
theorem mw_285 : Jvm.Cond.code ({ cls := "FractionPool", name := "set", desc := "(IJJ)I" } : Jvm.MethodName) prog_1_method_2_code (6 : Nat) (Option.some Jvm.ClassFile.FieldType.int) ∈ lw_tbl := mt_2 _ (List.mem_of_getElem? (i := 45) rfl)
theorem mw_286 : Jvm.Cond.methodLink "FractionPool" (66 : Nat) ({ cls := "FractionPool", name := "needRegister", desc := "(I)V" } : Jvm.MethodName) ∈ lw_tbl := mt_2 _ (List.mem_of_getElem? (i := 46) rfl)
theorem mw_287 : Jvm.Cond.static ({ cls := "FractionPool", name := "needRegister", desc := "(I)V" } : Jvm.MethodName) ∈ lw_tbl := mt_2 _ (List.mem_of_getElem? (i := 47) rfl)
theorem mw_288 : Jvm.Cond.code ({ cls := "FractionPool", name := "needRegister", desc := "(I)V" } : Jvm.MethodName) prog_1_method_25_code (1 : Nat) (Option.none : Option Jvm.ClassFile.FieldType) ∈ lw_tbl := mt_2 _ (List.mem_of_getElem? (i := 48) rfl)
theorem mw_289 : Jvm.Cond.classLink "FractionPool" (161 : Nat) "java/lang/IndexOutOfBoundsException" ∈ lw_tbl := mt_2 _ (List.mem_of_getElem? (i := 49) rfl)
theorem mw_290 : Jvm.Cond.instantiable "java/lang/IndexOutOfBoundsException" (6 : Nat) ∈ lw_tbl := mt_2 _ (List.mem_of_getElem? (i := 50) rfl)
theorem mw_291 : Jvm.Cond.castable "java/lang/IndexOutOfBoundsException" "java/lang/IndexOutOfBoundsException" ∈ lw_tbl := mt_2 _ (List.mem_of_getElem? (i := 51) rfl)
theorem mw_292 : Jvm.Cond.declares ({ cls := "java/lang/RuntimeException", name := "<init>", desc := "()V" } : Jvm.MethodName) ∈ lw_tbl := mt_2 _ (List.mem_of_getElem? (i := 52) rfl)
theorem mw_293 : Jvm.Cond.declares ({ cls := "java/lang/RuntimeException", name := "<init>", desc := "(Ljava/lang/String;)V" } : Jvm.MethodName) ∈ lw_tbl := mt_2 _ (List.mem_of_getElem? (i := 53) rfl)
theorem mw_294 : Jvm.Cond.declares ({ cls := "java/lang/Exception", name := "<init>", desc := "()V" } : Jvm.MethodName) ∈ lw_tbl := mt_2 _ (List.mem_of_getElem? (i := 54) rfl)
theorem mw_295 : Jvm.Cond.declares ({ cls := "java/lang/Exception", name := "<init>", desc := "(Ljava/lang/String;)V" } : Jvm.MethodName) ∈ lw_tbl := mt_2 _ (List.mem_of_getElem? (i := 55) rfl)
theorem mw_296 : Jvm.Cond.declares ({ cls := "java/lang/Throwable", name := "<init>", desc := "()V" } : Jvm.MethodName) ∈ lw_tbl := mt_2 _ (List.mem_of_getElem? (i := 56) rfl)
theorem mw_297 : Jvm.Cond.declares ({ cls := "java/lang/Throwable", name := "<init>", desc := "(Ljava/lang/String;)V" } : Jvm.MethodName) ∈ lw_tbl := mt_2 _ (List.mem_of_getElem? (i := 57) rfl)
theorem mw_298 : Jvm.Cond.selects "java/lang/IndexOutOfBoundsException" ({ cls := "java/lang/Throwable", name := "fillInStackTrace", desc := "(I)Ljava/lang/Throwable;" } : Jvm.MethodName) ({ cls := "java/lang/Throwable", name := "fillInStackTrace", desc := "(I)Ljava/lang/Throwable;" } : Jvm.MethodName) ∈ lw_tbl := mt_2 _ (List.mem_of_getElem? (i := 58) rfl)
theorem mw_299 : Jvm.Cond.selects "java/lang/IndexOutOfBoundsException" ({ cls := "java/lang/Throwable", name := "fillInStackTrace", desc := "()Ljava/lang/Throwable;" } : Jvm.MethodName) ({ cls := "java/lang/Throwable", name := "fillInStackTrace", desc := "()Ljava/lang/Throwable;" } : Jvm.MethodName) ∈ lw_tbl := mt_2 _ (List.mem_of_getElem? (i := 59) rfl)
theorem mw_300 : Jvm.Cond.lays "java/lang/IndexOutOfBoundsException" "java/lang/Throwable" "cause" "Ljava/lang/Throwable;" ∈ lw_tbl := mt_2 _ (List.mem_of_getElem? (i := 60) rfl)
theorem mw_301 : Jvm.Cond.lays "java/lang/Throwable" "java/lang/Throwable" "cause" "Ljava/lang/Throwable;" ∈ lw_tbl := mt_2 _ (List.mem_of_getElem? (i := 61) rfl)
theorem mw_302 : Jvm.Cond.lays "java/lang/IndexOutOfBoundsException" "java/lang/Throwable" "stackTrace" "[Ljava/lang/StackTraceElement;" ∈ lw_tbl := mt_2 _ (List.mem_of_getElem? (i := 62) rfl)
theorem mw_303 : Jvm.Cond.lays "java/lang/Throwable" "java/lang/Throwable" "stackTrace" "[Ljava/lang/StackTraceElement;" ∈ lw_tbl := mt_2 _ (List.mem_of_getElem? (i := 63) rfl)
theorem mw_304 : Jvm.Cond.lays "java/lang/IndexOutOfBoundsException" "java/lang/Throwable" "suppressedExceptions" "Ljava/util/List;" ∈ lw_tbl := mt_2 _ (List.mem_of_getElem? (i := 64) rfl)
theorem mw_305 : Jvm.Cond.lays "java/lang/Throwable" "java/lang/Throwable" "suppressedExceptions" "Ljava/util/List;" ∈ lw_tbl := mt_2 _ (List.mem_of_getElem? (i := 65) rfl)
theorem mw_306 : Jvm.Cond.lays "java/lang/IndexOutOfBoundsException" "java/lang/Throwable" "detailMessage" "Ljava/lang/String;" ∈ lw_tbl := mt_2 _ (List.mem_of_getElem? (i := 66) rfl)
theorem mw_307 : Jvm.Cond.lays "java/lang/Throwable" "java/lang/Throwable" "detailMessage" "Ljava/lang/String;" ∈ lw_tbl := mt_2 _ (List.mem_of_getElem? (i := 67) rfl)
theorem mw_308 : Jvm.Cond.lays "java/lang/IndexOutOfBoundsException" "java/lang/Throwable" "backtrace" "Ljava/lang/Object;" ∈ lw_tbl := mt_2 _ (List.mem_of_getElem? (i := 68) rfl)
theorem mw_309 : Jvm.Cond.lays "java/lang/Throwable" "java/lang/Throwable" "backtrace" "Ljava/lang/Object;" ∈ lw_tbl := mt_2 _ (List.mem_of_getElem? (i := 69) rfl)
theorem mw_310 : Jvm.Cond.fieldLink "java/lang/Throwable" (198 : Nat) "java/lang/Throwable" "backtrace" "Ljava/lang/Object;" ∈ lw_tbl := mt_2 _ (List.mem_of_getElem? (i := 70) rfl)
theorem mw_311 : Jvm.Cond.superclass "java/lang/Throwable" "java/lang/Object" ∈ lw_tbl := mt_2 _ (List.mem_of_getElem? (i := 71) rfl)
theorem mw_312 : Jvm.Cond.instanceMethod ({ cls := "java/lang/Throwable", name := "<init>", desc := "()V" } : Jvm.MethodName) ∈ lw_tbl := mt_2 _ (List.mem_of_getElem? (i := 72) rfl)
theorem mw_313 : Jvm.Cond.code ({ cls := "java/lang/Throwable", name := "<init>", desc := "()V" } : Jvm.MethodName) prog_27_method_1_code (1 : Nat) (Option.none : Option Jvm.ClassFile.FieldType) ∈ lw_tbl := mt_2 _ (List.mem_of_getElem? (i := 73) rfl)
theorem mw_314 : Jvm.Cond.methodLink "java/lang/Throwable" (1 : Nat) ({ cls := "java/lang/Object", name := "<init>", desc := "()V" } : Jvm.MethodName) ∈ lw_tbl := mt_2 _ (List.mem_of_getElem? (i := 74) rfl)
theorem mw_315 : Jvm.Cond.fieldLink "java/lang/Throwable" (13 : Nat) "java/lang/Throwable" "UNASSIGNED_STACK" "[Ljava/lang/StackTraceElement;" ∈ lw_tbl := mt_2 _ (List.mem_of_getElem? (i := 75) rfl)
theorem mw_316 : Jvm.Cond.laysStatic "java/lang/Throwable" "UNASSIGNED_STACK" "[Ljava/lang/StackTraceElement;" ∈ lw_tbl := mt_2 _ (List.mem_of_getElem? (i := 76) rfl)
theorem mw_317 : Jvm.Cond.fieldLink "java/lang/Throwable" (20 : Nat) "java/lang/Throwable" "SUPPRESSED_SENTINEL" "Ljava/util/List;" ∈ lw_tbl := mt_2 _ (List.mem_of_getElem? (i := 77) rfl)
theorem mw_318 : Jvm.Cond.laysStatic "java/lang/Throwable" "SUPPRESSED_SENTINEL" "Ljava/util/List;" ∈ lw_tbl := mt_2 _ (List.mem_of_getElem? (i := 78) rfl)
theorem mw_319 : Jvm.Cond.methodLink "java/lang/Throwable" (27 : Nat) ({ cls := "java/lang/Throwable", name := "fillInStackTrace", desc := "()Ljava/lang/Throwable;" } : Jvm.MethodName) ∈ lw_tbl := mt_2 _ (List.mem_of_getElem? (i := 79) rfl)
theorem mw_320 : Jvm.Cond.instanceMethod ({ cls := "java/lang/Throwable", name := "fillInStackTrace", desc := "()Ljava/lang/Throwable;" } : Jvm.MethodName) ∈ lw_tbl := mt_2 _ (List.mem_of_getElem? (i := 80) rfl)
theorem mw_321 : Jvm.Cond.sameMethod "java/lang/Throwable" "java/lang/Throwable" "fillInStackTrace" "()Ljava/lang/Throwable;" ∈ lw_tbl := mt_2 _ (List.mem_of_getElem? (i := 81) rfl)
theorem mw_322 : Jvm.Cond.selects "java/lang/ArithmeticException" ({ cls := "java/lang/Throwable", name := "fillInStackTrace", desc := "()Ljava/lang/Throwable;" } : Jvm.MethodName) ({ cls := "java/lang/Throwable", name := "fillInStackTrace", desc := "()Ljava/lang/Throwable;" } : Jvm.MethodName) ∈ lw_tbl := mt_2 _ (List.mem_of_getElem? (i := 82) rfl)
theorem mw_323 : Jvm.Cond.selects "java/lang/ArrayIndexOutOfBoundsException" ({ cls := "java/lang/Throwable", name := "fillInStackTrace", desc := "()Ljava/lang/Throwable;" } : Jvm.MethodName) ({ cls := "java/lang/Throwable", name := "fillInStackTrace", desc := "()Ljava/lang/Throwable;" } : Jvm.MethodName) ∈ lw_tbl := mt_2 _ (List.mem_of_getElem? (i := 83) rfl)
theorem mw_324 : Jvm.Cond.selects "java/lang/IllegalArgumentException" ({ cls := "java/lang/Throwable", name := "fillInStackTrace", desc := "()Ljava/lang/Throwable;" } : Jvm.MethodName) ({ cls := "java/lang/Throwable", name := "fillInStackTrace", desc := "()Ljava/lang/Throwable;" } : Jvm.MethodName) ∈ lw_tbl := mt_2 _ (List.mem_of_getElem? (i := 84) rfl)
theorem mw_325 : Jvm.Cond.selects "java/lang/UnsupportedOperationException" ({ cls := "java/lang/Throwable", name := "fillInStackTrace", desc := "()Ljava/lang/Throwable;" } : Jvm.MethodName) ({ cls := "java/lang/Throwable", name := "fillInStackTrace", desc := "()Ljava/lang/Throwable;" } : Jvm.MethodName) ∈ lw_tbl := mt_2 _ (List.mem_of_getElem? (i := 85) rfl)
theorem mw_326 : Jvm.Cond.codeSync ({ cls := "java/lang/Throwable", name := "fillInStackTrace", desc := "()Ljava/lang/Throwable;" } : Jvm.MethodName) prog_27_method_18_code (1 : Nat) (Option.some (Jvm.ClassFile.FieldType.object "java/lang/Throwable")) ∈ lw_tbl := mt_2 _ (List.mem_of_getElem? (i := 86) rfl)
theorem mw_327 : Jvm.Cond.methodLink "java/lang/Throwable" (202 : Nat) ({ cls := "java/lang/Throwable", name := "fillInStackTrace", desc := "(I)Ljava/lang/Throwable;" } : Jvm.MethodName) ∈ lw_tbl := mt_2 _ (List.mem_of_getElem? (i := 87) rfl)
theorem mw_328 : Jvm.Cond.privateMethod ({ cls := "java/lang/Throwable", name := "fillInStackTrace", desc := "(I)Ljava/lang/Throwable;" } : Jvm.MethodName) ∈ lw_tbl := mt_2 _ (List.mem_of_getElem? (i := 88) rfl)
theorem mw_329 : Jvm.Cond.instanceMethod ({ cls := "java/lang/Throwable", name := "fillInStackTrace", desc := "(I)Ljava/lang/Throwable;" } : Jvm.MethodName) ∈ lw_tbl := mt_2 _ (List.mem_of_getElem? (i := 89) rfl)
theorem mw_330 : Jvm.Cond.instantiable "java/lang/Throwable" (6 : Nat) ∈ lw_tbl := mt_2 _ (List.mem_of_getElem? (i := 90) rfl)
theorem mw_331 : Jvm.Cond.native ({ cls := "java/lang/Throwable", name := "fillInStackTrace", desc := "(I)Ljava/lang/Throwable;" } : Jvm.MethodName) ∈ lw_tbl := mt_2 _ (List.mem_of_getElem? (i := 91) rfl)
theorem mw_332 : Jvm.Cond.stringRef "FractionPool" (245 : Nat) "there is no such register" ∈ lw_tbl := mt_2 _ (List.mem_of_getElem? (i := 92) rfl)
theorem mw_333 : Jvm.Cond.methodLink "FractionPool" (165 : Nat) ({ cls := "java/lang/IndexOutOfBoundsException", name := "<init>", desc := "(Ljava/lang/String;)V" } : Jvm.MethodName) ∈ lw_tbl := mt_2 _ (List.mem_of_getElem? (i := 93) rfl)
theorem mw_334 : Jvm.Cond.instanceMethod ({ cls := "java/lang/IndexOutOfBoundsException", name := "<init>", desc := "(Ljava/lang/String;)V" } : Jvm.MethodName) ∈ lw_tbl := mt_2 _ (List.mem_of_getElem? (i := 94) rfl)
theorem mw_335 : Jvm.Cond.code ({ cls := "java/lang/IndexOutOfBoundsException", name := "<init>", desc := "(Ljava/lang/String;)V" } : Jvm.MethodName) prog_17_method_2_code (2 : Nat) (Option.none : Option Jvm.ClassFile.FieldType) ∈ lw_tbl := mt_2 _ (List.mem_of_getElem? (i := 95) rfl)
theorem mw_336 : Jvm.Cond.methodLink "java/lang/IndexOutOfBoundsException" (7 : Nat) ({ cls := "java/lang/RuntimeException", name := "<init>", desc := "(Ljava/lang/String;)V" } : Jvm.MethodName) ∈ lw_tbl := mt_2 _ (List.mem_of_getElem? (i := 96) rfl)
theorem mw_337 : Jvm.Cond.instanceMethod ({ cls := "java/lang/RuntimeException", name := "<init>", desc := "(Ljava/lang/String;)V" } : Jvm.MethodName) ∈ lw_tbl := mt_2 _ (List.mem_of_getElem? (i := 97) rfl)
theorem mw_338 : Jvm.Cond.code ({ cls := "java/lang/RuntimeException", name := "<init>", desc := "(Ljava/lang/String;)V" } : Jvm.MethodName) prog_21_method_2_code (2 : Nat) (Option.none : Option Jvm.ClassFile.FieldType) ∈ lw_tbl := mt_2 _ (List.mem_of_getElem? (i := 98) rfl)
theorem mw_339 : Jvm.Cond.methodLink "java/lang/RuntimeException" (7 : Nat) ({ cls := "java/lang/Exception", name := "<init>", desc := "(Ljava/lang/String;)V" } : Jvm.MethodName) ∈ lw_tbl := mt_2 _ (List.mem_of_getElem? (i := 99) rfl)
theorem mw_340 : Jvm.Cond.instanceMethod ({ cls := "java/lang/Exception", name := "<init>", desc := "(Ljava/lang/String;)V" } : Jvm.MethodName) ∈ lw_tbl := mt_2 _ (List.mem_of_getElem? (i := 100) rfl)
theorem mw_341 : Jvm.Cond.code ({ cls := "java/lang/Exception", name := "<init>", desc := "(Ljava/lang/String;)V" } : Jvm.MethodName) prog_15_method_2_code (2 : Nat) (Option.none : Option Jvm.ClassFile.FieldType) ∈ lw_tbl := mt_2 _ (List.mem_of_getElem? (i := 101) rfl)
theorem mw_342 : Jvm.Cond.methodLink "java/lang/Exception" (7 : Nat) ({ cls := "java/lang/Throwable", name := "<init>", desc := "(Ljava/lang/String;)V" } : Jvm.MethodName) ∈ lw_tbl := mt_2 _ (List.mem_of_getElem? (i := 102) rfl)
theorem mw_343 : Jvm.Cond.instanceMethod ({ cls := "java/lang/Throwable", name := "<init>", desc := "(Ljava/lang/String;)V" } : Jvm.MethodName) ∈ lw_tbl := mt_2 _ (List.mem_of_getElem? (i := 103) rfl)
theorem mw_344 : Jvm.Cond.code ({ cls := "java/lang/Throwable", name := "<init>", desc := "(Ljava/lang/String;)V" } : Jvm.MethodName) prog_27_method_2_code (2 : Nat) (Option.none : Option Jvm.ClassFile.FieldType) ∈ lw_tbl := mt_2 _ (List.mem_of_getElem? (i := 104) rfl)
theorem mw_345 : Jvm.Cond.fieldLink "java/lang/Throwable" (198 : Nat) "java/lang/Throwable" "backtrace" "Ljava/lang/Object;" ∈ lw_tbl := mt_2 _ (List.mem_of_getElem? (i := 105) rfl)
theorem mw_346 : Jvm.Cond.fieldLink "java/lang/Throwable" (31 : Nat) "java/lang/Throwable" "detailMessage" "Ljava/lang/String;" ∈ lw_tbl := mt_2 _ (List.mem_of_getElem? (i := 106) rfl)
theorem mw_347 : Jvm.Cond.fieldLink "java/lang/Throwable" (7 : Nat) "java/lang/Throwable" "cause" "Ljava/lang/Throwable;" ∈ lw_tbl := mt_2 _ (List.mem_of_getElem? (i := 107) rfl)
theorem mw_348 : Jvm.Cond.fieldLink "java/lang/Throwable" (17 : Nat) "java/lang/Throwable" "stackTrace" "[Ljava/lang/StackTraceElement;" ∈ lw_tbl := mt_2 _ (List.mem_of_getElem? (i := 108) rfl)
theorem mw_349 : Jvm.Cond.fieldLink "java/lang/Throwable" (24 : Nat) "java/lang/Throwable" "suppressedExceptions" "Ljava/util/List;" ∈ lw_tbl := mt_2 _ (List.mem_of_getElem? (i := 109) rfl)
theorem mw_350 : Jvm.Cond.soleField "java/lang/Throwable" "backtrace" ∈ lw_tbl := mt_2 _ (List.mem_of_getElem? (i := 110) rfl)
theorem mw_351 : Jvm.Cond.soleField "java/lang/Throwable" "detailMessage" ∈ lw_tbl := mt_2 _ (List.mem_of_getElem? (i := 111) rfl)
theorem mw_352 : Jvm.Cond.soleField "java/lang/Throwable" "cause" ∈ lw_tbl := mt_2 _ (List.mem_of_getElem? (i := 112) rfl)
theorem mw_353 : Jvm.Cond.soleField "java/lang/Throwable" "stackTrace" ∈ lw_tbl := mt_2 _ (List.mem_of_getElem? (i := 113) rfl)
theorem mw_354 : Jvm.Cond.lays "java/lang/IndexOutOfBoundsException" "java/lang/Throwable" "depth" "I" ∈ lw_tbl := mt_2 _ (List.mem_of_getElem? (i := 114) rfl)
theorem mw_355 : Jvm.Cond.soleField "java/lang/Throwable" "depth" ∈ lw_tbl := mt_2 _ (List.mem_of_getElem? (i := 115) rfl)
theorem mw_356 : Jvm.Cond.soleField "java/lang/Throwable" "suppressedExceptions" ∈ lw_tbl := mt_2 _ (List.mem_of_getElem? (i := 116) rfl)
theorem mw_357 : Jvm.Cond.superclass "java/lang/IndexOutOfBoundsException" "java/lang/RuntimeException" ∈ lw_tbl := mt_2 _ (List.mem_of_getElem? (i := 117) rfl)
theorem mw_358 : Jvm.Cond.arrayClass Jvm.ClassFile.FieldType.byte ∈ lw_tbl := mt_2 _ (List.mem_of_getElem? (i := 118) rfl)
theorem mw_359 : Jvm.Cond.classLink "FractionPool" (69 : Nat) "java/lang/ArithmeticException" ∈ lw_tbl := mt_2 _ (List.mem_of_getElem? (i := 119) rfl)
theorem mw_360 : Jvm.Cond.instantiable "java/lang/ArithmeticException" (6 : Nat) ∈ lw_tbl := mt_2 _ (List.mem_of_getElem? (i := 120) rfl)
theorem mw_361 : Jvm.Cond.castable "java/lang/ArithmeticException" "java/lang/ArithmeticException" ∈ lw_tbl := mt_2 _ (List.mem_of_getElem? (i := 121) rfl)
theorem mw_362 : Jvm.Cond.selects "java/lang/ArithmeticException" ({ cls := "java/lang/Throwable", name := "fillInStackTrace", desc := "(I)Ljava/lang/Throwable;" } : Jvm.MethodName) ({ cls := "java/lang/Throwable", name := "fillInStackTrace", desc := "(I)Ljava/lang/Throwable;" } : Jvm.MethodName) ∈ lw_tbl := mt_2 _ (List.mem_of_getElem? (i := 122) rfl)
theorem mw_363 : Jvm.Cond.lays "java/lang/ArithmeticException" "java/lang/Throwable" "cause" "Ljava/lang/Throwable;" ∈ lw_tbl := mt_2 _ (List.mem_of_getElem? (i := 123) rfl)
theorem mw_364 : Jvm.Cond.lays "java/lang/ArithmeticException" "java/lang/Throwable" "stackTrace" "[Ljava/lang/StackTraceElement;" ∈ lw_tbl := mt_2 _ (List.mem_of_getElem? (i := 124) rfl)
theorem mw_365 : Jvm.Cond.lays "java/lang/ArithmeticException" "java/lang/Throwable" "suppressedExceptions" "Ljava/util/List;" ∈ lw_tbl := mt_2 _ (List.mem_of_getElem? (i := 125) rfl)
theorem mw_366 : Jvm.Cond.lays "java/lang/ArithmeticException" "java/lang/Throwable" "detailMessage" "Ljava/lang/String;" ∈ lw_tbl := mt_2 _ (List.mem_of_getElem? (i := 126) rfl)
theorem mw_367 : Jvm.Cond.lays "java/lang/ArithmeticException" "java/lang/Throwable" "backtrace" "Ljava/lang/Object;" ∈ lw_tbl := mt_2 _ (List.mem_of_getElem? (i := 127) rfl)
theorem mw_368 : Jvm.Cond.stringRef "FractionPool" (71 : Nat) "the denominator is 0" ∈ lw_tbl := mt_2 _ (List.mem_of_getElem? (i := 128) rfl)
theorem mw_369 : Jvm.Cond.methodLink "FractionPool" (73 : Nat) ({ cls := "java/lang/ArithmeticException", name := "<init>", desc := "(Ljava/lang/String;)V" } : Jvm.MethodName) ∈ lw_tbl := mt_2 _ (List.mem_of_getElem? (i := 129) rfl)
theorem mw_370 : Jvm.Cond.instanceMethod ({ cls := "java/lang/ArithmeticException", name := "<init>", desc := "(Ljava/lang/String;)V" } : Jvm.MethodName) ∈ lw_tbl := mt_2 _ (List.mem_of_getElem? (i := 130) rfl)
theorem mw_371 : Jvm.Cond.code ({ cls := "java/lang/ArithmeticException", name := "<init>", desc := "(Ljava/lang/String;)V" } : Jvm.MethodName) prog_12_method_2_code (2 : Nat) (Option.none : Option Jvm.ClassFile.FieldType) ∈ lw_tbl := mt_2 _ (List.mem_of_getElem? (i := 131) rfl)
theorem mw_372 : Jvm.Cond.methodLink "java/lang/ArithmeticException" (7 : Nat) ({ cls := "java/lang/RuntimeException", name := "<init>", desc := "(Ljava/lang/String;)V" } : Jvm.MethodName) ∈ lw_tbl := mt_2 _ (List.mem_of_getElem? (i := 132) rfl)
theorem mw_373 : Jvm.Cond.lays "java/lang/ArithmeticException" "java/lang/Throwable" "depth" "I" ∈ lw_tbl := mt_2 _ (List.mem_of_getElem? (i := 133) rfl)
theorem mw_374 : Jvm.Cond.superclass "java/lang/ArithmeticException" "java/lang/RuntimeException" ∈ lw_tbl := mt_2 _ (List.mem_of_getElem? (i := 134) rfl)
theorem mw_375 : Jvm.Cond.methodLink "FractionPool" (80 : Nat) ({ cls := "java/lang/Math", name := "abs", desc := "(J)J" } : Jvm.MethodName) ∈ lw_tbl := mt_2 _ (List.mem_of_getElem? (i := 135) rfl)
theorem mw_376 : Jvm.Cond.static ({ cls := "java/lang/Math", name := "abs", desc := "(J)J" } : Jvm.MethodName) ∈ lw_tbl := mt_2 _ (List.mem_of_getElem? (i := 136) rfl)
theorem mw_377 : Jvm.Cond.code ({ cls := "java/lang/Math", name := "abs", desc := "(J)J" } : Jvm.MethodName) prog_20_method_61_code (2 : Nat) (Option.some Jvm.ClassFile.FieldType.long) ∈ lw_tbl := mt_2 _ (List.mem_of_getElem? (i := 137) rfl)
theorem mw_378 : Jvm.Cond.methodLink "FractionPool" (86 : Nat) ({ cls := "FractionPool$Whole", name := "becomeLong", desc := "(J)V" } : Jvm.MethodName) ∈ lw_tbl := mt_2 _ (List.mem_of_getElem? (i := 138) rfl)
theorem mw_379 : Jvm.Cond.instanceMethod ({ cls := "FractionPool$Whole", name := "becomeLong", desc := "(J)V" } : Jvm.MethodName) ∈ lw_tbl := mt_2 _ (List.mem_of_getElem? (i := 139) rfl)
theorem mw_380 : Jvm.Cond.selects "FractionPool$Whole" ({ cls := "FractionPool$Whole", name := "becomeLong", desc := "(J)V" } : Jvm.MethodName) ({ cls := "FractionPool$Whole", name := "becomeLong", desc := "(J)V" } : Jvm.MethodName) ∈ lw_tbl := mt_2 _ (List.mem_of_getElem? (i := 140) rfl)
theorem mw_381 : Jvm.Cond.code ({ cls := "FractionPool$Whole", name := "becomeLong", desc := "(J)V" } : Jvm.MethodName) prog_8_method_12_code (3 : Nat) (Option.none : Option Jvm.ClassFile.FieldType) ∈ lw_tbl := mt_2 _ (List.mem_of_getElem? (i := 141) rfl)
theorem mw_382 : Jvm.Cond.methodLink "FractionPool$Whole" (57 : Nat) ({ cls := "FractionPool$Whole", name := "trim", desc := "()V" } : Jvm.MethodName) ∈ lw_tbl := mt_2 _ (List.mem_of_getElem? (i := 142) rfl)
theorem mw_383 : Jvm.Cond.privateMethod ({ cls := "FractionPool$Whole", name := "trim", desc := "()V" } : Jvm.MethodName) ∈ lw_tbl := mt_2 _ (List.mem_of_getElem? (i := 143) rfl)
theorem mw_384 : Jvm.Cond.instanceMethod ({ cls := "FractionPool$Whole", name := "trim", desc := "()V" } : Jvm.MethodName) ∈ lw_tbl := mt_2 _ (List.mem_of_getElem? (i := 144) rfl)
theorem mw_385 : Jvm.Cond.code ({ cls := "FractionPool$Whole", name := "trim", desc := "()V" } : Jvm.MethodName) prog_8_method_3_code (1 : Nat) (Option.none : Option Jvm.ClassFile.FieldType) ∈ lw_tbl := mt_2 _ (List.mem_of_getElem? (i := 145) rfl)
theorem mw_386 : Jvm.Cond.methodLink "FractionPool" (95 : Nat) ({ cls := "FractionPool$Bench", name := "reduceBoth", desc := "(LFractionPool$Whole;LFractionPool$Whole;)V" } : Jvm.MethodName) ∈ lw_tbl := mt_2 _ (List.mem_of_getElem? (i := 146) rfl)
theorem mw_387 : Jvm.Cond.instanceMethod ({ cls := "FractionPool$Bench", name := "reduceBoth", desc := "(LFractionPool$Whole;LFractionPool$Whole;)V" } : Jvm.MethodName) ∈ lw_tbl := mt_2 _ (List.mem_of_getElem? (i := 147) rfl)
theorem mw_388 : Jvm.Cond.selects "FractionPool$Bench" ({ cls := "FractionPool$Bench", name := "reduceBoth", desc := "(LFractionPool$Whole;LFractionPool$Whole;)V" } : Jvm.MethodName) ({ cls := "FractionPool$Bench", name := "reduceBoth", desc := "(LFractionPool$Whole;LFractionPool$Whole;)V" } : Jvm.MethodName) ∈ lw_tbl := mt_2 _ (List.mem_of_getElem? (i := 148) rfl)
theorem mw_389 : Jvm.Cond.code ({ cls := "FractionPool$Bench", name := "reduceBoth", desc := "(LFractionPool$Whole;LFractionPool$Whole;)V" } : Jvm.MethodName) prog_2_method_3_code (4 : Nat) (Option.none : Option Jvm.ClassFile.FieldType) ∈ lw_tbl := mt_2 _ (List.mem_of_getElem? (i := 149) rfl)
theorem mw_390 : Jvm.Cond.methodLink "FractionPool$Bench" (43 : Nat) ({ cls := "FractionPool$CommonDivisor", name := "of", desc := "(LFractionPool$Whole;LFractionPool$Whole;)LFractionPool$Whole;" } : Jvm.MethodName) ∈ lw_tbl := mt_2 _ (List.mem_of_getElem? (i := 150) rfl)
theorem mw_391 : Jvm.Cond.instanceMethod ({ cls := "FractionPool$CommonDivisor", name := "of", desc := "(LFractionPool$Whole;LFractionPool$Whole;)LFractionPool$Whole;" } : Jvm.MethodName) ∈ lw_tbl := mt_2 _ (List.mem_of_getElem? (i := 151) rfl)
theorem mw_392 : Jvm.Cond.selects "FractionPool$CommonDivisor" ({ cls := "FractionPool$CommonDivisor", name := "of", desc := "(LFractionPool$Whole;LFractionPool$Whole;)LFractionPool$Whole;" } : Jvm.MethodName) ({ cls := "FractionPool$CommonDivisor", name := "of", desc := "(LFractionPool$Whole;LFractionPool$Whole;)LFractionPool$Whole;" } : Jvm.MethodName) ∈ lw_tbl := mt_2 _ (List.mem_of_getElem? (i := 152) rfl)
theorem mw_393 : Jvm.Cond.code ({ cls := "FractionPool$CommonDivisor", name := "of", desc := "(LFractionPool$Whole;LFractionPool$Whole;)LFractionPool$Whole;" } : Jvm.MethodName) prog_3_method_2_code (6 : Nat) (Option.some (Jvm.ClassFile.FieldType.object "FractionPool$Whole")) ∈ lw_tbl := mt_2 _ (List.mem_of_getElem? (i := 153) rfl)
theorem mw_394 : Jvm.Cond.methodLink "FractionPool$CommonDivisor" (26 : Nat) ({ cls := "FractionPool$Whole", name := "against", desc := "(LFractionPool$Whole;)I" } : Jvm.MethodName) ∈ lw_tbl := mt_2 _ (List.mem_of_getElem? (i := 154) rfl)
theorem mw_395 : Jvm.Cond.instanceMethod ({ cls := "FractionPool$Whole", name := "against", desc := "(LFractionPool$Whole;)I" } : Jvm.MethodName) ∈ lw_tbl := mt_2 _ (List.mem_of_getElem? (i := 155) rfl)
theorem mw_396 : Jvm.Cond.selects "FractionPool$Whole" ({ cls := "FractionPool$Whole", name := "against", desc := "(LFractionPool$Whole;)I" } : Jvm.MethodName) ({ cls := "FractionPool$Whole", name := "against", desc := "(LFractionPool$Whole;)I" } : Jvm.MethodName) ∈ lw_tbl := mt_2 _ (List.mem_of_getElem? (i := 156) rfl)
theorem mw_397 : Jvm.Cond.code ({ cls := "FractionPool$Whole", name := "against", desc := "(LFractionPool$Whole;)I" } : Jvm.MethodName) prog_8_method_11_code (3 : Nat) (Option.some Jvm.ClassFile.FieldType.int) ∈ lw_tbl := mt_2 _ (List.mem_of_getElem? (i := 157) rfl)
theorem mw_398 : Jvm.Cond.constantLong "FractionPool$Whole" (42 : Nat) (4294967295 : Int64) ∈ lw_tbl := mt_2 _ (List.mem_of_getElem? (i := 158) rfl)
theorem mw_399 : Jvm.Cond.methodLink "FractionPool$CommonDivisor" (30 : Nat) ({ cls := "FractionPool$Whole", name := "become", desc := "(LFractionPool$Whole;)V" } : Jvm.MethodName) ∈ lw_tbl := mt_2 _ (List.mem_of_getElem? (i := 159) rfl)
theorem mw_400 : Jvm.Cond.instanceMethod ({ cls := "FractionPool$Whole", name := "become", desc := "(LFractionPool$Whole;)V" } : Jvm.MethodName) ∈ lw_tbl := mt_2 _ (List.mem_of_getElem? (i := 160) rfl)
theorem mw_401 : Jvm.Cond.selects "FractionPool$Whole" ({ cls := "FractionPool$Whole", name := "become", desc := "(LFractionPool$Whole;)V" } : Jvm.MethodName) ({ cls := "FractionPool$Whole", name := "become", desc := "(LFractionPool$Whole;)V" } : Jvm.MethodName) ∈ lw_tbl := mt_2 _ (List.mem_of_getElem? (i := 161) rfl)
theorem mw_402 : Jvm.Cond.code ({ cls := "FractionPool$Whole", name := "become", desc := "(LFractionPool$Whole;)V" } : Jvm.MethodName) prog_8_method_13_code (2 : Nat) (Option.none : Option Jvm.ClassFile.FieldType) ∈ lw_tbl := mt_2 _ (List.mem_of_getElem? (i := 162) rfl)
theorem mw_403 : Jvm.Cond.methodLink "FractionPool$Whole" (32 : Nat) ({ cls := "FractionPool$Whole", name := "claim", desc := "(I)V" } : Jvm.MethodName) ∈ lw_tbl := mt_2 _ (List.mem_of_getElem? (i := 163) rfl)
theorem mw_404 : Jvm.Cond.privateMethod ({ cls := "FractionPool$Whole", name := "claim", desc := "(I)V" } : Jvm.MethodName) ∈ lw_tbl := mt_2 _ (List.mem_of_getElem? (i := 164) rfl)
theorem mw_405 : Jvm.Cond.instanceMethod ({ cls := "FractionPool$Whole", name := "claim", desc := "(I)V" } : Jvm.MethodName) ∈ lw_tbl := mt_2 _ (List.mem_of_getElem? (i := 165) rfl)
theorem mw_406 : Jvm.Cond.code ({ cls := "FractionPool$Whole", name := "claim", desc := "(I)V" } : Jvm.MethodName) prog_8_method_2_code (2 : Nat) (Option.none : Option Jvm.ClassFile.FieldType) ∈ lw_tbl := mt_2 _ (List.mem_of_getElem? (i := 166) rfl)
theorem mw_407 : Jvm.Cond.classLink "FractionPool$Whole" (21 : Nat) "java/lang/UnsupportedOperationException" ∈ lw_tbl := mt_2 _ (List.mem_of_getElem? (i := 167) rfl)
theorem mw_408 : Jvm.Cond.instantiable "java/lang/UnsupportedOperationException" (6 : Nat) ∈ lw_tbl := mt_2 _ (List.mem_of_getElem? (i := 168) rfl)
theorem mw_409 : Jvm.Cond.castable "java/lang/UnsupportedOperationException" "java/lang/UnsupportedOperationException" ∈ lw_tbl := mt_2 _ (List.mem_of_getElem? (i := 169) rfl)
theorem mw_410 : Jvm.Cond.selects "java/lang/UnsupportedOperationException" ({ cls := "java/lang/Throwable", name := "fillInStackTrace", desc := "(I)Ljava/lang/Throwable;" } : Jvm.MethodName) ({ cls := "java/lang/Throwable", name := "fillInStackTrace", desc := "(I)Ljava/lang/Throwable;" } : Jvm.MethodName) ∈ lw_tbl := mt_2 _ (List.mem_of_getElem? (i := 170) rfl)
theorem mw_411 : Jvm.Cond.lays "java/lang/UnsupportedOperationException" "java/lang/Throwable" "cause" "Ljava/lang/Throwable;" ∈ lw_tbl := mt_2 _ (List.mem_of_getElem? (i := 171) rfl)
theorem mw_412 : Jvm.Cond.lays "java/lang/UnsupportedOperationException" "java/lang/Throwable" "stackTrace" "[Ljava/lang/StackTraceElement;" ∈ lw_tbl := mt_2 _ (List.mem_of_getElem? (i := 172) rfl)
theorem mw_413 : Jvm.Cond.lays "java/lang/UnsupportedOperationException" "java/lang/Throwable" "suppressedExceptions" "Ljava/util/List;" ∈ lw_tbl := mt_2 _ (List.mem_of_getElem? (i := 173) rfl)
theorem mw_414 : Jvm.Cond.lays "java/lang/UnsupportedOperationException" "java/lang/Throwable" "detailMessage" "Ljava/lang/String;" ∈ lw_tbl := mt_2 _ (List.mem_of_getElem? (i := 174) rfl)
theorem mw_415 : Jvm.Cond.lays "java/lang/UnsupportedOperationException" "java/lang/Throwable" "backtrace" "Ljava/lang/Object;" ∈ lw_tbl := mt_2 _ (List.mem_of_getElem? (i := 175) rfl)
theorem mw_416 : Jvm.Cond.stringRef "FractionPool$Whole" (23 : Nat) "a row is too short" ∈ lw_tbl := mt_2 _ (List.mem_of_getElem? (i := 176) rfl)
theorem mw_417 : Jvm.Cond.methodLink "FractionPool$Whole" (25 : Nat) ({ cls := "java/lang/UnsupportedOperationException", name := "<init>", desc := "(Ljava/lang/String;)V" } : Jvm.MethodName) ∈ lw_tbl := mt_2 _ (List.mem_of_getElem? (i := 177) rfl)
theorem mw_418 : Jvm.Cond.instanceMethod ({ cls := "java/lang/UnsupportedOperationException", name := "<init>", desc := "(Ljava/lang/String;)V" } : Jvm.MethodName) ∈ lw_tbl := mt_2 _ (List.mem_of_getElem? (i := 178) rfl)
theorem mw_419 : Jvm.Cond.code ({ cls := "java/lang/UnsupportedOperationException", name := "<init>", desc := "(Ljava/lang/String;)V" } : Jvm.MethodName) prog_28_method_2_code (2 : Nat) (Option.none : Option Jvm.ClassFile.FieldType) ∈ lw_tbl := mt_2 _ (List.mem_of_getElem? (i := 179) rfl)
theorem mw_420 : Jvm.Cond.methodLink "java/lang/UnsupportedOperationException" (7 : Nat) ({ cls := "java/lang/RuntimeException", name := "<init>", desc := "(Ljava/lang/String;)V" } : Jvm.MethodName) ∈ lw_tbl := mt_2 _ (List.mem_of_getElem? (i := 180) rfl)
theorem mw_421 : Jvm.Cond.lays "java/lang/UnsupportedOperationException" "java/lang/Throwable" "depth" "I" ∈ lw_tbl := mt_2 _ (List.mem_of_getElem? (i := 181) rfl)
theorem mw_422 : Jvm.Cond.superclass "java/lang/UnsupportedOperationException" "java/lang/RuntimeException" ∈ lw_tbl := mt_2 _ (List.mem_of_getElem? (i := 182) rfl)
theorem mw_423 : Jvm.Cond.methodLink "FractionPool$Whole" (60 : Nat) ({ cls := "java/lang/System", name := "arraycopy", desc := "(Ljava/lang/Object;ILjava/lang/Object;II)V" } : Jvm.MethodName) ∈ lw_tbl := mt_2 _ (List.mem_of_getElem? (i := 183) rfl)
theorem mw_424 : Jvm.Cond.static ({ cls := "java/lang/System", name := "arraycopy", desc := "(Ljava/lang/Object;ILjava/lang/Object;II)V" } : Jvm.MethodName) ∈ lw_tbl := mt_2 _ (List.mem_of_getElem? (i := 184) rfl)
theorem mw_425 : Jvm.Cond.native ({ cls := "java/lang/System", name := "arraycopy", desc := "(Ljava/lang/Object;ILjava/lang/Object;II)V" } : Jvm.MethodName) ∈ lw_tbl := mt_2 _ (List.mem_of_getElem? (i := 185) rfl)
theorem mw_426 : Jvm.Cond.constant "FractionPool$CommonDivisor" (34 : Nat) (1000000 : Int32) ∈ lw_tbl := mt_2 _ (List.mem_of_getElem? (i := 186) rfl)
theorem mw_427 : Jvm.Cond.methodLink "FractionPool$CommonDivisor" (39 : Nat) ({ cls := "FractionPool$CommonDivisor", name := "foreseeSteps", desc := "()V" } : Jvm.MethodName) ∈ lw_tbl := mt_2 _ (List.mem_of_getElem? (i := 187) rfl)
theorem mw_428 : Jvm.Cond.privateMethod ({ cls := "FractionPool$CommonDivisor", name := "foreseeSteps", desc := "()V" } : Jvm.MethodName) ∈ lw_tbl := mt_2 _ (List.mem_of_getElem? (i := 188) rfl)
theorem mw_429 : Jvm.Cond.instanceMethod ({ cls := "FractionPool$CommonDivisor", name := "foreseeSteps", desc := "()V" } : Jvm.MethodName) ∈ lw_tbl := mt_2 _ (List.mem_of_getElem? (i := 189) rfl)
theorem mw_430 : Jvm.Cond.code ({ cls := "FractionPool$CommonDivisor", name := "foreseeSteps", desc := "()V" } : Jvm.MethodName) prog_3_method_3_code (15 : Nat) (Option.none : Option Jvm.ClassFile.FieldType) ∈ lw_tbl := mt_2 _ (List.mem_of_getElem? (i := 190) rfl)
theorem mw_431 : Jvm.Cond.methodLink "FractionPool$CommonDivisor" (53 : Nat) ({ cls := "FractionPool$Whole", name := "bits", desc := "()I" } : Jvm.MethodName) ∈ lw_tbl := mt_2 _ (List.mem_of_getElem? (i := 191) rfl)
theorem mw_432 : Jvm.Cond.instanceMethod ({ cls := "FractionPool$Whole", name := "bits", desc := "()I" } : Jvm.MethodName) ∈ lw_tbl := mt_2 _ (List.mem_of_getElem? (i := 192) rfl)
theorem mw_433 : Jvm.Cond.selects "FractionPool$Whole" ({ cls := "FractionPool$Whole", name := "bits", desc := "()I" } : Jvm.MethodName) ({ cls := "FractionPool$Whole", name := "bits", desc := "()I" } : Jvm.MethodName) ∈ lw_tbl := mt_2 _ (List.mem_of_getElem? (i := 193) rfl)
theorem mw_434 : Jvm.Cond.code ({ cls := "FractionPool$Whole", name := "bits", desc := "()I" } : Jvm.MethodName) prog_8_method_8_code (1 : Nat) (Option.some Jvm.ClassFile.FieldType.int) ∈ lw_tbl := mt_2 _ (List.mem_of_getElem? (i := 194) rfl)
theorem mw_435 : Jvm.Cond.methodLink "FractionPool$Whole" (44 : Nat) ({ cls := "java/lang/Integer", name := "numberOfLeadingZeros", desc := "(I)I" } : Jvm.MethodName) ∈ lw_tbl := mt_2 _ (List.mem_of_getElem? (i := 195) rfl)
theorem mw_436 : Jvm.Cond.static ({ cls := "java/lang/Integer", name := "numberOfLeadingZeros", desc := "(I)I" } : Jvm.MethodName) ∈ lw_tbl := mt_2 _ (List.mem_of_getElem? (i := 196) rfl)
theorem mw_437 : Jvm.Cond.code ({ cls := "java/lang/Integer", name := "numberOfLeadingZeros", desc := "(I)I" } : Jvm.MethodName) prog_18_method_47_code (2 : Nat) (Option.some Jvm.ClassFile.FieldType.int) ∈ lw_tbl := mt_2 _ (List.mem_of_getElem? (i := 197) rfl)
theorem mw_438 : Jvm.Cond.constant "java/lang/Integer" (264 : Nat) (65536 : Int32) ∈ lw_tbl := mt_2 _ (List.mem_of_getElem? (i := 198) rfl)
theorem mw_439 : Jvm.Cond.methodLink "FractionPool$CommonDivisor" (57 : Nat) ({ cls := "java/lang/Math", name := "max", desc := "(II)I" } : Jvm.MethodName) ∈ lw_tbl := mt_2 _ (List.mem_of_getElem? (i := 199) rfl)
theorem mw_440 : Jvm.Cond.methodLink "FractionPool$CommonDivisor" (63 : Nat) ({ cls := "FractionPool$Whole", name := "bitsFrom", desc := "(I)J" } : Jvm.MethodName) ∈ lw_tbl := mt_2 _ (List.mem_of_getElem? (i := 200) rfl)
theorem mw_441 : Jvm.Cond.instanceMethod ({ cls := "FractionPool$Whole", name := "bitsFrom", desc := "(I)J" } : Jvm.MethodName) ∈ lw_tbl := mt_2 _ (List.mem_of_getElem? (i := 201) rfl)
theorem mw_442 : Jvm.Cond.selects "FractionPool$Whole" ({ cls := "FractionPool$Whole", name := "bitsFrom", desc := "(I)J" } : Jvm.MethodName) ({ cls := "FractionPool$Whole", name := "bitsFrom", desc := "(I)J" } : Jvm.MethodName) ∈ lw_tbl := mt_2 _ (List.mem_of_getElem? (i := 202) rfl)
theorem mw_443 : Jvm.Cond.code ({ cls := "FractionPool$Whole", name := "bitsFrom", desc := "(I)J" } : Jvm.MethodName) prog_8_method_10_code (6 : Nat) (Option.some Jvm.ClassFile.FieldType.long) ∈ lw_tbl := mt_2 _ (List.mem_of_getElem? (i := 203) rfl)
theorem mw_444 : Jvm.Cond.methodLink "FractionPool$Whole" (53 : Nat) ({ cls := "FractionPool$Whole", name := "at", desc := "(I)J" } : Jvm.MethodName) ∈ lw_tbl := mt_2 _ (List.mem_of_getElem? (i := 204) rfl)
theorem mw_445 : Jvm.Cond.instanceMethod ({ cls := "FractionPool$Whole", name := "at", desc := "(I)J" } : Jvm.MethodName) ∈ lw_tbl := mt_2 _ (List.mem_of_getElem? (i := 205) rfl)
theorem mw_446 : Jvm.Cond.selects "FractionPool$Whole" ({ cls := "FractionPool$Whole", name := "at", desc := "(I)J" } : Jvm.MethodName) ({ cls := "FractionPool$Whole", name := "at", desc := "(I)J" } : Jvm.MethodName) ∈ lw_tbl := mt_2 _ (List.mem_of_getElem? (i := 206) rfl)
theorem mw_447 : Jvm.Cond.code ({ cls := "FractionPool$Whole", name := "at", desc := "(I)J" } : Jvm.MethodName) prog_8_method_7_code (2 : Nat) (Option.some Jvm.ClassFile.FieldType.long) ∈ lw_tbl := mt_2 _ (List.mem_of_getElem? (i := 207) rfl)
theorem mw_448 : Jvm.Cond.constantLong "FractionPool$CommonDivisor" (76 : Nat) (1073741824 : Int64) ∈ lw_tbl := mt_2 _ (List.mem_of_getElem? (i := 208) rfl)
theorem mw_449 : Jvm.Cond.methodLink "FractionPool$CommonDivisor" (78 : Nat) ({ cls := "java/lang/Math", name := "abs", desc := "(J)J" } : Jvm.MethodName) ∈ lw_tbl := mt_2 _ (List.mem_of_getElem? (i := 209) rfl)
theorem mw_450 : Jvm.Cond.methodLink "FractionPool$CommonDivisor" (46 : Nat) ({ cls := "FractionPool$CommonDivisor", name := "makeSteps", desc := "()V" } : Jvm.MethodName) ∈ lw_tbl := mt_2 _ (List.mem_of_getElem? (i := 210) rfl)
theorem mw_451 : Jvm.Cond.privateMethod ({ cls := "FractionPool$CommonDivisor", name := "makeSteps", desc := "()V" } : Jvm.MethodName) ∈ lw_tbl := mt_2 _ (List.mem_of_getElem? (i := 211) rfl)
theorem mw_452 : Jvm.Cond.instanceMethod ({ cls := "FractionPool$CommonDivisor", name := "makeSteps", desc := "()V" } : Jvm.MethodName) ∈ lw_tbl := mt_2 _ (List.mem_of_getElem? (i := 212) rfl)
theorem mw_453 : Jvm.Cond.code ({ cls := "FractionPool$CommonDivisor", name := "makeSteps", desc := "()V" } : Jvm.MethodName) prog_3_method_4_code (11 : Nat) (Option.none : Option Jvm.ClassFile.FieldType) ∈ lw_tbl := mt_2 _ (List.mem_of_getElem? (i := 213) rfl)
theorem mw_454 : Jvm.Cond.methodLinkNest "FractionPool$CommonDivisor" (82 : Nat) ({ cls := "FractionPool$Whole", name := "widen", desc := "(I)V" } : Jvm.MethodName) "FractionPool" ∈ lw_tbl := mt_2 _ (List.mem_of_getElem? (i := 214) rfl)
theorem mw_455 : Jvm.Cond.privateMethod ({ cls := "FractionPool$Whole", name := "widen", desc := "(I)V" } : Jvm.MethodName) ∈ lw_tbl := mt_2 _ (List.mem_of_getElem? (i := 215) rfl)
theorem mw_456 : Jvm.Cond.instanceMethod ({ cls := "FractionPool$Whole", name := "widen", desc := "(I)V" } : Jvm.MethodName) ∈ lw_tbl := mt_2 _ (List.mem_of_getElem? (i := 216) rfl)
theorem mw_457 : Jvm.Cond.code ({ cls := "FractionPool$Whole", name := "widen", desc := "(I)V" } : Jvm.MethodName) prog_8_method_4_code (2 : Nat) (Option.none : Option Jvm.ClassFile.FieldType) ∈ lw_tbl := mt_2 _ (List.mem_of_getElem? (i := 217) rfl)
theorem mw_458 : Jvm.Cond.methodLink "FractionPool$Whole" (36 : Nat) ({ cls := "java/util/Arrays", name := "fill", desc := "([IIII)V" } : Jvm.MethodName) ∈ lw_tbl := mt_2 _ (List.mem_of_getElem? (i := 218) rfl)
theorem mw_459 : Jvm.Cond.static ({ cls := "java/util/Arrays", name := "fill", desc := "([IIII)V" } : Jvm.MethodName) ∈ lw_tbl := mt_2 _ (List.mem_of_getElem? (i := 219) rfl)
theorem mw_460 : Jvm.Cond.code ({ cls := "java/util/Arrays", name := "fill", desc := "([IIII)V" } : Jvm.MethodName) prog_29_method_104_code (5 : Nat) (Option.none : Option Jvm.ClassFile.FieldType) ∈ lw_tbl := mt_2 _ (List.mem_of_getElem? (i := 220) rfl)
theorem mw_461 : Jvm.Cond.methodLink "java/util/Arrays" (13 : Nat) ({ cls := "java/util/Arrays", name := "rangeCheck", desc := "(III)V" } : Jvm.MethodName) ∈ lw_tbl := mt_2 _ (List.mem_of_getElem? (i := 221) rfl)
theorem mw_462 : Jvm.Cond.static ({ cls := "java/util/Arrays", name := "rangeCheck", desc := "(III)V" } : Jvm.MethodName) ∈ lw_tbl := mt_2 _ (List.mem_of_getElem? (i := 222) rfl)
theorem mw_463 : Jvm.Cond.code ({ cls := "java/util/Arrays", name := "rangeCheck", desc := "(III)V" } : Jvm.MethodName) prog_29_method_30_code (3 : Nat) (Option.none : Option Jvm.ClassFile.FieldType) ∈ lw_tbl := mt_2 _ (List.mem_of_getElem? (i := 223) rfl)
theorem mw_464 : Jvm.Cond.classLink "java/util/Arrays" (43 : Nat) "java/lang/IllegalArgumentException" ∈ lw_tbl := mt_2 _ (List.mem_of_getElem? (i := 224) rfl)
theorem mw_465 : Jvm.Cond.instantiable "java/lang/IllegalArgumentException" (6 : Nat) ∈ lw_tbl := mt_2 _ (List.mem_of_getElem? (i := 225) rfl)
theorem mw_466 : Jvm.Cond.castable "java/lang/IllegalArgumentException" "java/lang/IllegalArgumentException" ∈ lw_tbl := mt_2 _ (List.mem_of_getElem? (i := 226) rfl)
theorem mw_467 : Jvm.Cond.selects "java/lang/IllegalArgumentException" ({ cls := "java/lang/Throwable", name := "fillInStackTrace", desc := "(I)Ljava/lang/Throwable;" } : Jvm.MethodName) ({ cls := "java/lang/Throwable", name := "fillInStackTrace", desc := "(I)Ljava/lang/Throwable;" } : Jvm.MethodName) ∈ lw_tbl := mt_2 _ (List.mem_of_getElem? (i := 227) rfl)
theorem mw_468 : Jvm.Cond.lays "java/lang/IllegalArgumentException" "java/lang/Throwable" "cause" "Ljava/lang/Throwable;" ∈ lw_tbl := mt_2 _ (List.mem_of_getElem? (i := 228) rfl)
theorem mw_469 : Jvm.Cond.lays "java/lang/IllegalArgumentException" "java/lang/Throwable" "stackTrace" "[Ljava/lang/StackTraceElement;" ∈ lw_tbl := mt_2 _ (List.mem_of_getElem? (i := 229) rfl)
theorem mw_470 : Jvm.Cond.lays "java/lang/IllegalArgumentException" "java/lang/Throwable" "suppressedExceptions" "Ljava/util/List;" ∈ lw_tbl := mt_2 _ (List.mem_of_getElem? (i := 230) rfl)
theorem mw_471 : Jvm.Cond.lays "java/lang/IllegalArgumentException" "java/lang/Throwable" "detailMessage" "Ljava/lang/String;" ∈ lw_tbl := mt_2 _ (List.mem_of_getElem? (i := 231) rfl)
theorem mw_472 : Jvm.Cond.lays "java/lang/IllegalArgumentException" "java/lang/Throwable" "backtrace" "Ljava/lang/Object;" ∈ lw_tbl := mt_2 _ (List.mem_of_getElem? (i := 232) rfl)
theorem mw_473 : Jvm.Cond.classLink "java/util/Arrays" (45 : Nat) "java/lang/StringBuilder" ∈ lw_tbl := mt_2 _ (List.mem_of_getElem? (i := 233) rfl)
theorem mw_474 : Jvm.Cond.instantiable "java/lang/StringBuilder" (4 : Nat) ∈ lw_tbl := mt_2 _ (List.mem_of_getElem? (i := 234) rfl)
theorem mw_475 : Jvm.Cond.methodLink "java/util/Arrays" (47 : Nat) ({ cls := "java/lang/StringBuilder", name := "<init>", desc := "()V" } : Jvm.MethodName) ∈ lw_tbl := mt_2 _ (List.mem_of_getElem? (i := 235) rfl)
theorem mw_476 : Jvm.Cond.instanceMethod ({ cls := "java/lang/StringBuilder", name := "<init>", desc := "()V" } : Jvm.MethodName) ∈ lw_tbl := mt_2 _ (List.mem_of_getElem? (i := 236) rfl)
theorem mw_477 : Jvm.Cond.code ({ cls := "java/lang/StringBuilder", name := "<init>", desc := "()V" } : Jvm.MethodName) prog_23_method_1_code (1 : Nat) (Option.none : Option Jvm.ClassFile.FieldType) ∈ lw_tbl := mt_2 _ (List.mem_of_getElem? (i := 237) rfl)
theorem mw_478 : Jvm.Cond.methodLink "java/lang/StringBuilder" (1 : Nat) ({ cls := "java/lang/AbstractStringBuilder", name := "<init>", desc := "(I)V" } : Jvm.MethodName) ∈ lw_tbl := mt_2 _ (List.mem_of_getElem? (i := 238) rfl)
theorem mw_479 : Jvm.Cond.instanceMethod ({ cls := "java/lang/AbstractStringBuilder", name := "<init>", desc := "(I)V" } : Jvm.MethodName) ∈ lw_tbl := mt_2 _ (List.mem_of_getElem? (i := 239) rfl)
theorem mw_480 : Jvm.Cond.code ({ cls := "java/lang/AbstractStringBuilder", name := "<init>", desc := "(I)V" } : Jvm.MethodName) prog_11_method_2_code (2 : Nat) (Option.none : Option Jvm.ClassFile.FieldType) ∈ lw_tbl := mt_3 _ (List.mem_of_getElem? (i := 0) rfl)
theorem mw_481 : Jvm.Cond.methodLink "java/lang/AbstractStringBuilder" (3 : Nat) ({ cls := "java/lang/Object", name := "<init>", desc := "()V" } : Jvm.MethodName) ∈ lw_tbl := mt_3 _ (List.mem_of_getElem? (i := 1) rfl)
theorem mw_482 : Jvm.Cond.fieldLink "java/lang/AbstractStringBuilder" (18 : Nat) "java/lang/String" "COMPACT_STRINGS" "Z" ∈ lw_tbl := mt_3 _ (List.mem_of_getElem? (i := 2) rfl)
theorem mw_483 : Jvm.Cond.laysStatic "java/lang/String" "COMPACT_STRINGS" "Z" ∈ lw_tbl := mt_3 _ (List.mem_of_getElem? (i := 3) rfl)
theorem mw_484 : Jvm.Cond.methodLink "java/lang/AbstractStringBuilder" (26 : Nat) ({ cls := "java/lang/StringUTF16", name := "newBytesFor", desc := "(I)[B" } : Jvm.MethodName) ∈ lw_tbl := mt_3 _ (List.mem_of_getElem? (i := 4) rfl)
theorem mw_485 : Jvm.Cond.static ({ cls := "java/lang/StringUTF16", name := "newBytesFor", desc := "(I)[B" } : Jvm.MethodName) ∈ lw_tbl := mt_3 _ (List.mem_of_getElem? (i := 5) rfl)
theorem mw_486 : Jvm.Cond.code ({ cls := "java/lang/StringUTF16", name := "newBytesFor", desc := "(I)[B" } : Jvm.MethodName) prog_25_method_2_code (1 : Nat) (Option.some (Jvm.ClassFile.FieldType.array Jvm.ClassFile.FieldType.byte)) ∈ lw_tbl := mt_3 _ (List.mem_of_getElem? (i := 6) rfl)
theorem mw_487 : Jvm.Cond.methodLink "java/lang/StringUTF16" (11 : Nat) ({ cls := "java/lang/StringUTF16", name := "newBytesLength", desc := "(I)I" } : Jvm.MethodName) ∈ lw_tbl := mt_3 _ (List.mem_of_getElem? (i := 7) rfl)
theorem mw_488 : Jvm.Cond.static ({ cls := "java/lang/StringUTF16", name := "newBytesLength", desc := "(I)I" } : Jvm.MethodName) ∈ lw_tbl := mt_3 _ (List.mem_of_getElem? (i := 8) rfl)
theorem mw_489 : Jvm.Cond.code ({ cls := "java/lang/StringUTF16", name := "newBytesLength", desc := "(I)I" } : Jvm.MethodName) prog_25_method_3_code (1 : Nat) (Option.some Jvm.ClassFile.FieldType.int) ∈ lw_tbl := mt_3 _ (List.mem_of_getElem? (i := 9) rfl)
theorem mw_490 : Jvm.Cond.constant "java/lang/StringUTF16" (20 : Nat) (1073741823 : Int32) ∈ lw_tbl := mt_3 _ (List.mem_of_getElem? (i := 10) rfl)
theorem mw_491 : Jvm.Cond.fieldLink "java/lang/AbstractStringBuilder" (15 : Nat) "java/lang/AbstractStringBuilder" "value" "[B" ∈ lw_tbl := mt_3 _ (List.mem_of_getElem? (i := 11) rfl)
theorem mw_492 : Jvm.Cond.fieldLink "java/lang/AbstractStringBuilder" (22 : Nat) "java/lang/AbstractStringBuilder" "coder" "B" ∈ lw_tbl := mt_3 _ (List.mem_of_getElem? (i := 12) rfl)
theorem mw_493 : Jvm.Cond.fieldLink "java/lang/String" (1048 : Nat) "java/lang/AbstractStringBuilder" "maybeLatin1" "Z" ∈ lw_tbl := mt_3 _ (List.mem_of_getElem? (i := 13) rfl)
theorem mw_494 : Jvm.Cond.fieldLink "java/lang/AbstractStringBuilder" (79 : Nat) "java/lang/AbstractStringBuilder" "count" "I" ∈ lw_tbl := mt_3 _ (List.mem_of_getElem? (i := 14) rfl)
theorem mw_495 : Jvm.Cond.lays "java/lang/StringBuilder" "java/lang/AbstractStringBuilder" "value" "[B" ∈ lw_tbl := mt_3 _ (List.mem_of_getElem? (i := 15) rfl)
theorem mw_496 : Jvm.Cond.soleField "java/lang/AbstractStringBuilder" "value" ∈ lw_tbl := mt_3 _ (List.mem_of_getElem? (i := 16) rfl)
theorem mw_497 : Jvm.Cond.lays "java/lang/StringBuilder" "java/lang/AbstractStringBuilder" "coder" "B" ∈ lw_tbl := mt_3 _ (List.mem_of_getElem? (i := 17) rfl)
theorem mw_498 : Jvm.Cond.soleField "java/lang/AbstractStringBuilder" "coder" ∈ lw_tbl := mt_3 _ (List.mem_of_getElem? (i := 18) rfl)
theorem mw_499 : Jvm.Cond.lays "java/lang/StringBuilder" "java/lang/AbstractStringBuilder" "maybeLatin1" "Z" ∈ lw_tbl := mt_3 _ (List.mem_of_getElem? (i := 19) rfl)
theorem mw_500 : Jvm.Cond.soleField "java/lang/AbstractStringBuilder" "maybeLatin1" ∈ lw_tbl := mt_3 _ (List.mem_of_getElem? (i := 20) rfl)
theorem mw_501 : Jvm.Cond.lays "java/lang/StringBuilder" "java/lang/AbstractStringBuilder" "count" "I" ∈ lw_tbl := mt_3 _ (List.mem_of_getElem? (i := 21) rfl)
theorem mw_502 : Jvm.Cond.soleField "java/lang/AbstractStringBuilder" "count" ∈ lw_tbl := mt_3 _ (List.mem_of_getElem? (i := 22) rfl)
theorem mw_503 : Jvm.Cond.superclass "java/lang/StringBuilder" "java/lang/AbstractStringBuilder" ∈ lw_tbl := mt_3 _ (List.mem_of_getElem? (i := 23) rfl)
theorem mw_504 : Jvm.Cond.stringRef "java/util/Arrays" (48 : Nat) "fromIndex(" ∈ lw_tbl := mt_3 _ (List.mem_of_getElem? (i := 24) rfl)
theorem mw_505 : Jvm.Cond.methodLink "java/util/Arrays" (50 : Nat) ({ cls := "java/lang/StringBuilder", name := "append", desc := "(Ljava/lang/String;)Ljava/lang/StringBuilder;" } : Jvm.MethodName) ∈ lw_tbl := mt_3 _ (List.mem_of_getElem? (i := 25) rfl)
theorem mw_506 : Jvm.Cond.instanceMethod ({ cls := "java/lang/StringBuilder", name := "append", desc := "(Ljava/lang/String;)Ljava/lang/StringBuilder;" } : Jvm.MethodName) ∈ lw_tbl := mt_3 _ (List.mem_of_getElem? (i := 26) rfl)
theorem mw_507 : Jvm.Cond.selects "java/lang/StringBuilder" ({ cls := "java/lang/StringBuilder", name := "append", desc := "(Ljava/lang/String;)Ljava/lang/StringBuilder;" } : Jvm.MethodName) ({ cls := "java/lang/StringBuilder", name := "append", desc := "(Ljava/lang/String;)Ljava/lang/StringBuilder;" } : Jvm.MethodName) ∈ lw_tbl := mt_3 _ (List.mem_of_getElem? (i := 27) rfl)
theorem mw_508 : Jvm.Cond.code ({ cls := "java/lang/StringBuilder", name := "append", desc := "(Ljava/lang/String;)Ljava/lang/StringBuilder;" } : Jvm.MethodName) prog_23_method_7_code (2 : Nat) (Option.some (Jvm.ClassFile.FieldType.object "java/lang/StringBuilder")) ∈ lw_tbl := mt_3 _ (List.mem_of_getElem? (i := 28) rfl)
theorem mw_509 : Jvm.Cond.methodLink "java/lang/StringBuilder" (29 : Nat) ({ cls := "java/lang/AbstractStringBuilder", name := "append", desc := "(Ljava/lang/String;)Ljava/lang/AbstractStringBuilder;" } : Jvm.MethodName) ∈ lw_tbl := mt_3 _ (List.mem_of_getElem? (i := 29) rfl)
theorem mw_510 : Jvm.Cond.instanceMethod ({ cls := "java/lang/AbstractStringBuilder", name := "append", desc := "(Ljava/lang/String;)Ljava/lang/AbstractStringBuilder;" } : Jvm.MethodName) ∈ lw_tbl := mt_3 _ (List.mem_of_getElem? (i := 30) rfl)
theorem mw_511 : Jvm.Cond.code ({ cls := "java/lang/AbstractStringBuilder", name := "append", desc := "(Ljava/lang/String;)Ljava/lang/AbstractStringBuilder;" } : Jvm.MethodName) prog_11_method_22_code (3 : Nat) (Option.some (Jvm.ClassFile.FieldType.object "java/lang/AbstractStringBuilder")) ∈ lw_tbl := mt_3 _ (List.mem_of_getElem? (i := 31) rfl)
theorem mw_512 : Jvm.Cond.methodLink "java/lang/AbstractStringBuilder" (204 : Nat) ({ cls := "java/lang/AbstractStringBuilder", name := "appendNull", desc := "()Ljava/lang/AbstractStringBuilder;" } : Jvm.MethodName) ∈ lw_tbl := mt_3 _ (List.mem_of_getElem? (i := 32) rfl)
theorem mw_513 : Jvm.Cond.privateMethod ({ cls := "java/lang/AbstractStringBuilder", name := "appendNull", desc := "()Ljava/lang/AbstractStringBuilder;" } : Jvm.MethodName) ∈ lw_tbl := mt_3 _ (List.mem_of_getElem? (i := 33) rfl)
theorem mw_514 : Jvm.Cond.instanceMethod ({ cls := "java/lang/AbstractStringBuilder", name := "appendNull", desc := "()Ljava/lang/AbstractStringBuilder;" } : Jvm.MethodName) ∈ lw_tbl := mt_3 _ (List.mem_of_getElem? (i := 34) rfl)
theorem mw_515 : Jvm.Cond.code ({ cls := "java/lang/AbstractStringBuilder", name := "appendNull", desc := "()Ljava/lang/AbstractStringBuilder;" } : Jvm.MethodName) prog_11_method_26_code (3 : Nat) (Option.some (Jvm.ClassFile.FieldType.object "java/lang/AbstractStringBuilder")) ∈ lw_tbl := mt_3 _ (List.mem_of_getElem? (i := 35) rfl)
theorem mw_516 : Jvm.Cond.methodLink "java/lang/AbstractStringBuilder" (100 : Nat) ({ cls := "java/lang/AbstractStringBuilder", name := "ensureCapacityInternal", desc := "(I)V" } : Jvm.MethodName) ∈ lw_tbl := mt_3 _ (List.mem_of_getElem? (i := 36) rfl)
theorem mw_517 : Jvm.Cond.privateMethod ({ cls := "java/lang/AbstractStringBuilder", name := "ensureCapacityInternal", desc := "(I)V" } : Jvm.MethodName) ∈ lw_tbl := mt_3 _ (List.mem_of_getElem? (i := 37) rfl)
theorem mw_518 : Jvm.Cond.instanceMethod ({ cls := "java/lang/AbstractStringBuilder", name := "ensureCapacityInternal", desc := "(I)V" } : Jvm.MethodName) ∈ lw_tbl := mt_3 _ (List.mem_of_getElem? (i := 38) rfl)
theorem mw_519 : Jvm.Cond.code ({ cls := "java/lang/AbstractStringBuilder", name := "ensureCapacityInternal", desc := "(I)V" } : Jvm.MethodName) prog_11_method_9_code (3 : Nat) (Option.none : Option Jvm.ClassFile.FieldType) ∈ lw_tbl := mt_3 _ (List.mem_of_getElem? (i := 39) rfl)
theorem mw_520 : Jvm.Cond.methodLink "java/lang/AbstractStringBuilder" (104 : Nat) ({ cls := "java/lang/AbstractStringBuilder", name := "newCapacity", desc := "(I)I" } : Jvm.MethodName) ∈ lw_tbl := mt_3 _ (List.mem_of_getElem? (i := 40) rfl)
theorem mw_521 : Jvm.Cond.privateMethod ({ cls := "java/lang/AbstractStringBuilder", name := "newCapacity", desc := "(I)I" } : Jvm.MethodName) ∈ lw_tbl := mt_3 _ (List.mem_of_getElem? (i := 41) rfl)
theorem mw_522 : Jvm.Cond.instanceMethod ({ cls := "java/lang/AbstractStringBuilder", name := "newCapacity", desc := "(I)I" } : Jvm.MethodName) ∈ lw_tbl := mt_3 _ (List.mem_of_getElem? (i := 42) rfl)
theorem mw_523 : Jvm.Cond.code ({ cls := "java/lang/AbstractStringBuilder", name := "newCapacity", desc := "(I)I" } : Jvm.MethodName) prog_11_method_10_code (6 : Nat) (Option.some Jvm.ClassFile.FieldType.int) ∈ lw_tbl := mt_3 _ (List.mem_of_getElem? (i := 43) rfl)
theorem mw_524 : Jvm.Cond.methodLink "java/lang/AbstractStringBuilder" (114 : Nat) ({ cls := "jdk/internal/util/ArraysSupport", name := "newLength", desc := "(III)I" } : Jvm.MethodName) ∈ lw_tbl := mt_3 _ (List.mem_of_getElem? (i := 44) rfl)
theorem mw_525 : Jvm.Cond.static ({ cls := "jdk/internal/util/ArraysSupport", name := "newLength", desc := "(III)I" } : Jvm.MethodName) ∈ lw_tbl := mt_3 _ (List.mem_of_getElem? (i := 45) rfl)
theorem mw_526 : Jvm.Cond.code ({ cls := "jdk/internal/util/ArraysSupport", name := "newLength", desc := "(III)I" } : Jvm.MethodName) prog_30_method_27_code (4 : Nat) (Option.some Jvm.ClassFile.FieldType.int) ∈ lw_tbl := mt_3 _ (List.mem_of_getElem? (i := 46) rfl)
theorem mw_527 : Jvm.Cond.methodLink "jdk/internal/util/ArraysSupport" (194 : Nat) ({ cls := "java/lang/Math", name := "max", desc := "(II)I" } : Jvm.MethodName) ∈ lw_tbl := mt_3 _ (List.mem_of_getElem? (i := 47) rfl)
theorem mw_528 : Jvm.Cond.constant "jdk/internal/util/ArraysSupport" (200 : Nat) (2147483639 : Int32) ∈ lw_tbl := mt_3 _ (List.mem_of_getElem? (i := 48) rfl)
theorem mw_529 : Jvm.Cond.methodLink "jdk/internal/util/ArraysSupport" (201 : Nat) ({ cls := "jdk/internal/util/ArraysSupport", name := "hugeLength", desc := "(II)I" } : Jvm.MethodName) ∈ lw_tbl := mt_3 _ (List.mem_of_getElem? (i := 49) rfl)
theorem mw_530 : Jvm.Cond.static ({ cls := "jdk/internal/util/ArraysSupport", name := "hugeLength", desc := "(II)I" } : Jvm.MethodName) ∈ lw_tbl := mt_3 _ (List.mem_of_getElem? (i := 50) rfl)
theorem mw_531 : Jvm.Cond.code ({ cls := "jdk/internal/util/ArraysSupport", name := "hugeLength", desc := "(II)I" } : Jvm.MethodName) prog_30_method_28_code (3 : Nat) (Option.some Jvm.ClassFile.FieldType.int) ∈ lw_tbl := mt_3 _ (List.mem_of_getElem? (i := 51) rfl)
theorem mw_532 : Jvm.Cond.constant "java/lang/AbstractStringBuilder" (39 : Nat) (2147483647 : Int32) ∈ lw_tbl := mt_3 _ (List.mem_of_getElem? (i := 52) rfl)
theorem mw_533 : Jvm.Cond.methodLink "java/lang/AbstractStringBuilder" (108 : Nat) ({ cls := "java/util/Arrays", name := "copyOf", desc := "([BI)[B" } : Jvm.MethodName) ∈ lw_tbl := mt_3 _ (List.mem_of_getElem? (i := 53) rfl)
theorem mw_534 : Jvm.Cond.static ({ cls := "java/util/Arrays", name := "copyOf", desc := "([BI)[B" } : Jvm.MethodName) ∈ lw_tbl := mt_3 _ (List.mem_of_getElem? (i := 54) rfl)
theorem mw_535 : Jvm.Cond.code ({ cls := "java/util/Arrays", name := "copyOf", desc := "([BI)[B" } : Jvm.MethodName) prog_29_method_121_code (3 : Nat) (Option.some (Jvm.ClassFile.FieldType.array Jvm.ClassFile.FieldType.byte)) ∈ lw_tbl := mt_3 _ (List.mem_of_getElem? (i := 55) rfl)
theorem mw_536 : Jvm.Cond.methodLink "java/util/Arrays" (310 : Nat) ({ cls := "[B", name := "clone", desc := "()Ljava/lang/Object;" } : Jvm.MethodName) ∈ lw_tbl := mt_3 _ (List.mem_of_getElem? (i := 56) rfl)
theorem mw_537 : Jvm.Cond.sameMethod "[B" "java/lang/Object" "clone" "()Ljava/lang/Object;" ∈ lw_tbl := mt_3 _ (List.mem_of_getElem? (i := 57) rfl)
theorem mw_538 : Jvm.Cond.native ({ cls := "java/lang/Object", name := "clone", desc := "()Ljava/lang/Object;" } : Jvm.MethodName) ∈ lw_tbl := mt_3 _ (List.mem_of_getElem? (i := 58) rfl)
theorem mw_539 : Jvm.Cond.instanceMethod ({ cls := "java/lang/Object", name := "clone", desc := "()Ljava/lang/Object;" } : Jvm.MethodName) ∈ lw_tbl := mt_3 _ (List.mem_of_getElem? (i := 59) rfl)
theorem mw_540 : Jvm.Cond.selects "[B" ({ cls := "[B", name := "clone", desc := "()Ljava/lang/Object;" } : Jvm.MethodName) ({ cls := "java/lang/Object", name := "clone", desc := "()Ljava/lang/Object;" } : Jvm.MethodName) ∈ lw_tbl := mt_3 _ (List.mem_of_getElem? (i := 60) rfl)
theorem mw_541 : Jvm.Cond.castable "[B" "java/lang/Cloneable" ∈ lw_tbl := mt_3 _ (List.mem_of_getElem? (i := 61) rfl)
theorem mw_542 : Jvm.Cond.classLink "java/util/Arrays" (311 : Nat) "[B" ∈ lw_tbl := mt_3 _ (List.mem_of_getElem? (i := 62) rfl)
theorem mw_543 : Jvm.Cond.methodLink "java/util/Arrays" (304 : Nat) ({ cls := "java/lang/Math", name := "min", desc := "(II)I" } : Jvm.MethodName) ∈ lw_tbl := mt_3 _ (List.mem_of_getElem? (i := 63) rfl)
theorem mw_544 : Jvm.Cond.static ({ cls := "java/lang/Math", name := "min", desc := "(II)I" } : Jvm.MethodName) ∈ lw_tbl := mt_3 _ (List.mem_of_getElem? (i := 64) rfl)
theorem mw_545 : Jvm.Cond.code ({ cls := "java/lang/Math", name := "min", desc := "(II)I" } : Jvm.MethodName) prog_20_method_69_code (2 : Nat) (Option.some Jvm.ClassFile.FieldType.int) ∈ lw_tbl := mt_3 _ (List.mem_of_getElem? (i := 65) rfl)
theorem mw_546 : Jvm.Cond.methodLink "java/util/Arrays" (150 : Nat) ({ cls := "java/lang/System", name := "arraycopy", desc := "(Ljava/lang/Object;ILjava/lang/Object;II)V" } : Jvm.MethodName) ∈ lw_tbl := mt_3 _ (List.mem_of_getElem? (i := 66) rfl)
theorem mw_547 : Jvm.Cond.methodLink "java/lang/AbstractStringBuilder" (83 : Nat) ({ cls := "java/lang/AbstractStringBuilder", name := "isLatin1", desc := "()Z" } : Jvm.MethodName) ∈ lw_tbl := mt_3 _ (List.mem_of_getElem? (i := 67) rfl)
theorem mw_548 : Jvm.Cond.instanceMethod ({ cls := "java/lang/AbstractStringBuilder", name := "isLatin1", desc := "()Z" } : Jvm.MethodName) ∈ lw_tbl := mt_3 _ (List.mem_of_getElem? (i := 68) rfl)
theorem mw_549 : Jvm.Cond.sameMethod "java/lang/AbstractStringBuilder" "java/lang/AbstractStringBuilder" "isLatin1" "()Z" ∈ lw_tbl := mt_3 _ (List.mem_of_getElem? (i := 69) rfl)
theorem mw_550 : Jvm.Cond.selects "java/lang/StringBuilder" ({ cls := "java/lang/AbstractStringBuilder", name := "isLatin1", desc := "()Z" } : Jvm.MethodName) ({ cls := "java/lang/AbstractStringBuilder", name := "isLatin1", desc := "()Z" } : Jvm.MethodName) ∈ lw_tbl := mt_3 _ (List.mem_of_getElem? (i := 70) rfl)
theorem mw_551 : Jvm.Cond.code ({ cls := "java/lang/AbstractStringBuilder", name := "isLatin1", desc := "()Z" } : Jvm.MethodName) prog_11_method_68_code (1 : Nat) (Option.some Jvm.ClassFile.FieldType.boolean) ∈ lw_tbl := mt_3 _ (List.mem_of_getElem? (i := 71) rfl)
theorem mw_552 : Jvm.Cond.methodLink "java/lang/AbstractStringBuilder" (226 : Nat) ({ cls := "java/lang/StringUTF16", name := "putCharsAt", desc := "([BICCCC)I" } : Jvm.MethodName) ∈ lw_tbl := mt_3 _ (List.mem_of_getElem? (i := 72) rfl)
theorem mw_553 : Jvm.Cond.static ({ cls := "java/lang/StringUTF16", name := "putCharsAt", desc := "([BICCCC)I" } : Jvm.MethodName) ∈ lw_tbl := mt_3 _ (List.mem_of_getElem? (i := 73) rfl)
theorem mw_554 : Jvm.Cond.code ({ cls := "java/lang/StringUTF16", name := "putCharsAt", desc := "([BICCCC)I" } : Jvm.MethodName) prog_25_method_81_code (7 : Nat) (Option.some Jvm.ClassFile.FieldType.int) ∈ lw_tbl := mt_3 _ (List.mem_of_getElem? (i := 74) rfl)
theorem mw_555 : Jvm.Cond.methodLink "java/lang/StringUTF16" (96 : Nat) ({ cls := "java/lang/StringUTF16", name := "checkBoundsBeginEnd", desc := "(II[B)V" } : Jvm.MethodName) ∈ lw_tbl := mt_3 _ (List.mem_of_getElem? (i := 75) rfl)
theorem mw_556 : Jvm.Cond.static ({ cls := "java/lang/StringUTF16", name := "checkBoundsBeginEnd", desc := "(II[B)V" } : Jvm.MethodName) ∈ lw_tbl := mt_3 _ (List.mem_of_getElem? (i := 76) rfl)
theorem mw_557 : Jvm.Cond.code ({ cls := "java/lang/StringUTF16", name := "checkBoundsBeginEnd", desc := "(II[B)V" } : Jvm.MethodName) prog_25_method_93_code (3 : Nat) (Option.none : Option Jvm.ClassFile.FieldType) ∈ lw_tbl := mt_3 _ (List.mem_of_getElem? (i := 77) rfl)
theorem mw_558 : Jvm.Cond.methodLink "java/lang/StringUTF16" (48 : Nat) ({ cls := "java/lang/StringUTF16", name := "length", desc := "([B)I" } : Jvm.MethodName) ∈ lw_tbl := mt_3 _ (List.mem_of_getElem? (i := 78) rfl)
theorem mw_559 : Jvm.Cond.static ({ cls := "java/lang/StringUTF16", name := "length", desc := "([B)I" } : Jvm.MethodName) ∈ lw_tbl := mt_3 _ (List.mem_of_getElem? (i := 79) rfl)
theorem mw_560 : Jvm.Cond.code ({ cls := "java/lang/StringUTF16", name := "length", desc := "([B)I" } : Jvm.MethodName) prog_25_method_6_code (1 : Nat) (Option.some Jvm.ClassFile.FieldType.int) ∈ lw_tbl := mt_3 _ (List.mem_of_getElem? (i := 80) rfl)
theorem mw_561 : Jvm.Cond.methodLink "java/lang/StringUTF16" (241 : Nat) ({ cls := "java/lang/String", name := "checkBoundsBeginEnd", desc := "(III)V" } : Jvm.MethodName) ∈ lw_tbl := mt_3 _ (List.mem_of_getElem? (i := 81) rfl)
theorem mw_562 : Jvm.Cond.static ({ cls := "java/lang/String", name := "checkBoundsBeginEnd", desc := "(III)V" } : Jvm.MethodName) ∈ lw_tbl := mt_3 _ (List.mem_of_getElem? (i := 82) rfl)
theorem mw_563 : Jvm.Cond.code ({ cls := "java/lang/String", name := "checkBoundsBeginEnd", desc := "(III)V" } : Jvm.MethodName) prog_22_method_158_code (3 : Nat) (Option.none : Option Jvm.ClassFile.FieldType) ∈ lw_tbl := mt_3 _ (List.mem_of_getElem? (i := 83) rfl)
theorem mw_564 : Jvm.Cond.fieldLink "java/lang/String" (1053 : Nat) "jdk/internal/util/Preconditions" "SIOOBE_FORMATTER" "Ljava/util/function/BiFunction;" ∈ lw_tbl := mt_3 _ (List.mem_of_getElem? (i := 84) rfl)
theorem mw_565 : Jvm.Cond.laysStatic "jdk/internal/util/Preconditions" "SIOOBE_FORMATTER" "Ljava/util/function/BiFunction;" ∈ lw_tbl := mt_3 _ (List.mem_of_getElem? (i := 85) rfl)
theorem mw_566 : Jvm.Cond.methodLink "java/lang/String" (1062 : Nat) ({ cls := "jdk/internal/util/Preconditions", name := "checkFromToIndex", desc := "(IIILjava/util/function/BiFunction;)I" } : Jvm.MethodName) ∈ lw_tbl := mt_3 _ (List.mem_of_getElem? (i := 86) rfl)
theorem mw_567 : Jvm.Cond.static ({ cls := "jdk/internal/util/Preconditions", name := "checkFromToIndex", desc := "(IIILjava/util/function/BiFunction;)I" } : Jvm.MethodName) ∈ lw_tbl := mt_3 _ (List.mem_of_getElem? (i := 87) rfl)
theorem mw_568 : Jvm.Cond.code ({ cls := "jdk/internal/util/Preconditions", name := "checkFromToIndex", desc := "(IIILjava/util/function/BiFunction;)I" } : Jvm.MethodName) prog_31_method_12_code (4 : Nat) (Option.some Jvm.ClassFile.FieldType.int) ∈ lw_tbl := mt_3 _ (List.mem_of_getElem? (i := 88) rfl)
theorem mw_569 : Jvm.Cond.methodLink "java/lang/StringUTF16" (111 : Nat) ({ cls := "java/lang/StringUTF16", name := "putChar", desc := "([BII)V" } : Jvm.MethodName) ∈ lw_tbl := mt_3 _ (List.mem_of_getElem? (i := 89) rfl)
theorem mw_570 : Jvm.Cond.static ({ cls := "java/lang/StringUTF16", name := "putChar", desc := "([BII)V" } : Jvm.MethodName) ∈ lw_tbl := mt_3 _ (List.mem_of_getElem? (i := 90) rfl)
theorem mw_571 : Jvm.Cond.code ({ cls := "java/lang/StringUTF16", name := "putChar", desc := "([BII)V" } : Jvm.MethodName) prog_25_method_4_code (3 : Nat) (Option.none : Option Jvm.ClassFile.FieldType) ∈ lw_tbl := mt_3 _ (List.mem_of_getElem? (i := 91) rfl)
theorem mw_572 : Jvm.Cond.fieldLink "java/lang/StringUTF16" (44 : Nat) "java/lang/StringUTF16" "$assertionsDisabled" "Z" ∈ lw_tbl := mt_3 _ (List.mem_of_getElem? (i := 92) rfl)
theorem mw_573 : Jvm.Cond.laysStatic "java/lang/StringUTF16" "$assertionsDisabled" "Z" ∈ lw_tbl := mt_3 _ (List.mem_of_getElem? (i := 93) rfl)
theorem mw_574 : Jvm.Cond.fieldLink "java/lang/StringUTF16" (59 : Nat) "java/lang/StringUTF16" "HI_BYTE_SHIFT" "I" ∈ lw_tbl := mt_3 _ (List.mem_of_getElem? (i := 94) rfl)
theorem mw_575 : Jvm.Cond.laysStatic "java/lang/StringUTF16" "HI_BYTE_SHIFT" "I" ∈ lw_tbl := mt_3 _ (List.mem_of_getElem? (i := 95) rfl)
theorem mw_576 : Jvm.Cond.fieldLink "java/lang/StringUTF16" (63 : Nat) "java/lang/StringUTF16" "LO_BYTE_SHIFT" "I" ∈ lw_tbl := mt_3 _ (List.mem_of_getElem? (i := 96) rfl)
theorem mw_577 : Jvm.Cond.laysStatic "java/lang/StringUTF16" "LO_BYTE_SHIFT" "I" ∈ lw_tbl := mt_3 _ (List.mem_of_getElem? (i := 97) rfl)
theorem mw_578 : Jvm.Cond.methodLink "java/lang/AbstractStringBuilder" (32 : Nat) ({ cls := "java/lang/String", name := "length", desc := "()I" } : Jvm.MethodName) ∈ lw_tbl := mt_3 _ (List.mem_of_getElem? (i := 98) rfl)
theorem mw_579 : Jvm.Cond.instanceMethod ({ cls := "java/lang/String", name := "length", desc := "()I" } : Jvm.MethodName) ∈ lw_tbl := mt_3 _ (List.mem_of_getElem? (i := 99) rfl)
theorem mw_580 : Jvm.Cond.selects "java/lang/String" ({ cls := "java/lang/String", name := "length", desc := "()I" } : Jvm.MethodName) ({ cls := "java/lang/String", name := "length", desc := "()I" } : Jvm.MethodName) ∈ lw_tbl := mt_3 _ (List.mem_of_getElem? (i := 100) rfl)
theorem mw_581 : Jvm.Cond.code ({ cls := "java/lang/String", name := "length", desc := "()I" } : Jvm.MethodName) prog_22_method_54_code (1 : Nat) (Option.some Jvm.ClassFile.FieldType.int) ∈ lw_tbl := mt_3 _ (List.mem_of_getElem? (i := 101) rfl)
theorem mw_582 : Jvm.Cond.methodLink "java/lang/String" (335 : Nat) ({ cls := "java/lang/String", name := "coder", desc := "()B" } : Jvm.MethodName) ∈ lw_tbl := mt_3 _ (List.mem_of_getElem? (i := 102) rfl)
theorem mw_583 : Jvm.Cond.instanceMethod ({ cls := "java/lang/String", name := "coder", desc := "()B" } : Jvm.MethodName) ∈ lw_tbl := mt_3 _ (List.mem_of_getElem? (i := 103) rfl)
theorem mw_584 : Jvm.Cond.selects "java/lang/String" ({ cls := "java/lang/String", name := "coder", desc := "()B" } : Jvm.MethodName) ({ cls := "java/lang/String", name := "coder", desc := "()B" } : Jvm.MethodName) ∈ lw_tbl := mt_3 _ (List.mem_of_getElem? (i := 104) rfl)
theorem mw_585 : Jvm.Cond.code ({ cls := "java/lang/String", name := "coder", desc := "()B" } : Jvm.MethodName) prog_22_method_152_code (1 : Nat) (Option.some Jvm.ClassFile.FieldType.byte) ∈ lw_tbl := mt_3 _ (List.mem_of_getElem? (i := 105) rfl)
theorem mw_586 : Jvm.Cond.fieldLink "java/lang/String" (38 : Nat) "java/lang/String" "COMPACT_STRINGS" "Z" ∈ lw_tbl := mt_3 _ (List.mem_of_getElem? (i := 106) rfl)
theorem mw_587 : Jvm.Cond.methodLink "java/lang/AbstractStringBuilder" (208 : Nat) ({ cls := "java/lang/AbstractStringBuilder", name := "putStringAt", desc := "(ILjava/lang/String;)V" } : Jvm.MethodName) ∈ lw_tbl := mt_3 _ (List.mem_of_getElem? (i := 107) rfl)
theorem mw_588 : Jvm.Cond.privateMethod ({ cls := "java/lang/AbstractStringBuilder", name := "putStringAt", desc := "(ILjava/lang/String;)V" } : Jvm.MethodName) ∈ lw_tbl := mt_3 _ (List.mem_of_getElem? (i := 108) rfl)
theorem mw_589 : Jvm.Cond.instanceMethod ({ cls := "java/lang/AbstractStringBuilder", name := "putStringAt", desc := "(ILjava/lang/String;)V" } : Jvm.MethodName) ∈ lw_tbl := mt_3 _ (List.mem_of_getElem? (i := 109) rfl)
theorem mw_590 : Jvm.Cond.code ({ cls := "java/lang/AbstractStringBuilder", name := "putStringAt", desc := "(ILjava/lang/String;)V" } : Jvm.MethodName) prog_11_method_73_code (3 : Nat) (Option.none : Option Jvm.ClassFile.FieldType) ∈ lw_tbl := mt_3 _ (List.mem_of_getElem? (i := 110) rfl)
theorem mw_591 : Jvm.Cond.methodLink "java/lang/AbstractStringBuilder" (397 : Nat) ({ cls := "java/lang/AbstractStringBuilder", name := "inflateIfNeededFor", desc := "(Ljava/lang/String;)V" } : Jvm.MethodName) ∈ lw_tbl := mt_3 _ (List.mem_of_getElem? (i := 111) rfl)
theorem mw_592 : Jvm.Cond.privateMethod ({ cls := "java/lang/AbstractStringBuilder", name := "inflateIfNeededFor", desc := "(Ljava/lang/String;)V" } : Jvm.MethodName) ∈ lw_tbl := mt_3 _ (List.mem_of_getElem? (i := 112) rfl)
theorem mw_593 : Jvm.Cond.instanceMethod ({ cls := "java/lang/AbstractStringBuilder", name := "inflateIfNeededFor", desc := "(Ljava/lang/String;)V" } : Jvm.MethodName) ∈ lw_tbl := mt_3 _ (List.mem_of_getElem? (i := 113) rfl)
theorem mw_594 : Jvm.Cond.code ({ cls := "java/lang/AbstractStringBuilder", name := "inflateIfNeededFor", desc := "(Ljava/lang/String;)V" } : Jvm.MethodName) prog_11_method_71_code (2 : Nat) (Option.none : Option Jvm.ClassFile.FieldType) ∈ lw_tbl := mt_3 _ (List.mem_of_getElem? (i := 114) rfl)
theorem mw_595 : Jvm.Cond.methodLink "java/lang/AbstractStringBuilder" (40 : Nat) ({ cls := "java/lang/String", name := "coder", desc := "()B" } : Jvm.MethodName) ∈ lw_tbl := mt_3 _ (List.mem_of_getElem? (i := 115) rfl)
theorem mw_596 : Jvm.Cond.methodLink "java/lang/AbstractStringBuilder" (195 : Nat) ({ cls := "java/lang/AbstractStringBuilder", name := "inflate", desc := "()V" } : Jvm.MethodName) ∈ lw_tbl := mt_3 _ (List.mem_of_getElem? (i := 116) rfl)
theorem mw_597 : Jvm.Cond.privateMethod ({ cls := "java/lang/AbstractStringBuilder", name := "inflate", desc := "()V" } : Jvm.MethodName) ∈ lw_tbl := mt_3 _ (List.mem_of_getElem? (i := 117) rfl)
theorem mw_598 : Jvm.Cond.instanceMethod ({ cls := "java/lang/AbstractStringBuilder", name := "inflate", desc := "()V" } : Jvm.MethodName) ∈ lw_tbl := mt_3 _ (List.mem_of_getElem? (i := 118) rfl)
theorem mw_599 : Jvm.Cond.code ({ cls := "java/lang/AbstractStringBuilder", name := "inflate", desc := "()V" } : Jvm.MethodName) prog_11_method_11_code (2 : Nat) (Option.none : Option Jvm.ClassFile.FieldType) ∈ lw_tbl := mt_3 _ (List.mem_of_getElem? (i := 119) rfl)
theorem mw_600 : Jvm.Cond.methodLink "java/lang/AbstractStringBuilder" (125 : Nat) ({ cls := "java/lang/StringLatin1", name := "inflate", desc := "([BI[BII)V" } : Jvm.MethodName) ∈ lw_tbl := mt_3 _ (List.mem_of_getElem? (i := 120) rfl)
theorem mw_601 : Jvm.Cond.static ({ cls := "java/lang/StringLatin1", name := "inflate", desc := "([BI[BII)V" } : Jvm.MethodName) ∈ lw_tbl := mt_3 _ (List.mem_of_getElem? (i := 121) rfl)
theorem mw_602 : Jvm.Cond.code ({ cls := "java/lang/StringLatin1", name := "inflate", desc := "([BI[BII)V" } : Jvm.MethodName) prog_24_method_50_code (5 : Nat) (Option.none : Option Jvm.ClassFile.FieldType) ∈ lw_tbl := mt_3 _ (List.mem_of_getElem? (i := 122) rfl)
theorem mw_603 : Jvm.Cond.methodLink "java/lang/StringLatin1" (240 : Nat) ({ cls := "java/lang/StringUTF16", name := "inflate", desc := "([BI[BII)V" } : Jvm.MethodName) ∈ lw_tbl := mt_3 _ (List.mem_of_getElem? (i := 123) rfl)
theorem mw_604 : Jvm.Cond.static ({ cls := "java/lang/StringUTF16", name := "inflate", desc := "([BI[BII)V" } : Jvm.MethodName) ∈ lw_tbl := mt_3 _ (List.mem_of_getElem? (i := 124) rfl)
theorem mw_605 : Jvm.Cond.code ({ cls := "java/lang/StringUTF16", name := "inflate", desc := "([BI[BII)V" } : Jvm.MethodName) prog_25_method_86_code (6 : Nat) (Option.none : Option Jvm.ClassFile.FieldType) ∈ lw_tbl := mt_3 _ (List.mem_of_getElem? (i := 125) rfl)
theorem mw_606 : Jvm.Cond.methodLink "java/lang/StringUTF16" (173 : Nat) ({ cls := "java/lang/StringUTF16", name := "checkBoundsOffCount", desc := "(II[B)V" } : Jvm.MethodName) ∈ lw_tbl := mt_3 _ (List.mem_of_getElem? (i := 126) rfl)
theorem mw_607 : Jvm.Cond.static ({ cls := "java/lang/StringUTF16", name := "checkBoundsOffCount", desc := "(II[B)V" } : Jvm.MethodName) ∈ lw_tbl := mt_3 _ (List.mem_of_getElem? (i := 127) rfl)
theorem mw_608 : Jvm.Cond.code ({ cls := "java/lang/StringUTF16", name := "checkBoundsOffCount", desc := "(II[B)V" } : Jvm.MethodName) prog_25_method_94_code (3 : Nat) (Option.none : Option Jvm.ClassFile.FieldType) ∈ lw_tbl := mt_3 _ (List.mem_of_getElem? (i := 128) rfl)
theorem mw_609 : Jvm.Cond.methodLink "java/lang/StringUTF16" (419 : Nat) ({ cls := "java/lang/String", name := "checkBoundsOffCount", desc := "(III)I" } : Jvm.MethodName) ∈ lw_tbl := mt_3 _ (List.mem_of_getElem? (i := 129) rfl)
theorem mw_610 : Jvm.Cond.static ({ cls := "java/lang/String", name := "checkBoundsOffCount", desc := "(III)I" } : Jvm.MethodName) ∈ lw_tbl := mt_3 _ (List.mem_of_getElem? (i := 130) rfl)
theorem mw_611 : Jvm.Cond.code ({ cls := "java/lang/String", name := "checkBoundsOffCount", desc := "(III)I" } : Jvm.MethodName) prog_22_method_157_code (3 : Nat) (Option.some Jvm.ClassFile.FieldType.int) ∈ lw_tbl := mt_3 _ (List.mem_of_getElem? (i := 131) rfl)
theorem mw_612 : Jvm.Cond.methodLink "java/lang/String" (1065 : Nat) ({ cls := "jdk/internal/util/Preconditions", name := "checkFromIndexSize", desc := "(IIILjava/util/function/BiFunction;)I" } : Jvm.MethodName) ∈ lw_tbl := mt_3 _ (List.mem_of_getElem? (i := 132) rfl)
theorem mw_613 : Jvm.Cond.static ({ cls := "jdk/internal/util/Preconditions", name := "checkFromIndexSize", desc := "(IIILjava/util/function/BiFunction;)I" } : Jvm.MethodName) ∈ lw_tbl := mt_3 _ (List.mem_of_getElem? (i := 133) rfl)
theorem mw_614 : Jvm.Cond.code ({ cls := "jdk/internal/util/Preconditions", name := "checkFromIndexSize", desc := "(IIILjava/util/function/BiFunction;)I" } : Jvm.MethodName) prog_31_method_13_code (4 : Nat) (Option.some Jvm.ClassFile.FieldType.int) ∈ lw_tbl := mt_3 _ (List.mem_of_getElem? (i := 134) rfl)
theorem mw_615 : Jvm.Cond.methodLink "java/lang/AbstractStringBuilder" (399 : Nat) ({ cls := "java/lang/String", name := "getBytes", desc := "([BIB)V" } : Jvm.MethodName) ∈ lw_tbl := mt_3 _ (List.mem_of_getElem? (i := 135) rfl)
theorem mw_616 : Jvm.Cond.instanceMethod ({ cls := "java/lang/String", name := "getBytes", desc := "([BIB)V" } : Jvm.MethodName) ∈ lw_tbl := mt_3 _ (List.mem_of_getElem? (i := 136) rfl)
theorem mw_617 : Jvm.Cond.selects "java/lang/String" ({ cls := "java/lang/String", name := "getBytes", desc := "([BIB)V" } : Jvm.MethodName) ({ cls := "java/lang/String", name := "getBytes", desc := "([BIB)V" } : Jvm.MethodName) ∈ lw_tbl := mt_3 _ (List.mem_of_getElem? (i := 137) rfl)
theorem mw_618 : Jvm.Cond.code ({ cls := "java/lang/String", name := "getBytes", desc := "([BIB)V" } : Jvm.MethodName) prog_22_method_147_code (4 : Nat) (Option.none : Option Jvm.ClassFile.FieldType) ∈ lw_tbl := mt_3 _ (List.mem_of_getElem? (i := 138) rfl)
theorem mw_619 : Jvm.Cond.methodLink "java/lang/String" (212 : Nat) ({ cls := "java/lang/System", name := "arraycopy", desc := "(Ljava/lang/Object;ILjava/lang/Object;II)V" } : Jvm.MethodName) ∈ lw_tbl := mt_3 _ (List.mem_of_getElem? (i := 139) rfl)
theorem mw_620 : Jvm.Cond.methodLink "java/lang/String" (106 : Nat) ({ cls := "java/lang/StringLatin1", name := "inflate", desc := "([BI[BII)V" } : Jvm.MethodName) ∈ lw_tbl := mt_3 _ (List.mem_of_getElem? (i := 140) rfl)
theorem mw_621 : Jvm.Cond.methodLink "java/util/Arrays" (54 : Nat) ({ cls := "java/lang/StringBuilder", name := "append", desc := "(I)Ljava/lang/StringBuilder;" } : Jvm.MethodName) ∈ lw_tbl := mt_3 _ (List.mem_of_getElem? (i := 141) rfl)
theorem mw_622 : Jvm.Cond.instanceMethod ({ cls := "java/lang/StringBuilder", name := "append", desc := "(I)Ljava/lang/StringBuilder;" } : Jvm.MethodName) ∈ lw_tbl := mt_3 _ (List.mem_of_getElem? (i := 142) rfl)
theorem mw_623 : Jvm.Cond.selects "java/lang/StringBuilder" ({ cls := "java/lang/StringBuilder", name := "append", desc := "(I)Ljava/lang/StringBuilder;" } : Jvm.MethodName) ({ cls := "java/lang/StringBuilder", name := "append", desc := "(I)Ljava/lang/StringBuilder;" } : Jvm.MethodName) ∈ lw_tbl := mt_3 _ (List.mem_of_getElem? (i := 143) rfl)
theorem mw_624 : Jvm.Cond.code ({ cls := "java/lang/StringBuilder", name := "append", desc := "(I)Ljava/lang/StringBuilder;" } : Jvm.MethodName) prog_23_method_15_code (2 : Nat) (Option.some (Jvm.ClassFile.FieldType.object "java/lang/StringBuilder")) ∈ lw_tbl := mt_3 _ (List.mem_of_getElem? (i := 144) rfl)
theorem mw_625 : Jvm.Cond.methodLink "java/lang/StringBuilder" (53 : Nat) ({ cls := "java/lang/AbstractStringBuilder", name := "append", desc := "(I)Ljava/lang/AbstractStringBuilder;" } : Jvm.MethodName) ∈ lw_tbl := mt_3 _ (List.mem_of_getElem? (i := 145) rfl)
theorem mw_626 : Jvm.Cond.instanceMethod ({ cls := "java/lang/AbstractStringBuilder", name := "append", desc := "(I)Ljava/lang/AbstractStringBuilder;" } : Jvm.MethodName) ∈ lw_tbl := mt_3 _ (List.mem_of_getElem? (i := 146) rfl)
theorem mw_627 : Jvm.Cond.code ({ cls := "java/lang/AbstractStringBuilder", name := "append", desc := "(I)Ljava/lang/AbstractStringBuilder;" } : Jvm.MethodName) prog_11_method_32_code (4 : Nat) (Option.some (Jvm.ClassFile.FieldType.object "java/lang/AbstractStringBuilder")) ∈ lw_tbl := mt_3 _ (List.mem_of_getElem? (i := 147) rfl)
theorem mw_628 : Jvm.Cond.methodLink "java/lang/AbstractStringBuilder" (245 : Nat) ({ cls := "java/lang/Integer", name := "stringSize", desc := "(I)I" } : Jvm.MethodName) ∈ lw_tbl := mt_3 _ (List.mem_of_getElem? (i := 148) rfl)
theorem mw_629 : Jvm.Cond.static ({ cls := "java/lang/Integer", name := "stringSize", desc := "(I)I" } : Jvm.MethodName) ∈ lw_tbl := mt_3 _ (List.mem_of_getElem? (i := 149) rfl)
theorem mw_630 : Jvm.Cond.code ({ cls := "java/lang/Integer", name := "stringSize", desc := "(I)I" } : Jvm.MethodName) prog_18_method_13_code (4 : Nat) (Option.some Jvm.ClassFile.FieldType.int) ∈ lw_tbl := mt_3 _ (List.mem_of_getElem? (i := 150) rfl)
theorem mw_631 : Jvm.Cond.methodLink "java/lang/AbstractStringBuilder" (248 : Nat) ({ cls := "java/lang/Integer", name := "getChars", desc := "(II[B)I" } : Jvm.MethodName) ∈ lw_tbl := mt_3 _ (List.mem_of_getElem? (i := 151) rfl)
theorem mw_632 : Jvm.Cond.static ({ cls := "java/lang/Integer", name := "getChars", desc := "(II[B)I" } : Jvm.MethodName) ∈ lw_tbl := mt_3 _ (List.mem_of_getElem? (i := 152) rfl)
theorem mw_633 : Jvm.Cond.code ({ cls := "java/lang/Integer", name := "getChars", desc := "(II[B)I" } : Jvm.MethodName) prog_18_method_12_code (7 : Nat) (Option.some Jvm.ClassFile.FieldType.int) ∈ lw_tbl := mt_3 _ (List.mem_of_getElem? (i := 153) rfl)
theorem mw_634 : Jvm.Cond.fieldLink "java/lang/Integer" (83 : Nat) "java/lang/Integer" "DigitOnes" "[B" ∈ lw_tbl := mt_3 _ (List.mem_of_getElem? (i := 154) rfl)
theorem mw_635 : Jvm.Cond.laysStatic "java/lang/Integer" "DigitOnes" "[B" ∈ lw_tbl := mt_3 _ (List.mem_of_getElem? (i := 155) rfl)
theorem mw_636 : Jvm.Cond.fieldLink "java/lang/Integer" (87 : Nat) "java/lang/Integer" "DigitTens" "[B" ∈ lw_tbl := mt_3 _ (List.mem_of_getElem? (i := 156) rfl)
theorem mw_637 : Jvm.Cond.laysStatic "java/lang/Integer" "DigitTens" "[B" ∈ lw_tbl := mt_3 _ (List.mem_of_getElem? (i := 157) rfl)
theorem mw_638 : Jvm.Cond.methodLink "java/lang/AbstractStringBuilder" (251 : Nat) ({ cls := "java/lang/StringUTF16", name := "getChars", desc := "(III[B)I" } : Jvm.MethodName) ∈ lw_tbl := mt_3 _ (List.mem_of_getElem? (i := 158) rfl)
theorem mw_639 : Jvm.Cond.static ({ cls := "java/lang/StringUTF16", name := "getChars", desc := "(III[B)I" } : Jvm.MethodName) ∈ lw_tbl := mt_3 _ (List.mem_of_getElem? (i := 159) rfl)
theorem mw_640 : Jvm.Cond.code ({ cls := "java/lang/StringUTF16", name := "getChars", desc := "(III[B)I" } : Jvm.MethodName) prog_25_method_77_code (5 : Nat) (Option.some Jvm.ClassFile.FieldType.int) ∈ lw_tbl := mt_3 _ (List.mem_of_getElem? (i := 160) rfl)
theorem mw_641 : Jvm.Cond.methodLink "java/lang/StringUTF16" (393 : Nat) ({ cls := "java/lang/StringUTF16", name := "getChars", desc := "(II[B)I" } : Jvm.MethodName) ∈ lw_tbl := mt_3 _ (List.mem_of_getElem? (i := 161) rfl)
theorem mw_642 : Jvm.Cond.static ({ cls := "java/lang/StringUTF16", name := "getChars", desc := "(II[B)I" } : Jvm.MethodName) ∈ lw_tbl := mt_3 _ (List.mem_of_getElem? (i := 162) rfl)
theorem mw_643 : Jvm.Cond.code ({ cls := "java/lang/StringUTF16", name := "getChars", desc := "(II[B)I" } : Jvm.MethodName) prog_25_method_89_code (7 : Nat) (Option.some Jvm.ClassFile.FieldType.int) ∈ lw_tbl := mt_3 _ (List.mem_of_getElem? (i := 163) rfl)
theorem mw_644 : Jvm.Cond.fieldLink "java/lang/StringUTF16" (403 : Nat) "java/lang/Integer" "DigitOnes" "[B" ∈ lw_tbl := mt_3 _ (List.mem_of_getElem? (i := 164) rfl)
theorem mw_645 : Jvm.Cond.fieldLink "java/lang/StringUTF16" (407 : Nat) "java/lang/Integer" "DigitTens" "[B" ∈ lw_tbl := mt_3 _ (List.mem_of_getElem? (i := 165) rfl)
theorem mw_646 : Jvm.Cond.stringRef "java/util/Arrays" (57 : Nat) ") > toIndex(" ∈ lw_tbl := mt_3 _ (List.mem_of_getElem? (i := 166) rfl)
theorem mw_647 : Jvm.Cond.stringRef "java/util/Arrays" (59 : Nat) ")" ∈ lw_tbl := mt_3 _ (List.mem_of_getElem? (i := 167) rfl)
theorem mw_648 : Jvm.Cond.methodLink "java/util/Arrays" (61 : Nat) ({ cls := "java/lang/StringBuilder", name := "toString", desc := "()Ljava/lang/String;" } : Jvm.MethodName) ∈ lw_tbl := mt_3 _ (List.mem_of_getElem? (i := 168) rfl)
theorem mw_649 : Jvm.Cond.instanceMethod ({ cls := "java/lang/StringBuilder", name := "toString", desc := "()Ljava/lang/String;" } : Jvm.MethodName) ∈ lw_tbl := mt_3 _ (List.mem_of_getElem? (i := 169) rfl)
theorem mw_650 : Jvm.Cond.selects "java/lang/StringBuilder" ({ cls := "java/lang/StringBuilder", name := "toString", desc := "()Ljava/lang/String;" } : Jvm.MethodName) ({ cls := "java/lang/StringBuilder", name := "toString", desc := "()Ljava/lang/String;" } : Jvm.MethodName) ∈ lw_tbl := mt_3 _ (List.mem_of_getElem? (i := 170) rfl)
theorem mw_651 : Jvm.Cond.code ({ cls := "java/lang/StringBuilder", name := "toString", desc := "()Ljava/lang/String;" } : Jvm.MethodName) prog_23_method_42_code (1 : Nat) (Option.some (Jvm.ClassFile.FieldType.object "java/lang/String")) ∈ lw_tbl := mt_3 _ (List.mem_of_getElem? (i := 171) rfl)
theorem mw_652 : Jvm.Cond.classLink "java/lang/StringBuilder" (18 : Nat) "java/lang/String" ∈ lw_tbl := mt_3 _ (List.mem_of_getElem? (i := 172) rfl)
theorem mw_653 : Jvm.Cond.instantiable "java/lang/String" (4 : Nat) ∈ lw_tbl := mt_3 _ (List.mem_of_getElem? (i := 173) rfl)
theorem mw_654 : Jvm.Cond.methodLink "java/lang/StringBuilder" (137 : Nat) ({ cls := "java/lang/String", name := "<init>", desc := "(Ljava/lang/StringBuilder;)V" } : Jvm.MethodName) ∈ lw_tbl := mt_3 _ (List.mem_of_getElem? (i := 174) rfl)
theorem mw_655 : Jvm.Cond.instanceMethod ({ cls := "java/lang/String", name := "<init>", desc := "(Ljava/lang/StringBuilder;)V" } : Jvm.MethodName) ∈ lw_tbl := mt_3 _ (List.mem_of_getElem? (i := 175) rfl)
theorem mw_656 : Jvm.Cond.code ({ cls := "java/lang/String", name := "<init>", desc := "(Ljava/lang/StringBuilder;)V" } : Jvm.MethodName) prog_22_method_53_code (2 : Nat) (Option.none : Option Jvm.ClassFile.FieldType) ∈ lw_tbl := mt_3 _ (List.mem_of_getElem? (i := 176) rfl)
theorem mw_657 : Jvm.Cond.methodLink "java/lang/String" (489 : Nat) ({ cls := "java/lang/String", name := "<init>", desc := "(Ljava/lang/AbstractStringBuilder;Ljava/lang/Void;)V" } : Jvm.MethodName) ∈ lw_tbl := mt_3 _ (List.mem_of_getElem? (i := 177) rfl)
theorem mw_658 : Jvm.Cond.instanceMethod ({ cls := "java/lang/String", name := "<init>", desc := "(Ljava/lang/AbstractStringBuilder;Ljava/lang/Void;)V" } : Jvm.MethodName) ∈ lw_tbl := mt_3 _ (List.mem_of_getElem? (i := 178) rfl)
theorem mw_659 : Jvm.Cond.code ({ cls := "java/lang/String", name := "<init>", desc := "(Ljava/lang/AbstractStringBuilder;Ljava/lang/Void;)V" } : Jvm.MethodName) prog_22_method_150_code (5 : Nat) (Option.none : Option Jvm.ClassFile.FieldType) ∈ lw_tbl := mt_3 _ (List.mem_of_getElem? (i := 179) rfl)
theorem mw_660 : Jvm.Cond.methodLink "java/lang/String" (1 : Nat) ({ cls := "java/lang/Object", name := "<init>", desc := "()V" } : Jvm.MethodName) ∈ lw_tbl := mt_3 _ (List.mem_of_getElem? (i := 180) rfl)
theorem mw_661 : Jvm.Cond.methodLink "java/lang/String" (552 : Nat) ({ cls := "java/lang/AbstractStringBuilder", name := "getValue", desc := "()[B" } : Jvm.MethodName) ∈ lw_tbl := mt_3 _ (List.mem_of_getElem? (i := 181) rfl)
theorem mw_662 : Jvm.Cond.instanceMethod ({ cls := "java/lang/AbstractStringBuilder", name := "getValue", desc := "()[B" } : Jvm.MethodName) ∈ lw_tbl := mt_3 _ (List.mem_of_getElem? (i := 182) rfl)
theorem mw_663 : Jvm.Cond.sameMethod "java/lang/AbstractStringBuilder" "java/lang/AbstractStringBuilder" "getValue" "()[B" ∈ lw_tbl := mt_3 _ (List.mem_of_getElem? (i := 183) rfl)
theorem mw_664 : Jvm.Cond.selects "java/lang/StringBuilder" ({ cls := "java/lang/AbstractStringBuilder", name := "getValue", desc := "()[B" } : Jvm.MethodName) ({ cls := "java/lang/AbstractStringBuilder", name := "getValue", desc := "()[B" } : Jvm.MethodName) ∈ lw_tbl := mt_3 _ (List.mem_of_getElem? (i := 184) rfl)
theorem mw_665 : Jvm.Cond.code ({ cls := "java/lang/AbstractStringBuilder", name := "getValue", desc := "()[B" } : Jvm.MethodName) prog_11_method_64_code (1 : Nat) (Option.some (Jvm.ClassFile.FieldType.array Jvm.ClassFile.FieldType.byte)) ∈ lw_tbl := mt_3 _ (List.mem_of_getElem? (i := 185) rfl)
theorem mw_666 : Jvm.Cond.methodLink "java/lang/String" (549 : Nat) ({ cls := "java/lang/AbstractStringBuilder", name := "length", desc := "()I" } : Jvm.MethodName) ∈ lw_tbl := mt_3 _ (List.mem_of_getElem? (i := 186) rfl)
theorem mw_667 : Jvm.Cond.instanceMethod ({ cls := "java/lang/AbstractStringBuilder", name := "length", desc := "()I" } : Jvm.MethodName) ∈ lw_tbl := mt_3 _ (List.mem_of_getElem? (i := 187) rfl)
theorem mw_668 : Jvm.Cond.sameMethod "java/lang/AbstractStringBuilder" "java/lang/AbstractStringBuilder" "length" "()I" ∈ lw_tbl := mt_3 _ (List.mem_of_getElem? (i := 188) rfl)
theorem mw_669 : Jvm.Cond.selects "java/lang/StringBuilder" ({ cls := "java/lang/AbstractStringBuilder", name := "length", desc := "()I" } : Jvm.MethodName) ({ cls := "java/lang/StringBuilder", name := "length", desc := "()I" } : Jvm.MethodName) ∈ lw_tbl := mt_3 _ (List.mem_of_getElem? (i := 189) rfl)
theorem mw_670 : Jvm.Cond.instanceMethod ({ cls := "java/lang/StringBuilder", name := "length", desc := "()I" } : Jvm.MethodName) ∈ lw_tbl := mt_3 _ (List.mem_of_getElem? (i := 190) rfl)
theorem mw_671 : Jvm.Cond.code ({ cls := "java/lang/StringBuilder", name := "length", desc := "()I" } : Jvm.MethodName) prog_23_method_93_code (1 : Nat) (Option.some Jvm.ClassFile.FieldType.int) ∈ lw_tbl := mt_3 _ (List.mem_of_getElem? (i := 191) rfl)
theorem mw_672 : Jvm.Cond.methodLink "java/lang/StringBuilder" (343 : Nat) ({ cls := "java/lang/AbstractStringBuilder", name := "length", desc := "()I" } : Jvm.MethodName) ∈ lw_tbl := mt_3 _ (List.mem_of_getElem? (i := 192) rfl)
theorem mw_673 : Jvm.Cond.code ({ cls := "java/lang/AbstractStringBuilder", name := "length", desc := "()I" } : Jvm.MethodName) prog_11_method_6_code (1 : Nat) (Option.some Jvm.ClassFile.FieldType.int) ∈ lw_tbl := mt_3 _ (List.mem_of_getElem? (i := 193) rfl)
theorem mw_674 : Jvm.Cond.methodLink "java/lang/String" (1047 : Nat) ({ cls := "java/lang/AbstractStringBuilder", name := "isLatin1", desc := "()Z" } : Jvm.MethodName) ∈ lw_tbl := mt_3 _ (List.mem_of_getElem? (i := 194) rfl)
theorem mw_675 : Jvm.Cond.methodLink "java/lang/String" (54 : Nat) ({ cls := "java/util/Arrays", name := "copyOfRange", desc := "([BII)[B" } : Jvm.MethodName) ∈ lw_tbl := mt_3 _ (List.mem_of_getElem? (i := 195) rfl)
theorem mw_676 : Jvm.Cond.static ({ cls := "java/util/Arrays", name := "copyOfRange", desc := "([BII)[B" } : Jvm.MethodName) ∈ lw_tbl := mt_3 _ (List.mem_of_getElem? (i := 196) rfl)
theorem mw_677 : Jvm.Cond.code ({ cls := "java/util/Arrays", name := "copyOfRange", desc := "([BII)[B" } : Jvm.MethodName) prog_29_method_132_code (3 : Nat) (Option.some (Jvm.ClassFile.FieldType.array Jvm.ClassFile.FieldType.byte)) ∈ lw_tbl := mt_3 _ (List.mem_of_getElem? (i := 197) rfl)
theorem mw_678 : Jvm.Cond.methodLink "java/util/Arrays" (339 : Nat) ({ cls := "java/util/Arrays", name := "copyOfRangeByte", desc := "([BII)[B" } : Jvm.MethodName) ∈ lw_tbl := mt_3 _ (List.mem_of_getElem? (i := 198) rfl)
theorem mw_679 : Jvm.Cond.static ({ cls := "java/util/Arrays", name := "copyOfRangeByte", desc := "([BII)[B" } : Jvm.MethodName) ∈ lw_tbl := mt_3 _ (List.mem_of_getElem? (i := 199) rfl)
theorem mw_680 : Jvm.Cond.code ({ cls := "java/util/Arrays", name := "copyOfRangeByte", desc := "([BII)[B" } : Jvm.MethodName) prog_29_method_133_code (5 : Nat) (Option.some (Jvm.ClassFile.FieldType.array Jvm.ClassFile.FieldType.byte)) ∈ lw_tbl := mt_3 _ (List.mem_of_getElem? (i := 200) rfl)
theorem mw_681 : Jvm.Cond.methodLink "java/util/Arrays" (343 : Nat) ({ cls := "java/util/Arrays", name := "checkLength", desc := "(II)V" } : Jvm.MethodName) ∈ lw_tbl := mt_3 _ (List.mem_of_getElem? (i := 201) rfl)
theorem mw_682 : Jvm.Cond.static ({ cls := "java/util/Arrays", name := "checkLength", desc := "(II)V" } : Jvm.MethodName) ∈ lw_tbl := mt_3 _ (List.mem_of_getElem? (i := 202) rfl)
theorem mw_683 : Jvm.Cond.code ({ cls := "java/util/Arrays", name := "checkLength", desc := "(II)V" } : Jvm.MethodName) prog_29_method_131_code (2 : Nat) (Option.none : Option Jvm.ClassFile.FieldType) ∈ lw_tbl := mt_3 _ (List.mem_of_getElem? (i := 203) rfl)
theorem mw_684 : Jvm.Cond.stringRef "java/util/Arrays" (337 : Nat) " > " ∈ lw_tbl := mt_3 _ (List.mem_of_getElem? (i := 204) rfl)
theorem mw_685 : Jvm.Cond.methodLink "java/util/Arrays" (65 : Nat) ({ cls := "java/lang/IllegalArgumentException", name := "<init>", desc := "(Ljava/lang/String;)V" } : Jvm.MethodName) ∈ lw_tbl := mt_3 _ (List.mem_of_getElem? (i := 205) rfl)
theorem mw_686 : Jvm.Cond.instanceMethod ({ cls := "java/lang/IllegalArgumentException", name := "<init>", desc := "(Ljava/lang/String;)V" } : Jvm.MethodName) ∈ lw_tbl := mt_3 _ (List.mem_of_getElem? (i := 206) rfl)
theorem mw_687 : Jvm.Cond.code ({ cls := "java/lang/IllegalArgumentException", name := "<init>", desc := "(Ljava/lang/String;)V" } : Jvm.MethodName) prog_16_method_2_code (2 : Nat) (Option.none : Option Jvm.ClassFile.FieldType) ∈ lw_tbl := mt_3 _ (List.mem_of_getElem? (i := 207) rfl)
theorem mw_688 : Jvm.Cond.methodLink "java/lang/IllegalArgumentException" (7 : Nat) ({ cls := "java/lang/RuntimeException", name := "<init>", desc := "(Ljava/lang/String;)V" } : Jvm.MethodName) ∈ lw_tbl := mt_3 _ (List.mem_of_getElem? (i := 208) rfl)
theorem mw_689 : Jvm.Cond.lays "java/lang/IllegalArgumentException" "java/lang/Throwable" "depth" "I" ∈ lw_tbl := mt_3 _ (List.mem_of_getElem? (i := 209) rfl)
theorem mw_690 : Jvm.Cond.superclass "java/lang/IllegalArgumentException" "java/lang/RuntimeException" ∈ lw_tbl := mt_3 _ (List.mem_of_getElem? (i := 210) rfl)
theorem mw_691 : Jvm.Cond.methodLink "java/lang/String" (1051 : Nat) ({ cls := "java/lang/StringUTF16", name := "compress", desc := "([BII)[B" } : Jvm.MethodName) ∈ lw_tbl := mt_3 _ (List.mem_of_getElem? (i := 211) rfl)
theorem mw_692 : Jvm.Cond.static ({ cls := "java/lang/StringUTF16", name := "compress", desc := "([BII)[B" } : Jvm.MethodName) ∈ lw_tbl := mt_3 _ (List.mem_of_getElem? (i := 212) rfl)
theorem mw_693 : Jvm.Cond.code ({ cls := "java/lang/StringUTF16", name := "compress", desc := "([BII)[B" } : Jvm.MethodName) prog_25_method_17_code (6 : Nat) (Option.some (Jvm.ClassFile.FieldType.array Jvm.ClassFile.FieldType.byte)) ∈ lw_tbl := mt_3 _ (List.mem_of_getElem? (i := 213) rfl)
theorem mw_694 : Jvm.Cond.methodLink "java/lang/StringUTF16" (123 : Nat) ({ cls := "java/lang/StringUTF16", name := "compress", desc := "([BI[BII)I" } : Jvm.MethodName) ∈ lw_tbl := mt_3 _ (List.mem_of_getElem? (i := 214) rfl)
theorem mw_695 : Jvm.Cond.static ({ cls := "java/lang/StringUTF16", name := "compress", desc := "([BI[BII)I" } : Jvm.MethodName) ∈ lw_tbl := mt_3 _ (List.mem_of_getElem? (i := 215) rfl)
theorem mw_696 : Jvm.Cond.code ({ cls := "java/lang/StringUTF16", name := "compress", desc := "([BI[BII)I" } : Jvm.MethodName) prog_25_method_22_code (7 : Nat) (Option.some Jvm.ClassFile.FieldType.int) ∈ lw_tbl := mt_3 _ (List.mem_of_getElem? (i := 216) rfl)
theorem mw_697 : Jvm.Cond.methodLink "java/lang/StringUTF16" (71 : Nat) ({ cls := "java/lang/StringUTF16", name := "getChar", desc := "([BI)C" } : Jvm.MethodName) ∈ lw_tbl := mt_3 _ (List.mem_of_getElem? (i := 217) rfl)
theorem mw_698 : Jvm.Cond.static ({ cls := "java/lang/StringUTF16", name := "getChar", desc := "([BI)C" } : Jvm.MethodName) ∈ lw_tbl := mt_3 _ (List.mem_of_getElem? (i := 218) rfl)
theorem mw_699 : Jvm.Cond.code ({ cls := "java/lang/StringUTF16", name := "getChar", desc := "([BI)C" } : Jvm.MethodName) prog_25_method_5_code (2 : Nat) (Option.some Jvm.ClassFile.FieldType.char) ∈ lw_tbl := mt_3 _ (List.mem_of_getElem? (i := 219) rfl)
theorem mw_700 : Jvm.Cond.methodLink "java/lang/StringUTF16" (126 : Nat) ({ cls := "java/util/Arrays", name := "copyOfRange", desc := "([BII)[B" } : Jvm.MethodName) ∈ lw_tbl := mt_3 _ (List.mem_of_getElem? (i := 220) rfl)
theorem mw_701 : Jvm.Cond.methodLink "java/lang/String" (47 : Nat) ({ cls := "java/lang/StringUTF16", name := "coderFromArrayLen", desc := "([BI)B" } : Jvm.MethodName) ∈ lw_tbl := mt_3 _ (List.mem_of_getElem? (i := 221) rfl)
theorem mw_702 : Jvm.Cond.static ({ cls := "java/lang/StringUTF16", name := "coderFromArrayLen", desc := "([BI)B" } : Jvm.MethodName) ∈ lw_tbl := mt_3 _ (List.mem_of_getElem? (i := 222) rfl)
theorem mw_703 : Jvm.Cond.code ({ cls := "java/lang/StringUTF16", name := "coderFromArrayLen", desc := "([BI)B" } : Jvm.MethodName) prog_25_method_15_code (2 : Nat) (Option.some Jvm.ClassFile.FieldType.byte) ∈ lw_tbl := mt_3 _ (List.mem_of_getElem? (i := 223) rfl)
theorem mw_704 : Jvm.Cond.fieldLink "java/lang/String" (9 : Nat) "java/lang/String" "value" "[B" ∈ lw_tbl := mt_3 _ (List.mem_of_getElem? (i := 224) rfl)
theorem mw_705 : Jvm.Cond.fieldLink "java/lang/String" (15 : Nat) "java/lang/String" "coder" "B" ∈ lw_tbl := mt_3 _ (List.mem_of_getElem? (i := 225) rfl)
theorem mw_706 : Jvm.Cond.laysFinal "java/lang/String" "java/lang/String" "value" "[B" ∈ lw_tbl := mt_3 _ (List.mem_of_getElem? (i := 226) rfl)
theorem mw_707 : Jvm.Cond.soleField "java/lang/String" "value" ∈ lw_tbl := mt_3 _ (List.mem_of_getElem? (i := 227) rfl)
theorem mw_708 : Jvm.Cond.laysFinal "java/lang/String" "java/lang/String" "coder" "B" ∈ lw_tbl := mt_3 _ (List.mem_of_getElem? (i := 228) rfl)
theorem mw_709 : Jvm.Cond.soleField "java/lang/String" "coder" ∈ lw_tbl := mt_3 _ (List.mem_of_getElem? (i := 229) rfl)
theorem mw_710 : Jvm.Cond.lays "java/lang/String" "java/lang/String" "hash" "I" ∈ lw_tbl := mt_3 _ (List.mem_of_getElem? (i := 230) rfl)
theorem mw_711 : Jvm.Cond.soleField "java/lang/String" "hash" ∈ lw_tbl := mt_3 _ (List.mem_of_getElem? (i := 231) rfl)
theorem mw_712 : Jvm.Cond.lays "java/lang/String" "java/lang/String" "hashIsZero" "Z" ∈ lw_tbl := mt_3 _ (List.mem_of_getElem? (i := 232) rfl)
theorem mw_713 : Jvm.Cond.soleField "java/lang/String" "hashIsZero" ∈ lw_tbl := mt_3 _ (List.mem_of_getElem? (i := 233) rfl)
theorem mw_714 : Jvm.Cond.superclass "java/lang/String" "java/lang/Object" ∈ lw_tbl := mt_3 _ (List.mem_of_getElem? (i := 234) rfl)
theorem mw_715 : Jvm.Cond.classLink "java/util/Arrays" (68 : Nat) "java/lang/ArrayIndexOutOfBoundsException" ∈ lw_tbl := mt_3 _ (List.mem_of_getElem? (i := 235) rfl)
theorem mw_716 : Jvm.Cond.instantiable "java/lang/ArrayIndexOutOfBoundsException" (6 : Nat) ∈ lw_tbl := mt_3 _ (List.mem_of_getElem? (i := 236) rfl)
theorem mw_717 : Jvm.Cond.methodLink "java/util/Arrays" (70 : Nat) ({ cls := "java/lang/ArrayIndexOutOfBoundsException", name := "<init>", desc := "(I)V" } : Jvm.MethodName) ∈ lw_tbl := mt_3 _ (List.mem_of_getElem? (i := 237) rfl)
theorem mw_718 : Jvm.Cond.instanceMethod ({ cls := "java/lang/ArrayIndexOutOfBoundsException", name := "<init>", desc := "(I)V" } : Jvm.MethodName) ∈ lw_tbl := mt_3 _ (List.mem_of_getElem? (i := 238) rfl)
theorem mw_719 : Jvm.Cond.code ({ cls := "java/lang/ArrayIndexOutOfBoundsException", name := "<init>", desc := "(I)V" } : Jvm.MethodName) prog_13_method_3_code (2 : Nat) (Option.none : Option Jvm.ClassFile.FieldType) ∈ lw_tbl := mt_3 _ (List.mem_of_getElem? (i := 239) rfl)
theorem mw_720 : Jvm.Cond.classLink "java/lang/ArrayIndexOutOfBoundsException" (10 : Nat) "java/lang/StringBuilder" ∈ lw_tbl := mt_4 _ (List.mem_of_getElem? (i := 0) rfl)
theorem mw_721 : Jvm.Cond.methodLink "java/lang/ArrayIndexOutOfBoundsException" (12 : Nat) ({ cls := "java/lang/StringBuilder", name := "<init>", desc := "()V" } : Jvm.MethodName) ∈ lw_tbl := mt_4 _ (List.mem_of_getElem? (i := 1) rfl)
theorem mw_722 : Jvm.Cond.stringRef "java/lang/ArrayIndexOutOfBoundsException" (13 : Nat) "Array index out of range: " ∈ lw_tbl := mt_4 _ (List.mem_of_getElem? (i := 2) rfl)
theorem mw_723 : Jvm.Cond.methodLink "java/lang/ArrayIndexOutOfBoundsException" (15 : Nat) ({ cls := "java/lang/StringBuilder", name := "append", desc := "(Ljava/lang/String;)Ljava/lang/StringBuilder;" } : Jvm.MethodName) ∈ lw_tbl := mt_4 _ (List.mem_of_getElem? (i := 3) rfl)
theorem mw_724 : Jvm.Cond.methodLink "java/lang/ArrayIndexOutOfBoundsException" (19 : Nat) ({ cls := "java/lang/StringBuilder", name := "append", desc := "(I)Ljava/lang/StringBuilder;" } : Jvm.MethodName) ∈ lw_tbl := mt_4 _ (List.mem_of_getElem? (i := 4) rfl)
theorem mw_725 : Jvm.Cond.methodLink "java/lang/ArrayIndexOutOfBoundsException" (22 : Nat) ({ cls := "java/lang/StringBuilder", name := "toString", desc := "()Ljava/lang/String;" } : Jvm.MethodName) ∈ lw_tbl := mt_4 _ (List.mem_of_getElem? (i := 5) rfl)
theorem mw_726 : Jvm.Cond.methodLink "java/lang/ArrayIndexOutOfBoundsException" (7 : Nat) ({ cls := "java/lang/IndexOutOfBoundsException", name := "<init>", desc := "(Ljava/lang/String;)V" } : Jvm.MethodName) ∈ lw_tbl := mt_4 _ (List.mem_of_getElem? (i := 6) rfl)
theorem mw_727 : Jvm.Cond.lays "java/lang/ArrayIndexOutOfBoundsException" "java/lang/Throwable" "backtrace" "Ljava/lang/Object;" ∈ lw_tbl := mt_4 _ (List.mem_of_getElem? (i := 7) rfl)
theorem mw_728 : Jvm.Cond.lays "java/lang/ArrayIndexOutOfBoundsException" "java/lang/Throwable" "detailMessage" "Ljava/lang/String;" ∈ lw_tbl := mt_4 _ (List.mem_of_getElem? (i := 8) rfl)
theorem mw_729 : Jvm.Cond.lays "java/lang/ArrayIndexOutOfBoundsException" "java/lang/Throwable" "cause" "Ljava/lang/Throwable;" ∈ lw_tbl := mt_4 _ (List.mem_of_getElem? (i := 9) rfl)
theorem mw_730 : Jvm.Cond.lays "java/lang/ArrayIndexOutOfBoundsException" "java/lang/Throwable" "stackTrace" "[Ljava/lang/StackTraceElement;" ∈ lw_tbl := mt_4 _ (List.mem_of_getElem? (i := 10) rfl)
theorem mw_731 : Jvm.Cond.lays "java/lang/ArrayIndexOutOfBoundsException" "java/lang/Throwable" "depth" "I" ∈ lw_tbl := mt_4 _ (List.mem_of_getElem? (i := 11) rfl)
theorem mw_732 : Jvm.Cond.lays "java/lang/ArrayIndexOutOfBoundsException" "java/lang/Throwable" "suppressedExceptions" "Ljava/util/List;" ∈ lw_tbl := mt_4 _ (List.mem_of_getElem? (i := 12) rfl)
theorem mw_733 : Jvm.Cond.superclass "java/lang/ArrayIndexOutOfBoundsException" "java/lang/IndexOutOfBoundsException" ∈ lw_tbl := mt_4 _ (List.mem_of_getElem? (i := 13) rfl)
theorem mw_734 : Jvm.Cond.constantLong "FractionPool$CommonDivisor" (89 : Nat) (4294967295 : Int64) ∈ lw_tbl := mt_4 _ (List.mem_of_getElem? (i := 14) rfl)
theorem mw_735 : Jvm.Cond.methodLinkNest "FractionPool$CommonDivisor" (91 : Nat) ({ cls := "FractionPool$Whole", name := "trim", desc := "()V" } : Jvm.MethodName) "FractionPool" ∈ lw_tbl := mt_4 _ (List.mem_of_getElem? (i := 15) rfl)
theorem mw_736 : Jvm.Cond.methodLink "FractionPool$CommonDivisor" (49 : Nat) ({ cls := "FractionPool$Whole", name := "divideBy", desc := "(LFractionPool$Whole;LFractionPool$Whole;)V" } : Jvm.MethodName) ∈ lw_tbl := mt_4 _ (List.mem_of_getElem? (i := 16) rfl)
theorem mw_737 : Jvm.Cond.instanceMethod ({ cls := "FractionPool$Whole", name := "divideBy", desc := "(LFractionPool$Whole;LFractionPool$Whole;)V" } : Jvm.MethodName) ∈ lw_tbl := mt_4 _ (List.mem_of_getElem? (i := 17) rfl)
theorem mw_738 : Jvm.Cond.selects "FractionPool$Whole" ({ cls := "FractionPool$Whole", name := "divideBy", desc := "(LFractionPool$Whole;LFractionPool$Whole;)V" } : Jvm.MethodName) ({ cls := "FractionPool$Whole", name := "divideBy", desc := "(LFractionPool$Whole;LFractionPool$Whole;)V" } : Jvm.MethodName) ∈ lw_tbl := mt_4 _ (List.mem_of_getElem? (i := 18) rfl)
theorem mw_739 : Jvm.Cond.code ({ cls := "FractionPool$Whole", name := "divideBy", desc := "(LFractionPool$Whole;LFractionPool$Whole;)V" } : Jvm.MethodName) prog_8_method_23_code (8 : Nat) (Option.none : Option Jvm.ClassFile.FieldType) ∈ lw_tbl := mt_4 _ (List.mem_of_getElem? (i := 19) rfl)
theorem mw_740 : Jvm.Cond.methodLink "FractionPool$Whole" (74 : Nat) ({ cls := "FractionPool$Whole", name := "against", desc := "(LFractionPool$Whole;)I" } : Jvm.MethodName) ∈ lw_tbl := mt_4 _ (List.mem_of_getElem? (i := 20) rfl)
theorem mw_741 : Jvm.Cond.methodLink "FractionPool$Whole" (78 : Nat) ({ cls := "FractionPool$Whole", name := "become", desc := "(LFractionPool$Whole;)V" } : Jvm.MethodName) ∈ lw_tbl := mt_4 _ (List.mem_of_getElem? (i := 21) rfl)
theorem mw_742 : Jvm.Cond.methodLink "FractionPool$Whole" (82 : Nat) ({ cls := "FractionPool$Whole", name := "divideByLimb", desc := "(J)J" } : Jvm.MethodName) ∈ lw_tbl := mt_4 _ (List.mem_of_getElem? (i := 22) rfl)
theorem mw_743 : Jvm.Cond.instanceMethod ({ cls := "FractionPool$Whole", name := "divideByLimb", desc := "(J)J" } : Jvm.MethodName) ∈ lw_tbl := mt_4 _ (List.mem_of_getElem? (i := 23) rfl)
theorem mw_744 : Jvm.Cond.selects "FractionPool$Whole" ({ cls := "FractionPool$Whole", name := "divideByLimb", desc := "(J)J" } : Jvm.MethodName) ({ cls := "FractionPool$Whole", name := "divideByLimb", desc := "(J)J" } : Jvm.MethodName) ∈ lw_tbl := mt_4 _ (List.mem_of_getElem? (i := 24) rfl)
theorem mw_745 : Jvm.Cond.code ({ cls := "FractionPool$Whole", name := "divideByLimb", desc := "(J)J" } : Jvm.MethodName) prog_8_method_22_code (10 : Nat) (Option.some Jvm.ClassFile.FieldType.long) ∈ lw_tbl := mt_4 _ (List.mem_of_getElem? (i := 25) rfl)
theorem mw_746 : Jvm.Cond.methodLink "FractionPool$Whole" (70 : Nat) ({ cls := "FractionPool$Whole", name := "quotientOf", desc := "(JJ)J" } : Jvm.MethodName) ∈ lw_tbl := mt_4 _ (List.mem_of_getElem? (i := 26) rfl)
theorem mw_747 : Jvm.Cond.static ({ cls := "FractionPool$Whole", name := "quotientOf", desc := "(JJ)J" } : Jvm.MethodName) ∈ lw_tbl := mt_4 _ (List.mem_of_getElem? (i := 27) rfl)
theorem mw_748 : Jvm.Cond.code ({ cls := "FractionPool$Whole", name := "quotientOf", desc := "(JJ)J" } : Jvm.MethodName) prog_8_method_27_code (6 : Nat) (Option.some Jvm.ClassFile.FieldType.long) ∈ lw_tbl := mt_4 _ (List.mem_of_getElem? (i := 28) rfl)
theorem mw_749 : Jvm.Cond.methodLink "FractionPool$Whole" (86 : Nat) ({ cls := "FractionPool$Whole", name := "becomeLong", desc := "(J)V" } : Jvm.MethodName) ∈ lw_tbl := mt_4 _ (List.mem_of_getElem? (i := 29) rfl)
theorem mw_750 : Jvm.Cond.methodLink "FractionPool$Whole" (90 : Nat) ({ cls := "FractionPool$Whole", name := "shiftUp", desc := "(I)V" } : Jvm.MethodName) ∈ lw_tbl := mt_4 _ (List.mem_of_getElem? (i := 30) rfl)
theorem mw_751 : Jvm.Cond.instanceMethod ({ cls := "FractionPool$Whole", name := "shiftUp", desc := "(I)V" } : Jvm.MethodName) ∈ lw_tbl := mt_4 _ (List.mem_of_getElem? (i := 31) rfl)
theorem mw_752 : Jvm.Cond.selects "FractionPool$Whole" ({ cls := "FractionPool$Whole", name := "shiftUp", desc := "(I)V" } : Jvm.MethodName) ({ cls := "FractionPool$Whole", name := "shiftUp", desc := "(I)V" } : Jvm.MethodName) ∈ lw_tbl := mt_4 _ (List.mem_of_getElem? (i := 32) rfl)
theorem mw_753 : Jvm.Cond.code ({ cls := "FractionPool$Whole", name := "shiftUp", desc := "(I)V" } : Jvm.MethodName) prog_8_method_20_code (5 : Nat) (Option.none : Option Jvm.ClassFile.FieldType) ∈ lw_tbl := mt_4 _ (List.mem_of_getElem? (i := 33) rfl)
theorem mw_754 : Jvm.Cond.methodLink "FractionPool$Whole" (93 : Nat) ({ cls := "FractionPool$Whole", name := "guessLimb", desc := "(LFractionPool$Whole;I)J" } : Jvm.MethodName) ∈ lw_tbl := mt_4 _ (List.mem_of_getElem? (i := 34) rfl)
theorem mw_755 : Jvm.Cond.privateMethod ({ cls := "FractionPool$Whole", name := "guessLimb", desc := "(LFractionPool$Whole;I)J" } : Jvm.MethodName) ∈ lw_tbl := mt_4 _ (List.mem_of_getElem? (i := 35) rfl)
theorem mw_756 : Jvm.Cond.instanceMethod ({ cls := "FractionPool$Whole", name := "guessLimb", desc := "(LFractionPool$Whole;I)J" } : Jvm.MethodName) ∈ lw_tbl := mt_4 _ (List.mem_of_getElem? (i := 36) rfl)
theorem mw_757 : Jvm.Cond.code ({ cls := "FractionPool$Whole", name := "guessLimb", desc := "(LFractionPool$Whole;I)J" } : Jvm.MethodName) prog_8_method_24_code (19 : Nat) (Option.some Jvm.ClassFile.FieldType.long) ∈ lw_tbl := mt_4 _ (List.mem_of_getElem? (i := 37) rfl)
theorem mw_758 : Jvm.Cond.methodLink "FractionPool$Whole" (108 : Nat) ({ cls := "java/lang/Long", name := "compareUnsigned", desc := "(JJ)I" } : Jvm.MethodName) ∈ lw_tbl := mt_4 _ (List.mem_of_getElem? (i := 38) rfl)
theorem mw_759 : Jvm.Cond.static ({ cls := "java/lang/Long", name := "compareUnsigned", desc := "(JJ)I" } : Jvm.MethodName) ∈ lw_tbl := mt_4 _ (List.mem_of_getElem? (i := 39) rfl)
theorem mw_760 : Jvm.Cond.code ({ cls := "java/lang/Long", name := "compareUnsigned", desc := "(JJ)I" } : Jvm.MethodName) prog_19_method_43_code (4 : Nat) (Option.some Jvm.ClassFile.FieldType.int) ∈ lw_tbl := mt_4 _ (List.mem_of_getElem? (i := 40) rfl)
theorem mw_761 : Jvm.Cond.constantLong "java/lang/Long" (168 : Nat) (-9223372036854775808 : Int64) ∈ lw_tbl := mt_4 _ (List.mem_of_getElem? (i := 41) rfl)
theorem mw_762 : Jvm.Cond.methodLink "java/lang/Long" (302 : Nat) ({ cls := "java/lang/Long", name := "compare", desc := "(JJ)I" } : Jvm.MethodName) ∈ lw_tbl := mt_4 _ (List.mem_of_getElem? (i := 42) rfl)
theorem mw_763 : Jvm.Cond.static ({ cls := "java/lang/Long", name := "compare", desc := "(JJ)I" } : Jvm.MethodName) ∈ lw_tbl := mt_4 _ (List.mem_of_getElem? (i := 43) rfl)
theorem mw_764 : Jvm.Cond.code ({ cls := "java/lang/Long", name := "compare", desc := "(JJ)I" } : Jvm.MethodName) prog_19_method_42_code (4 : Nat) (Option.some Jvm.ClassFile.FieldType.int) ∈ lw_tbl := mt_4 _ (List.mem_of_getElem? (i := 44) rfl)
theorem mw_765 : Jvm.Cond.methodLink "FractionPool$Whole" (97 : Nat) ({ cls := "FractionPool$Whole", name := "takeMultiple", desc := "(LFractionPool$Whole;JI)Z" } : Jvm.MethodName) ∈ lw_tbl := mt_4 _ (List.mem_of_getElem? (i := 45) rfl)
theorem mw_766 : Jvm.Cond.privateMethod ({ cls := "FractionPool$Whole", name := "takeMultiple", desc := "(LFractionPool$Whole;JI)Z" } : Jvm.MethodName) ∈ lw_tbl := mt_4 _ (List.mem_of_getElem? (i := 46) rfl)
theorem mw_767 : Jvm.Cond.instanceMethod ({ cls := "FractionPool$Whole", name := "takeMultiple", desc := "(LFractionPool$Whole;JI)Z" } : Jvm.MethodName) ∈ lw_tbl := mt_4 _ (List.mem_of_getElem? (i := 47) rfl)
theorem mw_768 : Jvm.Cond.code ({ cls := "FractionPool$Whole", name := "takeMultiple", desc := "(LFractionPool$Whole;JI)Z" } : Jvm.MethodName) prog_8_method_25_code (13 : Nat) (Option.some Jvm.ClassFile.FieldType.boolean) ∈ lw_tbl := mt_4 _ (List.mem_of_getElem? (i := 48) rfl)
theorem mw_769 : Jvm.Cond.methodLink "FractionPool$Whole" (101 : Nat) ({ cls := "FractionPool$Whole", name := "giveBack", desc := "(LFractionPool$Whole;I)V" } : Jvm.MethodName) ∈ lw_tbl := mt_4 _ (List.mem_of_getElem? (i := 49) rfl)
theorem mw_770 : Jvm.Cond.privateMethod ({ cls := "FractionPool$Whole", name := "giveBack", desc := "(LFractionPool$Whole;I)V" } : Jvm.MethodName) ∈ lw_tbl := mt_4 _ (List.mem_of_getElem? (i := 50) rfl)
theorem mw_771 : Jvm.Cond.instanceMethod ({ cls := "FractionPool$Whole", name := "giveBack", desc := "(LFractionPool$Whole;I)V" } : Jvm.MethodName) ∈ lw_tbl := mt_4 _ (List.mem_of_getElem? (i := 51) rfl)
theorem mw_772 : Jvm.Cond.code ({ cls := "FractionPool$Whole", name := "giveBack", desc := "(LFractionPool$Whole;I)V" } : Jvm.MethodName) prog_8_method_26_code (7 : Nat) (Option.none : Option Jvm.ClassFile.FieldType) ∈ lw_tbl := mt_4 _ (List.mem_of_getElem? (i := 52) rfl)
theorem mw_773 : Jvm.Cond.methodLink "FractionPool$Whole" (105 : Nat) ({ cls := "FractionPool$Whole", name := "shiftDown", desc := "(I)V" } : Jvm.MethodName) ∈ lw_tbl := mt_4 _ (List.mem_of_getElem? (i := 53) rfl)
theorem mw_774 : Jvm.Cond.instanceMethod ({ cls := "FractionPool$Whole", name := "shiftDown", desc := "(I)V" } : Jvm.MethodName) ∈ lw_tbl := mt_4 _ (List.mem_of_getElem? (i := 54) rfl)
theorem mw_775 : Jvm.Cond.selects "FractionPool$Whole" ({ cls := "FractionPool$Whole", name := "shiftDown", desc := "(I)V" } : Jvm.MethodName) ({ cls := "FractionPool$Whole", name := "shiftDown", desc := "(I)V" } : Jvm.MethodName) ∈ lw_tbl := mt_4 _ (List.mem_of_getElem? (i := 55) rfl)
theorem mw_776 : Jvm.Cond.code ({ cls := "FractionPool$Whole", name := "shiftDown", desc := "(I)V" } : Jvm.MethodName) prog_8_method_21_code (6 : Nat) (Option.none : Option Jvm.ClassFile.FieldType) ∈ lw_tbl := mt_4 _ (List.mem_of_getElem? (i := 56) rfl)
theorem mw_777 : Jvm.Cond.methodLink "FractionPool$Bench" (47 : Nat) ({ cls := "FractionPool$Bench", name := "reduce", desc := "(LFractionPool$Whole;LFractionPool$Whole;)V" } : Jvm.MethodName) ∈ lw_tbl := mt_4 _ (List.mem_of_getElem? (i := 57) rfl)
theorem mw_778 : Jvm.Cond.privateMethod ({ cls := "FractionPool$Bench", name := "reduce", desc := "(LFractionPool$Whole;LFractionPool$Whole;)V" } : Jvm.MethodName) ∈ lw_tbl := mt_4 _ (List.mem_of_getElem? (i := 58) rfl)
theorem mw_779 : Jvm.Cond.instanceMethod ({ cls := "FractionPool$Bench", name := "reduce", desc := "(LFractionPool$Whole;LFractionPool$Whole;)V" } : Jvm.MethodName) ∈ lw_tbl := mt_4 _ (List.mem_of_getElem? (i := 59) rfl)
theorem mw_780 : Jvm.Cond.code ({ cls := "FractionPool$Bench", name := "reduce", desc := "(LFractionPool$Whole;LFractionPool$Whole;)V" } : Jvm.MethodName) prog_2_method_2_code (3 : Nat) (Option.none : Option Jvm.ClassFile.FieldType) ∈ lw_tbl := mt_4 _ (List.mem_of_getElem? (i := 60) rfl)
theorem mw_781 : Jvm.Cond.methodLink "FractionPool$Bench" (31 : Nat) ({ cls := "FractionPool$Whole", name := "isOne", desc := "()Z" } : Jvm.MethodName) ∈ lw_tbl := mt_4 _ (List.mem_of_getElem? (i := 61) rfl)
theorem mw_782 : Jvm.Cond.instanceMethod ({ cls := "FractionPool$Whole", name := "isOne", desc := "()Z" } : Jvm.MethodName) ∈ lw_tbl := mt_4 _ (List.mem_of_getElem? (i := 62) rfl)
theorem mw_783 : Jvm.Cond.selects "FractionPool$Whole" ({ cls := "FractionPool$Whole", name := "isOne", desc := "()Z" } : Jvm.MethodName) ({ cls := "FractionPool$Whole", name := "isOne", desc := "()Z" } : Jvm.MethodName) ∈ lw_tbl := mt_4 _ (List.mem_of_getElem? (i := 63) rfl)
theorem mw_784 : Jvm.Cond.code ({ cls := "FractionPool$Whole", name := "isOne", desc := "()Z" } : Jvm.MethodName) prog_8_method_5_code (1 : Nat) (Option.some Jvm.ClassFile.FieldType.boolean) ∈ lw_tbl := mt_4 _ (List.mem_of_getElem? (i := 64) rfl)
theorem mw_785 : Jvm.Cond.methodLink "FractionPool$Bench" (35 : Nat) ({ cls := "FractionPool$Whole", name := "become", desc := "(LFractionPool$Whole;)V" } : Jvm.MethodName) ∈ lw_tbl := mt_4 _ (List.mem_of_getElem? (i := 65) rfl)
theorem mw_786 : Jvm.Cond.methodLink "FractionPool$Bench" (39 : Nat) ({ cls := "FractionPool$Whole", name := "divideBy", desc := "(LFractionPool$Whole;LFractionPool$Whole;)V" } : Jvm.MethodName) ∈ lw_tbl := mt_4 _ (List.mem_of_getElem? (i := 66) rfl)
theorem mw_787 : Jvm.Cond.methodLink "FractionPool" (99 : Nat) ({ cls := "java/lang/Long", name := "signum", desc := "(J)I" } : Jvm.MethodName) ∈ lw_tbl := mt_4 _ (List.mem_of_getElem? (i := 67) rfl)
theorem mw_788 : Jvm.Cond.static ({ cls := "java/lang/Long", name := "signum", desc := "(J)I" } : Jvm.MethodName) ∈ lw_tbl := mt_4 _ (List.mem_of_getElem? (i := 68) rfl)
theorem mw_789 : Jvm.Cond.code ({ cls := "java/lang/Long", name := "signum", desc := "(J)I" } : Jvm.MethodName) prog_19_method_57_code (2 : Nat) (Option.some Jvm.ClassFile.FieldType.int) ∈ lw_tbl := mt_4 _ (List.mem_of_getElem? (i := 69) rfl)
theorem mw_790 : Jvm.Cond.methodLink "FractionPool" (108 : Nat) ({ cls := "FractionPool$Registers", name := "keep", desc := "(ILFractionPool$Ratio;)I" } : Jvm.MethodName) ∈ lw_tbl := mt_4 _ (List.mem_of_getElem? (i := 70) rfl)
theorem mw_791 : Jvm.Cond.instanceMethod ({ cls := "FractionPool$Registers", name := "keep", desc := "(ILFractionPool$Ratio;)I" } : Jvm.MethodName) ∈ lw_tbl := mt_4 _ (List.mem_of_getElem? (i := 71) rfl)
theorem mw_792 : Jvm.Cond.selects "FractionPool$Registers" ({ cls := "FractionPool$Registers", name := "keep", desc := "(ILFractionPool$Ratio;)I" } : Jvm.MethodName) ({ cls := "FractionPool$Registers", name := "keep", desc := "(ILFractionPool$Ratio;)I" } : Jvm.MethodName) ∈ lw_tbl := mt_4 _ (List.mem_of_getElem? (i := 72) rfl)
theorem mw_793 : Jvm.Cond.code ({ cls := "FractionPool$Registers", name := "keep", desc := "(ILFractionPool$Ratio;)I" } : Jvm.MethodName) prog_6_method_9_code (4 : Nat) (Option.some Jvm.ClassFile.FieldType.int) ∈ lw_tbl := mt_4 _ (List.mem_of_getElem? (i := 73) rfl)
theorem mw_794 : Jvm.Cond.methodLink "FractionPool$Registers" (71 : Nat) ({ cls := "FractionPool$Registers", name := "needOf", desc := "(I)I" } : Jvm.MethodName) ∈ lw_tbl := mt_4 _ (List.mem_of_getElem? (i := 74) rfl)
theorem mw_795 : Jvm.Cond.instanceMethod ({ cls := "FractionPool$Registers", name := "needOf", desc := "(I)I" } : Jvm.MethodName) ∈ lw_tbl := mt_4 _ (List.mem_of_getElem? (i := 75) rfl)
theorem mw_796 : Jvm.Cond.selects "FractionPool$Registers" ({ cls := "FractionPool$Registers", name := "needOf", desc := "(I)I" } : Jvm.MethodName) ({ cls := "FractionPool$Registers", name := "needOf", desc := "(I)I" } : Jvm.MethodName) ∈ lw_tbl := mt_4 _ (List.mem_of_getElem? (i := 76) rfl)
theorem mw_797 : Jvm.Cond.code ({ cls := "FractionPool$Registers", name := "needOf", desc := "(I)I" } : Jvm.MethodName) prog_6_method_2_code (2 : Nat) (Option.some Jvm.ClassFile.FieldType.int) ∈ lw_tbl := mt_4 _ (List.mem_of_getElem? (i := 77) rfl)
theorem mw_798 : Jvm.Cond.classLink "FractionPool$Registers" (74 : Nat) "java/lang/UnsupportedOperationException" ∈ lw_tbl := mt_4 _ (List.mem_of_getElem? (i := 78) rfl)
theorem mw_799 : Jvm.Cond.stringRef "FractionPool$Registers" (76 : Nat) "the registers would need more than the room" ∈ lw_tbl := mt_4 _ (List.mem_of_getElem? (i := 79) rfl)
theorem mw_800 : Jvm.Cond.methodLink "FractionPool$Registers" (78 : Nat) ({ cls := "java/lang/UnsupportedOperationException", name := "<init>", desc := "(Ljava/lang/String;)V" } : Jvm.MethodName) ∈ lw_tbl := mt_4 _ (List.mem_of_getElem? (i := 80) rfl)
theorem mw_801 : Jvm.Cond.methodLink "FractionPool$Registers" (81 : Nat) ({ cls := "FractionPool$Registers", name := "takeOut", desc := "(I)V" } : Jvm.MethodName) ∈ lw_tbl := mt_4 _ (List.mem_of_getElem? (i := 81) rfl)
theorem mw_802 : Jvm.Cond.privateMethod ({ cls := "FractionPool$Registers", name := "takeOut", desc := "(I)V" } : Jvm.MethodName) ∈ lw_tbl := mt_4 _ (List.mem_of_getElem? (i := 82) rfl)
theorem mw_803 : Jvm.Cond.instanceMethod ({ cls := "FractionPool$Registers", name := "takeOut", desc := "(I)V" } : Jvm.MethodName) ∈ lw_tbl := mt_4 _ (List.mem_of_getElem? (i := 83) rfl)
theorem mw_804 : Jvm.Cond.code ({ cls := "FractionPool$Registers", name := "takeOut", desc := "(I)V" } : Jvm.MethodName) prog_6_method_10_code (5 : Nat) (Option.none : Option Jvm.ClassFile.FieldType) ∈ lw_tbl := mt_4 _ (List.mem_of_getElem? (i := 84) rfl)
theorem mw_805 : Jvm.Cond.methodLink "FractionPool$Registers" (88 : Nat) ({ cls := "java/lang/System", name := "arraycopy", desc := "(Ljava/lang/Object;ILjava/lang/Object;II)V" } : Jvm.MethodName) ∈ lw_tbl := mt_4 _ (List.mem_of_getElem? (i := 85) rfl)
theorem mw_806 : Jvm.Cond.methodLink "FractionPoolLaw" (100 : Nat) ({ cls := "FractionPoolLaw", name := "copy", desc := "(LFractionPool;II[J)I" } : Jvm.MethodName) ∈ lw_tbl := mt_4 _ (List.mem_of_getElem? (i := 86) rfl)
theorem mw_807 : Jvm.Cond.static ({ cls := "FractionPoolLaw", name := "copy", desc := "(LFractionPool;II[J)I" } : Jvm.MethodName) ∈ lw_tbl := mt_4 _ (List.mem_of_getElem? (i := 87) rfl)
theorem mw_808 : Jvm.Cond.codeWith ({ cls := "FractionPoolLaw", name := "copy", desc := "(LFractionPool;II[J)I" } : Jvm.MethodName) method_4_code (5 : Nat) (Option.some Jvm.ClassFile.FieldType.int) [((0 : Nat), (10 : Nat), (13 : Nat), (13 : Nat)), ((0 : Nat), (10 : Nat), (17 : Nat), (17 : Nat))] ∈ lw_tbl := mt_4 _ (List.mem_of_getElem? (i := 88) rfl)
theorem mw_809 : Jvm.Cond.methodLink "FractionPoolLaw" (19 : Nat) ({ cls := "FractionPool", name := "copy", desc := "(II)I" } : Jvm.MethodName) ∈ lw_tbl := mt_4 _ (List.mem_of_getElem? (i := 89) rfl)
theorem mw_810 : Jvm.Cond.instanceMethod ({ cls := "FractionPool", name := "copy", desc := "(II)I" } : Jvm.MethodName) ∈ lw_tbl := mt_4 _ (List.mem_of_getElem? (i := 90) rfl)
theorem mw_811 : Jvm.Cond.selects "FractionPool" ({ cls := "FractionPool", name := "copy", desc := "(II)I" } : Jvm.MethodName) ({ cls := "FractionPool", name := "copy", desc := "(II)I" } : Jvm.MethodName) ∈ lw_tbl := mt_4 _ (List.mem_of_getElem? (i := 91) rfl)
theorem mw_812 : Jvm.Cond.code ({ cls := "FractionPool", name := "copy", desc := "(II)I" } : Jvm.MethodName) prog_1_method_3_code (3 : Nat) (Option.some Jvm.ClassFile.FieldType.int) ∈ lw_tbl := mt_4 _ (List.mem_of_getElem? (i := 92) rfl)
theorem mw_813 : Jvm.Cond.methodLink "FractionPool" (112 : Nat) ({ cls := "FractionPool$Registers", name := "load", desc := "(ILFractionPool$Ratio;)V" } : Jvm.MethodName) ∈ lw_tbl := mt_4 _ (List.mem_of_getElem? (i := 93) rfl)
theorem mw_814 : Jvm.Cond.instanceMethod ({ cls := "FractionPool$Registers", name := "load", desc := "(ILFractionPool$Ratio;)V" } : Jvm.MethodName) ∈ lw_tbl := mt_4 _ (List.mem_of_getElem? (i := 94) rfl)
theorem mw_815 : Jvm.Cond.selects "FractionPool$Registers" ({ cls := "FractionPool$Registers", name := "load", desc := "(ILFractionPool$Ratio;)V" } : Jvm.MethodName) ({ cls := "FractionPool$Registers", name := "load", desc := "(ILFractionPool$Ratio;)V" } : Jvm.MethodName) ∈ lw_tbl := mt_4 _ (List.mem_of_getElem? (i := 95) rfl)
theorem mw_816 : Jvm.Cond.code ({ cls := "FractionPool$Registers", name := "load", desc := "(ILFractionPool$Ratio;)V" } : Jvm.MethodName) prog_6_method_6_code (3 : Nat) (Option.none : Option Jvm.ClassFile.FieldType) ∈ lw_tbl := mt_4 _ (List.mem_of_getElem? (i := 96) rfl)
theorem mw_817 : Jvm.Cond.methodLink "FractionPool$Registers" (56 : Nat) ({ cls := "FractionPool$Whole", name := "becomePart", desc := "([III)V" } : Jvm.MethodName) ∈ lw_tbl := mt_4 _ (List.mem_of_getElem? (i := 97) rfl)
theorem mw_818 : Jvm.Cond.instanceMethod ({ cls := "FractionPool$Whole", name := "becomePart", desc := "([III)V" } : Jvm.MethodName) ∈ lw_tbl := mt_4 _ (List.mem_of_getElem? (i := 98) rfl)
theorem mw_819 : Jvm.Cond.selects "FractionPool$Whole" ({ cls := "FractionPool$Whole", name := "becomePart", desc := "([III)V" } : Jvm.MethodName) ({ cls := "FractionPool$Whole", name := "becomePart", desc := "([III)V" } : Jvm.MethodName) ∈ lw_tbl := mt_4 _ (List.mem_of_getElem? (i := 99) rfl)
theorem mw_820 : Jvm.Cond.code ({ cls := "FractionPool$Whole", name := "becomePart", desc := "([III)V" } : Jvm.MethodName) prog_8_method_14_code (4 : Nat) (Option.none : Option Jvm.ClassFile.FieldType) ∈ lw_tbl := mt_4 _ (List.mem_of_getElem? (i := 100) rfl)
theorem mw_821 : Jvm.Cond.methodLink "FractionPoolLaw" (104 : Nat) ({ cls := "FractionPoolLaw", name := "swap", desc := "(LFractionPool;II[J)I" } : Jvm.MethodName) ∈ lw_tbl := mt_4 _ (List.mem_of_getElem? (i := 101) rfl)
theorem mw_822 : Jvm.Cond.static ({ cls := "FractionPoolLaw", name := "swap", desc := "(LFractionPool;II[J)I" } : Jvm.MethodName) ∈ lw_tbl := mt_4 _ (List.mem_of_getElem? (i := 102) rfl)
theorem mw_823 : Jvm.Cond.codeWith ({ cls := "FractionPoolLaw", name := "swap", desc := "(LFractionPool;II[J)I" } : Jvm.MethodName) method_5_code (5 : Nat) (Option.some Jvm.ClassFile.FieldType.int) [((0 : Nat), (10 : Nat), (13 : Nat), (13 : Nat))] ∈ lw_tbl := mt_4 _ (List.mem_of_getElem? (i := 103) rfl)
theorem mw_824 : Jvm.Cond.methodLink "FractionPoolLaw" (23 : Nat) ({ cls := "FractionPool", name := "swap", desc := "(II)I" } : Jvm.MethodName) ∈ lw_tbl := mt_4 _ (List.mem_of_getElem? (i := 104) rfl)
theorem mw_825 : Jvm.Cond.instanceMethod ({ cls := "FractionPool", name := "swap", desc := "(II)I" } : Jvm.MethodName) ∈ lw_tbl := mt_4 _ (List.mem_of_getElem? (i := 105) rfl)
theorem mw_826 : Jvm.Cond.selects "FractionPool" ({ cls := "FractionPool", name := "swap", desc := "(II)I" } : Jvm.MethodName) ({ cls := "FractionPool", name := "swap", desc := "(II)I" } : Jvm.MethodName) ∈ lw_tbl := mt_4 _ (List.mem_of_getElem? (i := 106) rfl)
theorem mw_827 : Jvm.Cond.code ({ cls := "FractionPool", name := "swap", desc := "(II)I" } : Jvm.MethodName) prog_1_method_4_code (3 : Nat) (Option.some Jvm.ClassFile.FieldType.int) ∈ lw_tbl := mt_4 _ (List.mem_of_getElem? (i := 107) rfl)
theorem mw_828 : Jvm.Cond.methodLink "FractionPool" (116 : Nat) ({ cls := "FractionPool$Registers", name := "exchange", desc := "(II)V" } : Jvm.MethodName) ∈ lw_tbl := mt_4 _ (List.mem_of_getElem? (i := 108) rfl)
theorem mw_829 : Jvm.Cond.instanceMethod ({ cls := "FractionPool$Registers", name := "exchange", desc := "(II)V" } : Jvm.MethodName) ∈ lw_tbl := mt_4 _ (List.mem_of_getElem? (i := 109) rfl)
theorem mw_830 : Jvm.Cond.selects "FractionPool$Registers" ({ cls := "FractionPool$Registers", name := "exchange", desc := "(II)V" } : Jvm.MethodName) ({ cls := "FractionPool$Registers", name := "exchange", desc := "(II)V" } : Jvm.MethodName) ∈ lw_tbl := mt_4 _ (List.mem_of_getElem? (i := 110) rfl)
theorem mw_831 : Jvm.Cond.code ({ cls := "FractionPool$Registers", name := "exchange", desc := "(II)V" } : Jvm.MethodName) prog_6_method_7_code (3 : Nat) (Option.none : Option Jvm.ClassFile.FieldType) ∈ lw_tbl := mt_4 _ (List.mem_of_getElem? (i := 111) rfl)
theorem mw_832 : Jvm.Cond.methodLink "FractionPool$Registers" (65 : Nat) ({ cls := "FractionPool$Registers", name := "exchangeIn", desc := "([III)V" } : Jvm.MethodName) ∈ lw_tbl := mt_4 _ (List.mem_of_getElem? (i := 112) rfl)
theorem mw_833 : Jvm.Cond.static ({ cls := "FractionPool$Registers", name := "exchangeIn", desc := "([III)V" } : Jvm.MethodName) ∈ lw_tbl := mt_4 _ (List.mem_of_getElem? (i := 113) rfl)
theorem mw_834 : Jvm.Cond.code ({ cls := "FractionPool$Registers", name := "exchangeIn", desc := "([III)V" } : Jvm.MethodName) prog_6_method_8_code (4 : Nat) (Option.none : Option Jvm.ClassFile.FieldType) ∈ lw_tbl := mt_4 _ (List.mem_of_getElem? (i := 114) rfl)
theorem mw_835 : Jvm.Cond.methodLink "FractionPool" (120 : Nat) ({ cls := "FractionPool$Registers", name := "needOf", desc := "(I)I" } : Jvm.MethodName) ∈ lw_tbl := mt_4 _ (List.mem_of_getElem? (i := 115) rfl)
theorem mw_836 : Jvm.Cond.methodLink "FractionPoolLaw" (107 : Nat) ({ cls := "FractionPoolLaw", name := "add", desc := "(LFractionPool;III[J)I" } : Jvm.MethodName) ∈ lw_tbl := mt_4 _ (List.mem_of_getElem? (i := 116) rfl)
theorem mw_837 : Jvm.Cond.static ({ cls := "FractionPoolLaw", name := "add", desc := "(LFractionPool;III[J)I" } : Jvm.MethodName) ∈ lw_tbl := mt_4 _ (List.mem_of_getElem? (i := 117) rfl)
theorem mw_838 : Jvm.Cond.codeWith ({ cls := "FractionPoolLaw", name := "add", desc := "(LFractionPool;III[J)I" } : Jvm.MethodName) method_6_code (6 : Nat) (Option.some Jvm.ClassFile.FieldType.int) [((0 : Nat), (12 : Nat), (15 : Nat), (13 : Nat)), ((0 : Nat), (12 : Nat), (19 : Nat), (17 : Nat))] ∈ lw_tbl := mt_4 _ (List.mem_of_getElem? (i := 118) rfl)
theorem mw_839 : Jvm.Cond.methodLink "FractionPoolLaw" (26 : Nat) ({ cls := "FractionPool", name := "add", desc := "(III)I" } : Jvm.MethodName) ∈ lw_tbl := mt_4 _ (List.mem_of_getElem? (i := 119) rfl)
theorem mw_840 : Jvm.Cond.instanceMethod ({ cls := "FractionPool", name := "add", desc := "(III)I" } : Jvm.MethodName) ∈ lw_tbl := mt_4 _ (List.mem_of_getElem? (i := 120) rfl)
theorem mw_841 : Jvm.Cond.selects "FractionPool" ({ cls := "FractionPool", name := "add", desc := "(III)I" } : Jvm.MethodName) ({ cls := "FractionPool", name := "add", desc := "(III)I" } : Jvm.MethodName) ∈ lw_tbl := mt_4 _ (List.mem_of_getElem? (i := 121) rfl)
theorem mw_842 : Jvm.Cond.code ({ cls := "FractionPool", name := "add", desc := "(III)I" } : Jvm.MethodName) prog_1_method_5_code (4 : Nat) (Option.some Jvm.ClassFile.FieldType.int) ∈ lw_tbl := mt_4 _ (List.mem_of_getElem? (i := 122) rfl)
theorem mw_843 : Jvm.Cond.methodLink "FractionPool" (123 : Nat) ({ cls := "FractionPool", name := "loadBoth", desc := "(III)V" } : Jvm.MethodName) ∈ lw_tbl := mt_4 _ (List.mem_of_getElem? (i := 123) rfl)
theorem mw_844 : Jvm.Cond.privateMethod ({ cls := "FractionPool", name := "loadBoth", desc := "(III)V" } : Jvm.MethodName) ∈ lw_tbl := mt_4 _ (List.mem_of_getElem? (i := 124) rfl)
theorem mw_845 : Jvm.Cond.instanceMethod ({ cls := "FractionPool", name := "loadBoth", desc := "(III)V" } : Jvm.MethodName) ∈ lw_tbl := mt_4 _ (List.mem_of_getElem? (i := 125) rfl)
theorem mw_846 : Jvm.Cond.code ({ cls := "FractionPool", name := "loadBoth", desc := "(III)V" } : Jvm.MethodName) prog_1_method_26_code (4 : Nat) (Option.none : Option Jvm.ClassFile.FieldType) ∈ lw_tbl := mt_4 _ (List.mem_of_getElem? (i := 126) rfl)
theorem mw_847 : Jvm.Cond.methodLink "FractionPool" (127 : Nat) ({ cls := "FractionPool$Bench", name := "sumOf", desc := "(LFractionPool$Ratio;LFractionPool$Ratio;LFractionPool$Ratio;)V" } : Jvm.MethodName) ∈ lw_tbl := mt_4 _ (List.mem_of_getElem? (i := 127) rfl)
theorem mw_848 : Jvm.Cond.instanceMethod ({ cls := "FractionPool$Bench", name := "sumOf", desc := "(LFractionPool$Ratio;LFractionPool$Ratio;LFractionPool$Ratio;)V" } : Jvm.MethodName) ∈ lw_tbl := mt_4 _ (List.mem_of_getElem? (i := 128) rfl)
theorem mw_849 : Jvm.Cond.selects "FractionPool$Bench" ({ cls := "FractionPool$Bench", name := "sumOf", desc := "(LFractionPool$Ratio;LFractionPool$Ratio;LFractionPool$Ratio;)V" } : Jvm.MethodName) ({ cls := "FractionPool$Bench", name := "sumOf", desc := "(LFractionPool$Ratio;LFractionPool$Ratio;LFractionPool$Ratio;)V" } : Jvm.MethodName) ∈ lw_tbl := mt_4 _ (List.mem_of_getElem? (i := 129) rfl)
theorem mw_850 : Jvm.Cond.code ({ cls := "FractionPool$Bench", name := "sumOf", desc := "(LFractionPool$Ratio;LFractionPool$Ratio;LFractionPool$Ratio;)V" } : Jvm.MethodName) prog_2_method_5_code (5 : Nat) (Option.none : Option Jvm.ClassFile.FieldType) ∈ lw_tbl := mt_4 _ (List.mem_of_getElem? (i := 130) rfl)
theorem mw_851 : Jvm.Cond.methodLink "FractionPool$Bench" (61 : Nat) ({ cls := "FractionPool$Whole", name := "productOf", desc := "(LFractionPool$Whole;LFractionPool$Whole;)V" } : Jvm.MethodName) ∈ lw_tbl := mt_4 _ (List.mem_of_getElem? (i := 131) rfl)
theorem mw_852 : Jvm.Cond.instanceMethod ({ cls := "FractionPool$Whole", name := "productOf", desc := "(LFractionPool$Whole;LFractionPool$Whole;)V" } : Jvm.MethodName) ∈ lw_tbl := mt_4 _ (List.mem_of_getElem? (i := 132) rfl)
theorem mw_853 : Jvm.Cond.selects "FractionPool$Whole" ({ cls := "FractionPool$Whole", name := "productOf", desc := "(LFractionPool$Whole;LFractionPool$Whole;)V" } : Jvm.MethodName) ({ cls := "FractionPool$Whole", name := "productOf", desc := "(LFractionPool$Whole;LFractionPool$Whole;)V" } : Jvm.MethodName) ∈ lw_tbl := mt_4 _ (List.mem_of_getElem? (i := 133) rfl)
theorem mw_854 : Jvm.Cond.code ({ cls := "FractionPool$Whole", name := "productOf", desc := "(LFractionPool$Whole;LFractionPool$Whole;)V" } : Jvm.MethodName) prog_8_method_17_code (5 : Nat) (Option.none : Option Jvm.ClassFile.FieldType) ∈ lw_tbl := mt_4 _ (List.mem_of_getElem? (i := 134) rfl)
theorem mw_855 : Jvm.Cond.methodLink "FractionPool$Whole" (66 : Nat) ({ cls := "FractionPool$Whole", name := "addMultiple", desc := "(LFractionPool$Whole;JI)V" } : Jvm.MethodName) ∈ lw_tbl := mt_4 _ (List.mem_of_getElem? (i := 135) rfl)
theorem mw_856 : Jvm.Cond.privateMethod ({ cls := "FractionPool$Whole", name := "addMultiple", desc := "(LFractionPool$Whole;JI)V" } : Jvm.MethodName) ∈ lw_tbl := mt_4 _ (List.mem_of_getElem? (i := 136) rfl)
theorem mw_857 : Jvm.Cond.instanceMethod ({ cls := "FractionPool$Whole", name := "addMultiple", desc := "(LFractionPool$Whole;JI)V" } : Jvm.MethodName) ∈ lw_tbl := mt_4 _ (List.mem_of_getElem? (i := 137) rfl)
theorem mw_858 : Jvm.Cond.code ({ cls := "FractionPool$Whole", name := "addMultiple", desc := "(LFractionPool$Whole;JI)V" } : Jvm.MethodName) prog_8_method_18_code (8 : Nat) (Option.none : Option Jvm.ClassFile.FieldType) ∈ lw_tbl := mt_4 _ (List.mem_of_getElem? (i := 138) rfl)
theorem mw_859 : Jvm.Cond.methodLink "FractionPool$Bench" (68 : Nat) ({ cls := "FractionPool$Bench", name := "addSpare", desc := "(LFractionPool$Whole;II)I" } : Jvm.MethodName) ∈ lw_tbl := mt_4 _ (List.mem_of_getElem? (i := 139) rfl)
theorem mw_860 : Jvm.Cond.privateMethod ({ cls := "FractionPool$Bench", name := "addSpare", desc := "(LFractionPool$Whole;II)I" } : Jvm.MethodName) ∈ lw_tbl := mt_4 _ (List.mem_of_getElem? (i := 140) rfl)
theorem mw_861 : Jvm.Cond.instanceMethod ({ cls := "FractionPool$Bench", name := "addSpare", desc := "(LFractionPool$Whole;II)I" } : Jvm.MethodName) ∈ lw_tbl := mt_4 _ (List.mem_of_getElem? (i := 141) rfl)
theorem mw_862 : Jvm.Cond.code ({ cls := "FractionPool$Bench", name := "addSpare", desc := "(LFractionPool$Whole;II)I" } : Jvm.MethodName) prog_2_method_6_code (5 : Nat) (Option.some Jvm.ClassFile.FieldType.int) ∈ lw_tbl := mt_4 _ (List.mem_of_getElem? (i := 142) rfl)
theorem mw_863 : Jvm.Cond.methodLink "FractionPool$Bench" (72 : Nat) ({ cls := "FractionPool$Whole", name := "plus", desc := "(LFractionPool$Whole;)V" } : Jvm.MethodName) ∈ lw_tbl := mt_4 _ (List.mem_of_getElem? (i := 143) rfl)
theorem mw_864 : Jvm.Cond.instanceMethod ({ cls := "FractionPool$Whole", name := "plus", desc := "(LFractionPool$Whole;)V" } : Jvm.MethodName) ∈ lw_tbl := mt_4 _ (List.mem_of_getElem? (i := 144) rfl)
theorem mw_865 : Jvm.Cond.selects "FractionPool$Whole" ({ cls := "FractionPool$Whole", name := "plus", desc := "(LFractionPool$Whole;)V" } : Jvm.MethodName) ({ cls := "FractionPool$Whole", name := "plus", desc := "(LFractionPool$Whole;)V" } : Jvm.MethodName) ∈ lw_tbl := mt_4 _ (List.mem_of_getElem? (i := 145) rfl)
theorem mw_866 : Jvm.Cond.code ({ cls := "FractionPool$Whole", name := "plus", desc := "(LFractionPool$Whole;)V" } : Jvm.MethodName) prog_8_method_15_code (6 : Nat) (Option.none : Option Jvm.ClassFile.FieldType) ∈ lw_tbl := mt_4 _ (List.mem_of_getElem? (i := 146) rfl)
theorem mw_867 : Jvm.Cond.methodLink "FractionPool$Bench" (75 : Nat) ({ cls := "FractionPool$Whole", name := "against", desc := "(LFractionPool$Whole;)I" } : Jvm.MethodName) ∈ lw_tbl := mt_4 _ (List.mem_of_getElem? (i := 147) rfl)
theorem mw_868 : Jvm.Cond.methodLink "FractionPool$Bench" (79 : Nat) ({ cls := "FractionPool$Whole", name := "differenceOf", desc := "(LFractionPool$Whole;LFractionPool$Whole;)V" } : Jvm.MethodName) ∈ lw_tbl := mt_4 _ (List.mem_of_getElem? (i := 148) rfl)
theorem mw_869 : Jvm.Cond.instanceMethod ({ cls := "FractionPool$Whole", name := "differenceOf", desc := "(LFractionPool$Whole;LFractionPool$Whole;)V" } : Jvm.MethodName) ∈ lw_tbl := mt_4 _ (List.mem_of_getElem? (i := 149) rfl)
theorem mw_870 : Jvm.Cond.selects "FractionPool$Whole" ({ cls := "FractionPool$Whole", name := "differenceOf", desc := "(LFractionPool$Whole;LFractionPool$Whole;)V" } : Jvm.MethodName) ({ cls := "FractionPool$Whole", name := "differenceOf", desc := "(LFractionPool$Whole;LFractionPool$Whole;)V" } : Jvm.MethodName) ∈ lw_tbl := mt_4 _ (List.mem_of_getElem? (i := 150) rfl)
theorem mw_871 : Jvm.Cond.code ({ cls := "FractionPool$Whole", name := "differenceOf", desc := "(LFractionPool$Whole;LFractionPool$Whole;)V" } : Jvm.MethodName) prog_8_method_16_code (7 : Nat) (Option.none : Option Jvm.ClassFile.FieldType) ∈ lw_tbl := mt_4 _ (List.mem_of_getElem? (i := 151) rfl)
theorem mw_872 : Jvm.Cond.methodLink "FractionPoolLaw" (111 : Nat) ({ cls := "FractionPoolLaw", name := "subtract", desc := "(LFractionPool;III[J)I" } : Jvm.MethodName) ∈ lw_tbl := mt_4 _ (List.mem_of_getElem? (i := 152) rfl)
theorem mw_873 : Jvm.Cond.static ({ cls := "FractionPoolLaw", name := "subtract", desc := "(LFractionPool;III[J)I" } : Jvm.MethodName) ∈ lw_tbl := mt_4 _ (List.mem_of_getElem? (i := 153) rfl)
theorem mw_874 : Jvm.Cond.codeWith ({ cls := "FractionPoolLaw", name := "subtract", desc := "(LFractionPool;III[J)I" } : Jvm.MethodName) method_7_code (6 : Nat) (Option.some Jvm.ClassFile.FieldType.int) [((0 : Nat), (12 : Nat), (15 : Nat), (13 : Nat)), ((0 : Nat), (12 : Nat), (19 : Nat), (17 : Nat))] ∈ lw_tbl := mt_4 _ (List.mem_of_getElem? (i := 154) rfl)
theorem mw_875 : Jvm.Cond.methodLink "FractionPoolLaw" (30 : Nat) ({ cls := "FractionPool", name := "subtract", desc := "(III)I" } : Jvm.MethodName) ∈ lw_tbl := mt_4 _ (List.mem_of_getElem? (i := 155) rfl)
theorem mw_876 : Jvm.Cond.instanceMethod ({ cls := "FractionPool", name := "subtract", desc := "(III)I" } : Jvm.MethodName) ∈ lw_tbl := mt_4 _ (List.mem_of_getElem? (i := 156) rfl)
theorem mw_877 : Jvm.Cond.selects "FractionPool" ({ cls := "FractionPool", name := "subtract", desc := "(III)I" } : Jvm.MethodName) ({ cls := "FractionPool", name := "subtract", desc := "(III)I" } : Jvm.MethodName) ∈ lw_tbl := mt_4 _ (List.mem_of_getElem? (i := 157) rfl)
theorem mw_878 : Jvm.Cond.code ({ cls := "FractionPool", name := "subtract", desc := "(III)I" } : Jvm.MethodName) prog_1_method_6_code (4 : Nat) (Option.some Jvm.ClassFile.FieldType.int) ∈ lw_tbl := mt_4 _ (List.mem_of_getElem? (i := 158) rfl)
theorem mw_879 : Jvm.Cond.methodLink "FractionPoolLaw" (114 : Nat) ({ cls := "FractionPoolLaw", name := "multiply", desc := "(LFractionPool;III[J)I" } : Jvm.MethodName) ∈ lw_tbl := mt_4 _ (List.mem_of_getElem? (i := 159) rfl)
theorem mw_880 : Jvm.Cond.static ({ cls := "FractionPoolLaw", name := "multiply", desc := "(LFractionPool;III[J)I" } : Jvm.MethodName) ∈ lw_tbl := mt_4 _ (List.mem_of_getElem? (i := 160) rfl)
theorem mw_881 : Jvm.Cond.codeWith ({ cls := "FractionPoolLaw", name := "multiply", desc := "(LFractionPool;III[J)I" } : Jvm.MethodName) method_8_code (6 : Nat) (Option.some Jvm.ClassFile.FieldType.int) [((0 : Nat), (12 : Nat), (15 : Nat), (13 : Nat)), ((0 : Nat), (12 : Nat), (19 : Nat), (17 : Nat))] ∈ lw_tbl := mt_4 _ (List.mem_of_getElem? (i := 161) rfl)
theorem mw_882 : Jvm.Cond.methodLink "FractionPoolLaw" (33 : Nat) ({ cls := "FractionPool", name := "multiply", desc := "(III)I" } : Jvm.MethodName) ∈ lw_tbl := mt_4 _ (List.mem_of_getElem? (i := 162) rfl)
theorem mw_883 : Jvm.Cond.instanceMethod ({ cls := "FractionPool", name := "multiply", desc := "(III)I" } : Jvm.MethodName) ∈ lw_tbl := mt_4 _ (List.mem_of_getElem? (i := 163) rfl)
theorem mw_884 : Jvm.Cond.selects "FractionPool" ({ cls := "FractionPool", name := "multiply", desc := "(III)I" } : Jvm.MethodName) ({ cls := "FractionPool", name := "multiply", desc := "(III)I" } : Jvm.MethodName) ∈ lw_tbl := mt_4 _ (List.mem_of_getElem? (i := 164) rfl)
theorem mw_885 : Jvm.Cond.code ({ cls := "FractionPool", name := "multiply", desc := "(III)I" } : Jvm.MethodName) prog_1_method_7_code (4 : Nat) (Option.some Jvm.ClassFile.FieldType.int) ∈ lw_tbl := mt_4 _ (List.mem_of_getElem? (i := 165) rfl)
theorem mw_886 : Jvm.Cond.methodLink "FractionPool" (131 : Nat) ({ cls := "FractionPool$Bench", name := "productOf", desc := "(LFractionPool$Ratio;LFractionPool$Ratio;LFractionPool$Ratio;)V" } : Jvm.MethodName) ∈ lw_tbl := mt_4 _ (List.mem_of_getElem? (i := 166) rfl)
theorem mw_887 : Jvm.Cond.instanceMethod ({ cls := "FractionPool$Bench", name := "productOf", desc := "(LFractionPool$Ratio;LFractionPool$Ratio;LFractionPool$Ratio;)V" } : Jvm.MethodName) ∈ lw_tbl := mt_4 _ (List.mem_of_getElem? (i := 167) rfl)
theorem mw_888 : Jvm.Cond.selects "FractionPool$Bench" ({ cls := "FractionPool$Bench", name := "productOf", desc := "(LFractionPool$Ratio;LFractionPool$Ratio;LFractionPool$Ratio;)V" } : Jvm.MethodName) ({ cls := "FractionPool$Bench", name := "productOf", desc := "(LFractionPool$Ratio;LFractionPool$Ratio;LFractionPool$Ratio;)V" } : Jvm.MethodName) ∈ lw_tbl := mt_4 _ (List.mem_of_getElem? (i := 168) rfl)
theorem mw_889 : Jvm.Cond.code ({ cls := "FractionPool$Bench", name := "productOf", desc := "(LFractionPool$Ratio;LFractionPool$Ratio;LFractionPool$Ratio;)V" } : Jvm.MethodName) prog_2_method_4_code (4 : Nat) (Option.none : Option Jvm.ClassFile.FieldType) ∈ lw_tbl := mt_4 _ (List.mem_of_getElem? (i := 169) rfl)
theorem mw_890 : Jvm.Cond.methodLink "FractionPool$Bench" (58 : Nat) ({ cls := "FractionPool$Bench", name := "reduceBoth", desc := "(LFractionPool$Whole;LFractionPool$Whole;)V" } : Jvm.MethodName) ∈ lw_tbl := mt_4 _ (List.mem_of_getElem? (i := 170) rfl)
theorem mw_891 : Jvm.Cond.methodLink "FractionPoolLaw" (117 : Nat) ({ cls := "FractionPoolLaw", name := "divide", desc := "(LFractionPool;III[J)I" } : Jvm.MethodName) ∈ lw_tbl := mt_4 _ (List.mem_of_getElem? (i := 171) rfl)
theorem mw_892 : Jvm.Cond.static ({ cls := "FractionPoolLaw", name := "divide", desc := "(LFractionPool;III[J)I" } : Jvm.MethodName) ∈ lw_tbl := mt_4 _ (List.mem_of_getElem? (i := 172) rfl)
theorem mw_893 : Jvm.Cond.codeWith ({ cls := "FractionPoolLaw", name := "divide", desc := "(LFractionPool;III[J)I" } : Jvm.MethodName) method_9_code (6 : Nat) (Option.some Jvm.ClassFile.FieldType.int) [((0 : Nat), (12 : Nat), (15 : Nat), (13 : Nat)), ((0 : Nat), (12 : Nat), (19 : Nat), (15 : Nat)), ((0 : Nat), (12 : Nat), (23 : Nat), (17 : Nat))] ∈ lw_tbl := mt_4 _ (List.mem_of_getElem? (i := 173) rfl)
theorem mw_894 : Jvm.Cond.methodLink "FractionPoolLaw" (36 : Nat) ({ cls := "FractionPool", name := "divide", desc := "(III)I" } : Jvm.MethodName) ∈ lw_tbl := mt_4 _ (List.mem_of_getElem? (i := 174) rfl)
theorem mw_895 : Jvm.Cond.instanceMethod ({ cls := "FractionPool", name := "divide", desc := "(III)I" } : Jvm.MethodName) ∈ lw_tbl := mt_4 _ (List.mem_of_getElem? (i := 175) rfl)
theorem mw_896 : Jvm.Cond.selects "FractionPool" ({ cls := "FractionPool", name := "divide", desc := "(III)I" } : Jvm.MethodName) ({ cls := "FractionPool", name := "divide", desc := "(III)I" } : Jvm.MethodName) ∈ lw_tbl := mt_4 _ (List.mem_of_getElem? (i := 176) rfl)
theorem mw_897 : Jvm.Cond.code ({ cls := "FractionPool", name := "divide", desc := "(III)I" } : Jvm.MethodName) prog_1_method_8_code (4 : Nat) (Option.some Jvm.ClassFile.FieldType.int) ∈ lw_tbl := mt_4 _ (List.mem_of_getElem? (i := 177) rfl)
theorem mw_898 : Jvm.Cond.stringRef "FractionPool" (134 : Nat) "division by 0" ∈ lw_tbl := mt_4 _ (List.mem_of_getElem? (i := 178) rfl)
theorem mw_899 : Jvm.Cond.methodLink "FractionPool" (136 : Nat) ({ cls := "FractionPool$Ratio", name := "turnOver", desc := "()V" } : Jvm.MethodName) ∈ lw_tbl := mt_4 _ (List.mem_of_getElem? (i := 179) rfl)
theorem mw_900 : Jvm.Cond.instanceMethod ({ cls := "FractionPool$Ratio", name := "turnOver", desc := "()V" } : Jvm.MethodName) ∈ lw_tbl := mt_4 _ (List.mem_of_getElem? (i := 180) rfl)
theorem mw_901 : Jvm.Cond.selects "FractionPool$Ratio" ({ cls := "FractionPool$Ratio", name := "turnOver", desc := "()V" } : Jvm.MethodName) ({ cls := "FractionPool$Ratio", name := "turnOver", desc := "()V" } : Jvm.MethodName) ∈ lw_tbl := mt_4 _ (List.mem_of_getElem? (i := 181) rfl)
theorem mw_902 : Jvm.Cond.code ({ cls := "FractionPool$Ratio", name := "turnOver", desc := "()V" } : Jvm.MethodName) prog_5_method_3_code (2 : Nat) (Option.none : Option Jvm.ClassFile.FieldType) ∈ lw_tbl := mt_4 _ (List.mem_of_getElem? (i := 182) rfl)
theorem mw_903 : Jvm.Cond.methodLink "FractionPoolLaw" (120 : Nat) ({ cls := "FractionPoolLaw", name := "power", desc := "(LFractionPool;III[J)I" } : Jvm.MethodName) ∈ lw_tbl := mt_4 _ (List.mem_of_getElem? (i := 183) rfl)
theorem mw_904 : Jvm.Cond.static ({ cls := "FractionPoolLaw", name := "power", desc := "(LFractionPool;III[J)I" } : Jvm.MethodName) ∈ lw_tbl := mt_4 _ (List.mem_of_getElem? (i := 184) rfl)
theorem mw_905 : Jvm.Cond.codeWith ({ cls := "FractionPoolLaw", name := "power", desc := "(LFractionPool;III[J)I" } : Jvm.MethodName) method_10_code (6 : Nat) (Option.some Jvm.ClassFile.FieldType.int) [((0 : Nat), (12 : Nat), (15 : Nat), (13 : Nat)), ((0 : Nat), (12 : Nat), (19 : Nat), (42 : Nat)), ((0 : Nat), (12 : Nat), (23 : Nat), (15 : Nat)), ((0 : Nat), (12 : Nat), (27 : Nat), (17 : Nat))] ∈ lw_tbl := mt_4 _ (List.mem_of_getElem? (i := 185) rfl)
theorem mw_906 : Jvm.Cond.classLink "FractionPoolLaw" (42 : Nat) "java/lang/IllegalArgumentException" ∈ lw_tbl := mt_4 _ (List.mem_of_getElem? (i := 186) rfl)
theorem mw_907 : Jvm.Cond.methodLink "FractionPoolLaw" (39 : Nat) ({ cls := "FractionPool", name := "power", desc := "(III)I" } : Jvm.MethodName) ∈ lw_tbl := mt_4 _ (List.mem_of_getElem? (i := 187) rfl)
theorem mw_908 : Jvm.Cond.instanceMethod ({ cls := "FractionPool", name := "power", desc := "(III)I" } : Jvm.MethodName) ∈ lw_tbl := mt_4 _ (List.mem_of_getElem? (i := 188) rfl)
theorem mw_909 : Jvm.Cond.selects "FractionPool" ({ cls := "FractionPool", name := "power", desc := "(III)I" } : Jvm.MethodName) ({ cls := "FractionPool", name := "power", desc := "(III)I" } : Jvm.MethodName) ∈ lw_tbl := mt_4 _ (List.mem_of_getElem? (i := 189) rfl)
theorem mw_910 : Jvm.Cond.code ({ cls := "FractionPool", name := "power", desc := "(III)I" } : Jvm.MethodName) prog_1_method_9_code (5 : Nat) (Option.some Jvm.ClassFile.FieldType.int) ∈ lw_tbl := mt_4 _ (List.mem_of_getElem? (i := 190) rfl)
theorem mw_911 : Jvm.Cond.classLink "FractionPool" (139 : Nat) "java/lang/IllegalArgumentException" ∈ lw_tbl := mt_4 _ (List.mem_of_getElem? (i := 191) rfl)
theorem mw_912 : Jvm.Cond.stringRef "FractionPool" (141 : Nat) "the exponent is not -1000 .. 1000" ∈ lw_tbl := mt_4 _ (List.mem_of_getElem? (i := 192) rfl)
theorem mw_913 : Jvm.Cond.methodLink "FractionPool" (143 : Nat) ({ cls := "java/lang/IllegalArgumentException", name := "<init>", desc := "(Ljava/lang/String;)V" } : Jvm.MethodName) ∈ lw_tbl := mt_4 _ (List.mem_of_getElem? (i := 193) rfl)
theorem mw_914 : Jvm.Cond.stringRef "FractionPool" (144 : Nat) "a power of 0 below 0" ∈ lw_tbl := mt_4 _ (List.mem_of_getElem? (i := 194) rfl)
theorem mw_915 : Jvm.Cond.methodLink "FractionPool" (146 : Nat) ({ cls := "java/lang/Math", name := "abs", desc := "(I)I" } : Jvm.MethodName) ∈ lw_tbl := mt_4 _ (List.mem_of_getElem? (i := 195) rfl)
theorem mw_916 : Jvm.Cond.static ({ cls := "java/lang/Math", name := "abs", desc := "(I)I" } : Jvm.MethodName) ∈ lw_tbl := mt_4 _ (List.mem_of_getElem? (i := 196) rfl)
theorem mw_917 : Jvm.Cond.code ({ cls := "java/lang/Math", name := "abs", desc := "(I)I" } : Jvm.MethodName) prog_20_method_59_code (1 : Nat) (Option.some Jvm.ClassFile.FieldType.int) ∈ lw_tbl := mt_4 _ (List.mem_of_getElem? (i := 197) rfl)
theorem mw_918 : Jvm.Cond.methodLink "FractionPool" (148 : Nat) ({ cls := "FractionPool$Bench", name := "raise", desc := "(LFractionPool$Whole;LFractionPool$Whole;II)Z" } : Jvm.MethodName) ∈ lw_tbl := mt_4 _ (List.mem_of_getElem? (i := 198) rfl)
theorem mw_919 : Jvm.Cond.instanceMethod ({ cls := "FractionPool$Bench", name := "raise", desc := "(LFractionPool$Whole;LFractionPool$Whole;II)Z" } : Jvm.MethodName) ∈ lw_tbl := mt_4 _ (List.mem_of_getElem? (i := 199) rfl)
theorem mw_920 : Jvm.Cond.selects "FractionPool$Bench" ({ cls := "FractionPool$Bench", name := "raise", desc := "(LFractionPool$Whole;LFractionPool$Whole;II)Z" } : Jvm.MethodName) ({ cls := "FractionPool$Bench", name := "raise", desc := "(LFractionPool$Whole;LFractionPool$Whole;II)Z" } : Jvm.MethodName) ∈ lw_tbl := mt_4 _ (List.mem_of_getElem? (i := 200) rfl)
theorem mw_921 : Jvm.Cond.code ({ cls := "FractionPool$Bench", name := "raise", desc := "(LFractionPool$Whole;LFractionPool$Whole;II)Z" } : Jvm.MethodName) prog_2_method_7_code (6 : Nat) (Option.some Jvm.ClassFile.FieldType.boolean) ∈ lw_tbl := mt_4 _ (List.mem_of_getElem? (i := 201) rfl)
theorem mw_922 : Jvm.Cond.methodLink "FractionPool$Bench" (82 : Nat) ({ cls := "FractionPool$Whole", name := "bits", desc := "()I" } : Jvm.MethodName) ∈ lw_tbl := mt_4 _ (List.mem_of_getElem? (i := 202) rfl)
theorem mw_923 : Jvm.Cond.methodLink "FractionPool$Bench" (86 : Nat) ({ cls := "FractionPool$Whole", name := "becomeLong", desc := "(J)V" } : Jvm.MethodName) ∈ lw_tbl := mt_4 _ (List.mem_of_getElem? (i := 203) rfl)
theorem mw_924 : Jvm.Cond.methodLink "FractionPool$Bench" (90 : Nat) ({ cls := "java/lang/Integer", name := "numberOfLeadingZeros", desc := "(I)I" } : Jvm.MethodName) ∈ lw_tbl := mt_4 _ (List.mem_of_getElem? (i := 204) rfl)
theorem mw_925 : Jvm.Cond.classLink "FractionPool" (152 : Nat) "java/lang/UnsupportedOperationException" ∈ lw_tbl := mt_4 _ (List.mem_of_getElem? (i := 205) rfl)
theorem mw_926 : Jvm.Cond.stringRef "FractionPool" (154 : Nat) "the power alone is beyond the room" ∈ lw_tbl := mt_4 _ (List.mem_of_getElem? (i := 206) rfl)
theorem mw_927 : Jvm.Cond.methodLink "FractionPool" (156 : Nat) ({ cls := "java/lang/UnsupportedOperationException", name := "<init>", desc := "(Ljava/lang/String;)V" } : Jvm.MethodName) ∈ lw_tbl := mt_4 _ (List.mem_of_getElem? (i := 207) rfl)
theorem mw_928 : Jvm.Cond.methodLink "FractionPool" (157 : Nat) ({ cls := "FractionPool", name := "signOfPower", desc := "(II)I" } : Jvm.MethodName) ∈ lw_tbl := mt_4 _ (List.mem_of_getElem? (i := 208) rfl)
theorem mw_929 : Jvm.Cond.static ({ cls := "FractionPool", name := "signOfPower", desc := "(II)I" } : Jvm.MethodName) ∈ lw_tbl := mt_4 _ (List.mem_of_getElem? (i := 209) rfl)
theorem mw_930 : Jvm.Cond.code ({ cls := "FractionPool", name := "signOfPower", desc := "(II)I" } : Jvm.MethodName) prog_1_method_27_code (2 : Nat) (Option.some Jvm.ClassFile.FieldType.int) ∈ lw_tbl := mt_4 _ (List.mem_of_getElem? (i := 210) rfl)
theorem mw_931 : Jvm.Cond.methodLink "FractionPoolLaw" (123 : Nat) ({ cls := "FractionPoolLaw", name := "dot", desc := "(LFractionPool;IIII[J)I" } : Jvm.MethodName) ∈ lw_tbl := mt_4 _ (List.mem_of_getElem? (i := 211) rfl)
theorem mw_932 : Jvm.Cond.static ({ cls := "FractionPoolLaw", name := "dot", desc := "(LFractionPool;IIII[J)I" } : Jvm.MethodName) ∈ lw_tbl := mt_4 _ (List.mem_of_getElem? (i := 212) rfl)
theorem mw_933 : Jvm.Cond.codeWith ({ cls := "FractionPoolLaw", name := "dot", desc := "(LFractionPool;IIII[J)I" } : Jvm.MethodName) method_11_code (7 : Nat) (Option.some Jvm.ClassFile.FieldType.int) [((0 : Nat), (14 : Nat), (17 : Nat), (13 : Nat)), ((0 : Nat), (14 : Nat), (21 : Nat), (42 : Nat)), ((0 : Nat), (14 : Nat), (25 : Nat), (17 : Nat))] ∈ lw_tbl := mt_4 _ (List.mem_of_getElem? (i := 213) rfl)
theorem mw_934 : Jvm.Cond.methodLink "FractionPoolLaw" (44 : Nat) ({ cls := "FractionPool", name := "dot", desc := "(IIII)I" } : Jvm.MethodName) ∈ lw_tbl := mt_4 _ (List.mem_of_getElem? (i := 214) rfl)
theorem mw_935 : Jvm.Cond.instanceMethod ({ cls := "FractionPool", name := "dot", desc := "(IIII)I" } : Jvm.MethodName) ∈ lw_tbl := mt_4 _ (List.mem_of_getElem? (i := 215) rfl)
theorem mw_936 : Jvm.Cond.selects "FractionPool" ({ cls := "FractionPool", name := "dot", desc := "(IIII)I" } : Jvm.MethodName) ({ cls := "FractionPool", name := "dot", desc := "(IIII)I" } : Jvm.MethodName) ∈ lw_tbl := mt_4 _ (List.mem_of_getElem? (i := 216) rfl)
theorem mw_937 : Jvm.Cond.code ({ cls := "FractionPool", name := "dot", desc := "(IIII)I" } : Jvm.MethodName) prog_1_method_10_code (7 : Nat) (Option.some Jvm.ClassFile.FieldType.int) ∈ lw_tbl := mt_4 _ (List.mem_of_getElem? (i := 217) rfl)
theorem mw_938 : Jvm.Cond.stringRef "FractionPool" (163 : Nat) "the products go beyond the last register" ∈ lw_tbl := mt_4 _ (List.mem_of_getElem? (i := 218) rfl)
theorem mw_939 : Jvm.Cond.stringRef "FractionPool" (166 : Nat) "fewer than 0 products" ∈ lw_tbl := mt_4 _ (List.mem_of_getElem? (i := 219) rfl)
theorem mw_940 : Jvm.Cond.methodLink "FractionPool" (168 : Nat) ({ cls := "FractionPool$Ratio", name := "becomeZero", desc := "()V" } : Jvm.MethodName) ∈ lw_tbl := mt_4 _ (List.mem_of_getElem? (i := 220) rfl)
theorem mw_941 : Jvm.Cond.instanceMethod ({ cls := "FractionPool$Ratio", name := "becomeZero", desc := "()V" } : Jvm.MethodName) ∈ lw_tbl := mt_4 _ (List.mem_of_getElem? (i := 221) rfl)
theorem mw_942 : Jvm.Cond.selects "FractionPool$Ratio" ({ cls := "FractionPool$Ratio", name := "becomeZero", desc := "()V" } : Jvm.MethodName) ({ cls := "FractionPool$Ratio", name := "becomeZero", desc := "()V" } : Jvm.MethodName) ∈ lw_tbl := mt_4 _ (List.mem_of_getElem? (i := 222) rfl)
theorem mw_943 : Jvm.Cond.code ({ cls := "FractionPool$Ratio", name := "becomeZero", desc := "()V" } : Jvm.MethodName) prog_5_method_2_code (1 : Nat) (Option.none : Option Jvm.ClassFile.FieldType) ∈ lw_tbl := mt_4 _ (List.mem_of_getElem? (i := 223) rfl)
theorem mw_944 : Jvm.Cond.methodLink "FractionPool$Ratio" (25 : Nat) ({ cls := "FractionPool$Whole", name := "becomeLong", desc := "(J)V" } : Jvm.MethodName) ∈ lw_tbl := mt_4 _ (List.mem_of_getElem? (i := 224) rfl)
theorem mw_945 : Jvm.Cond.methodLink "FractionPoolLaw" (127 : Nat) ({ cls := "FractionPoolLaw", name := "floor", desc := "(LFractionPool;II[J)I" } : Jvm.MethodName) ∈ lw_tbl := mt_4 _ (List.mem_of_getElem? (i := 225) rfl)
theorem mw_946 : Jvm.Cond.static ({ cls := "FractionPoolLaw", name := "floor", desc := "(LFractionPool;II[J)I" } : Jvm.MethodName) ∈ lw_tbl := mt_4 _ (List.mem_of_getElem? (i := 226) rfl)
theorem mw_947 : Jvm.Cond.codeWith ({ cls := "FractionPoolLaw", name := "floor", desc := "(LFractionPool;II[J)I" } : Jvm.MethodName) method_12_code (5 : Nat) (Option.some Jvm.ClassFile.FieldType.int) [((0 : Nat), (10 : Nat), (13 : Nat), (13 : Nat)), ((0 : Nat), (10 : Nat), (17 : Nat), (17 : Nat))] ∈ lw_tbl := mt_4 _ (List.mem_of_getElem? (i := 227) rfl)
theorem mw_948 : Jvm.Cond.methodLink "FractionPoolLaw" (48 : Nat) ({ cls := "FractionPool", name := "floor", desc := "(II)I" } : Jvm.MethodName) ∈ lw_tbl := mt_4 _ (List.mem_of_getElem? (i := 228) rfl)
theorem mw_949 : Jvm.Cond.instanceMethod ({ cls := "FractionPool", name := "floor", desc := "(II)I" } : Jvm.MethodName) ∈ lw_tbl := mt_4 _ (List.mem_of_getElem? (i := 229) rfl)
theorem mw_950 : Jvm.Cond.selects "FractionPool" ({ cls := "FractionPool", name := "floor", desc := "(II)I" } : Jvm.MethodName) ({ cls := "FractionPool", name := "floor", desc := "(II)I" } : Jvm.MethodName) ∈ lw_tbl := mt_4 _ (List.mem_of_getElem? (i := 230) rfl)
theorem mw_951 : Jvm.Cond.code ({ cls := "FractionPool", name := "floor", desc := "(II)I" } : Jvm.MethodName) prog_1_method_11_code (3 : Nat) (Option.some Jvm.ClassFile.FieldType.int) ∈ lw_tbl := mt_4 _ (List.mem_of_getElem? (i := 231) rfl)
theorem mw_952 : Jvm.Cond.methodLink "FractionPool" (171 : Nat) ({ cls := "FractionPool$Whole", name := "divideBy", desc := "(LFractionPool$Whole;LFractionPool$Whole;)V" } : Jvm.MethodName) ∈ lw_tbl := mt_4 _ (List.mem_of_getElem? (i := 232) rfl)
theorem mw_953 : Jvm.Cond.methodLink "FractionPool" (177 : Nat) ({ cls := "FractionPool$Whole", name := "scale", desc := "(II)V" } : Jvm.MethodName) ∈ lw_tbl := mt_4 _ (List.mem_of_getElem? (i := 233) rfl)
theorem mw_954 : Jvm.Cond.instanceMethod ({ cls := "FractionPool$Whole", name := "scale", desc := "(II)V" } : Jvm.MethodName) ∈ lw_tbl := mt_4 _ (List.mem_of_getElem? (i := 234) rfl)
theorem mw_955 : Jvm.Cond.selects "FractionPool$Whole" ({ cls := "FractionPool$Whole", name := "scale", desc := "(II)V" } : Jvm.MethodName) ({ cls := "FractionPool$Whole", name := "scale", desc := "(II)V" } : Jvm.MethodName) ∈ lw_tbl := mt_4 _ (List.mem_of_getElem? (i := 235) rfl)
theorem mw_956 : Jvm.Cond.code ({ cls := "FractionPool$Whole", name := "scale", desc := "(II)V" } : Jvm.MethodName) prog_8_method_19_code (6 : Nat) (Option.none : Option Jvm.ClassFile.FieldType) ∈ lw_tbl := mt_4 _ (List.mem_of_getElem? (i := 236) rfl)
theorem mw_957 : Jvm.Cond.methodLink "FractionPoolLaw" (130 : Nat) ({ cls := "FractionPoolLaw", name := "round", desc := "(LFractionPool;III[J)I" } : Jvm.MethodName) ∈ lw_tbl := mt_4 _ (List.mem_of_getElem? (i := 237) rfl)
theorem mw_958 : Jvm.Cond.static ({ cls := "FractionPoolLaw", name := "round", desc := "(LFractionPool;III[J)I" } : Jvm.MethodName) ∈ lw_tbl := mt_4 _ (List.mem_of_getElem? (i := 238) rfl)
theorem mw_959 : Jvm.Cond.codeWith ({ cls := "FractionPoolLaw", name := "round", desc := "(LFractionPool;III[J)I" } : Jvm.MethodName) method_13_code (6 : Nat) (Option.some Jvm.ClassFile.FieldType.int) [((0 : Nat), (12 : Nat), (15 : Nat), (13 : Nat)), ((0 : Nat), (12 : Nat), (19 : Nat), (42 : Nat)), ((0 : Nat), (12 : Nat), (23 : Nat), (17 : Nat))] ∈ lw_tbl := mt_4 _ (List.mem_of_getElem? (i := 239) rfl)
theorem mw_960 : Jvm.Cond.methodLink "FractionPoolLaw" (51 : Nat) ({ cls := "FractionPool", name := "round", desc := "(III)I" } : Jvm.MethodName) ∈ lw_tbl := mt_5 _ (List.mem_of_getElem? (i := 0) rfl)
theorem mw_961 : Jvm.Cond.instanceMethod ({ cls := "FractionPool", name := "round", desc := "(III)I" } : Jvm.MethodName) ∈ lw_tbl := mt_5 _ (List.mem_of_getElem? (i := 1) rfl)
theorem mw_962 : Jvm.Cond.selects "FractionPool" ({ cls := "FractionPool", name := "round", desc := "(III)I" } : Jvm.MethodName) ({ cls := "FractionPool", name := "round", desc := "(III)I" } : Jvm.MethodName) ∈ lw_tbl := mt_5 _ (List.mem_of_getElem? (i := 2) rfl)
theorem mw_963 : Jvm.Cond.code ({ cls := "FractionPool", name := "round", desc := "(III)I" } : Jvm.MethodName) prog_1_method_12_code (4 : Nat) (Option.some Jvm.ClassFile.FieldType.int) ∈ lw_tbl := mt_5 _ (List.mem_of_getElem? (i := 3) rfl)
theorem mw_964 : Jvm.Cond.stringRef "FractionPool" (180 : Nat) "the bits are not 1 .. 1024" ∈ lw_tbl := mt_5 _ (List.mem_of_getElem? (i := 4) rfl)
theorem mw_965 : Jvm.Cond.methodLink "FractionPool" (182 : Nat) ({ cls := "FractionPool$Bench", name := "exponentOf", desc := "(LFractionPool$Ratio;)I" } : Jvm.MethodName) ∈ lw_tbl := mt_5 _ (List.mem_of_getElem? (i := 5) rfl)
theorem mw_966 : Jvm.Cond.instanceMethod ({ cls := "FractionPool$Bench", name := "exponentOf", desc := "(LFractionPool$Ratio;)I" } : Jvm.MethodName) ∈ lw_tbl := mt_5 _ (List.mem_of_getElem? (i := 6) rfl)
theorem mw_967 : Jvm.Cond.selects "FractionPool$Bench" ({ cls := "FractionPool$Bench", name := "exponentOf", desc := "(LFractionPool$Ratio;)I" } : Jvm.MethodName) ({ cls := "FractionPool$Bench", name := "exponentOf", desc := "(LFractionPool$Ratio;)I" } : Jvm.MethodName) ∈ lw_tbl := mt_5 _ (List.mem_of_getElem? (i := 7) rfl)
theorem mw_968 : Jvm.Cond.code ({ cls := "FractionPool$Bench", name := "exponentOf", desc := "(LFractionPool$Ratio;)I" } : Jvm.MethodName) prog_2_method_8_code (4 : Nat) (Option.some Jvm.ClassFile.FieldType.int) ∈ lw_tbl := mt_5 _ (List.mem_of_getElem? (i := 8) rfl)
theorem mw_969 : Jvm.Cond.methodLink "FractionPool$Bench" (96 : Nat) ({ cls := "java/lang/Math", name := "abs", desc := "(I)I" } : Jvm.MethodName) ∈ lw_tbl := mt_5 _ (List.mem_of_getElem? (i := 9) rfl)
theorem mw_970 : Jvm.Cond.methodLink "FractionPool$Bench" (101 : Nat) ({ cls := "FractionPool$Whole", name := "shiftUp", desc := "(I)V" } : Jvm.MethodName) ∈ lw_tbl := mt_5 _ (List.mem_of_getElem? (i := 10) rfl)
theorem mw_971 : Jvm.Cond.methodLink "FractionPool" (186 : Nat) ({ cls := "FractionPool$Bench", name := "nearestMultiple", desc := "(LFractionPool$Ratio;LFractionPool$Ratio;I)V" } : Jvm.MethodName) ∈ lw_tbl := mt_5 _ (List.mem_of_getElem? (i := 11) rfl)
theorem mw_972 : Jvm.Cond.instanceMethod ({ cls := "FractionPool$Bench", name := "nearestMultiple", desc := "(LFractionPool$Ratio;LFractionPool$Ratio;I)V" } : Jvm.MethodName) ∈ lw_tbl := mt_5 _ (List.mem_of_getElem? (i := 12) rfl)
theorem mw_973 : Jvm.Cond.selects "FractionPool$Bench" ({ cls := "FractionPool$Bench", name := "nearestMultiple", desc := "(LFractionPool$Ratio;LFractionPool$Ratio;I)V" } : Jvm.MethodName) ({ cls := "FractionPool$Bench", name := "nearestMultiple", desc := "(LFractionPool$Ratio;LFractionPool$Ratio;I)V" } : Jvm.MethodName) ∈ lw_tbl := mt_5 _ (List.mem_of_getElem? (i := 13) rfl)
theorem mw_974 : Jvm.Cond.code ({ cls := "FractionPool$Bench", name := "nearestMultiple", desc := "(LFractionPool$Ratio;LFractionPool$Ratio;I)V" } : Jvm.MethodName) prog_2_method_9_code (5 : Nat) (Option.none : Option Jvm.ClassFile.FieldType) ∈ lw_tbl := mt_5 _ (List.mem_of_getElem? (i := 14) rfl)
theorem mw_975 : Jvm.Cond.methodLink "FractionPool$Bench" (104 : Nat) ({ cls := "FractionPool$Whole", name := "isOdd", desc := "()Z" } : Jvm.MethodName) ∈ lw_tbl := mt_5 _ (List.mem_of_getElem? (i := 15) rfl)
theorem mw_976 : Jvm.Cond.instanceMethod ({ cls := "FractionPool$Whole", name := "isOdd", desc := "()Z" } : Jvm.MethodName) ∈ lw_tbl := mt_5 _ (List.mem_of_getElem? (i := 16) rfl)
theorem mw_977 : Jvm.Cond.selects "FractionPool$Whole" ({ cls := "FractionPool$Whole", name := "isOdd", desc := "()Z" } : Jvm.MethodName) ({ cls := "FractionPool$Whole", name := "isOdd", desc := "()Z" } : Jvm.MethodName) ∈ lw_tbl := mt_5 _ (List.mem_of_getElem? (i := 17) rfl)
theorem mw_978 : Jvm.Cond.code ({ cls := "FractionPool$Whole", name := "isOdd", desc := "()Z" } : Jvm.MethodName) prog_8_method_6_code (1 : Nat) (Option.some Jvm.ClassFile.FieldType.boolean) ∈ lw_tbl := mt_5 _ (List.mem_of_getElem? (i := 18) rfl)
theorem mw_979 : Jvm.Cond.methodLink "FractionPool$Bench" (107 : Nat) ({ cls := "FractionPool$Whole", name := "scale", desc := "(II)V" } : Jvm.MethodName) ∈ lw_tbl := mt_5 _ (List.mem_of_getElem? (i := 19) rfl)
theorem mw_980 : Jvm.Cond.methodLink "FractionPool$Bench" (111 : Nat) ({ cls := "FractionPool$Ratio", name := "becomeMultiple", desc := "(LFractionPool$Whole;I)V" } : Jvm.MethodName) ∈ lw_tbl := mt_5 _ (List.mem_of_getElem? (i := 20) rfl)
theorem mw_981 : Jvm.Cond.instanceMethod ({ cls := "FractionPool$Ratio", name := "becomeMultiple", desc := "(LFractionPool$Whole;I)V" } : Jvm.MethodName) ∈ lw_tbl := mt_5 _ (List.mem_of_getElem? (i := 21) rfl)
theorem mw_982 : Jvm.Cond.selects "FractionPool$Ratio" ({ cls := "FractionPool$Ratio", name := "becomeMultiple", desc := "(LFractionPool$Whole;I)V" } : Jvm.MethodName) ({ cls := "FractionPool$Ratio", name := "becomeMultiple", desc := "(LFractionPool$Whole;I)V" } : Jvm.MethodName) ∈ lw_tbl := mt_5 _ (List.mem_of_getElem? (i := 22) rfl)
theorem mw_983 : Jvm.Cond.code ({ cls := "FractionPool$Ratio", name := "becomeMultiple", desc := "(LFractionPool$Whole;I)V" } : Jvm.MethodName) prog_5_method_4_code (4 : Nat) (Option.none : Option Jvm.ClassFile.FieldType) ∈ lw_tbl := mt_5 _ (List.mem_of_getElem? (i := 23) rfl)
theorem mw_984 : Jvm.Cond.methodLink "FractionPool$Ratio" (29 : Nat) ({ cls := "FractionPool$Whole", name := "become", desc := "(LFractionPool$Whole;)V" } : Jvm.MethodName) ∈ lw_tbl := mt_5 _ (List.mem_of_getElem? (i := 24) rfl)
theorem mw_985 : Jvm.Cond.methodLink "FractionPool$Ratio" (33 : Nat) ({ cls := "FractionPool$Whole", name := "shiftUp", desc := "(I)V" } : Jvm.MethodName) ∈ lw_tbl := mt_5 _ (List.mem_of_getElem? (i := 25) rfl)
theorem mw_986 : Jvm.Cond.methodLink "FractionPool$Ratio" (39 : Nat) ({ cls := "FractionPool$Whole", name := "lowZeros", desc := "()I" } : Jvm.MethodName) ∈ lw_tbl := mt_5 _ (List.mem_of_getElem? (i := 26) rfl)
theorem mw_987 : Jvm.Cond.instanceMethod ({ cls := "FractionPool$Whole", name := "lowZeros", desc := "()I" } : Jvm.MethodName) ∈ lw_tbl := mt_5 _ (List.mem_of_getElem? (i := 27) rfl)
theorem mw_988 : Jvm.Cond.selects "FractionPool$Whole" ({ cls := "FractionPool$Whole", name := "lowZeros", desc := "()I" } : Jvm.MethodName) ({ cls := "FractionPool$Whole", name := "lowZeros", desc := "()I" } : Jvm.MethodName) ∈ lw_tbl := mt_5 _ (List.mem_of_getElem? (i := 28) rfl)
theorem mw_989 : Jvm.Cond.code ({ cls := "FractionPool$Whole", name := "lowZeros", desc := "()I" } : Jvm.MethodName) prog_8_method_9_code (2 : Nat) (Option.some Jvm.ClassFile.FieldType.int) ∈ lw_tbl := mt_5 _ (List.mem_of_getElem? (i := 29) rfl)
theorem mw_990 : Jvm.Cond.methodLink "FractionPool$Whole" (50 : Nat) ({ cls := "java/lang/Integer", name := "numberOfTrailingZeros", desc := "(I)I" } : Jvm.MethodName) ∈ lw_tbl := mt_5 _ (List.mem_of_getElem? (i := 30) rfl)
theorem mw_991 : Jvm.Cond.static ({ cls := "java/lang/Integer", name := "numberOfTrailingZeros", desc := "(I)I" } : Jvm.MethodName) ∈ lw_tbl := mt_5 _ (List.mem_of_getElem? (i := 31) rfl)
theorem mw_992 : Jvm.Cond.code ({ cls := "java/lang/Integer", name := "numberOfTrailingZeros", desc := "(I)I" } : Jvm.MethodName) prog_18_method_48_code (2 : Nat) (Option.some Jvm.ClassFile.FieldType.int) ∈ lw_tbl := mt_5 _ (List.mem_of_getElem? (i := 32) rfl)
theorem mw_993 : Jvm.Cond.methodLink "FractionPool$Ratio" (43 : Nat) ({ cls := "java/lang/Math", name := "min", desc := "(II)I" } : Jvm.MethodName) ∈ lw_tbl := mt_5 _ (List.mem_of_getElem? (i := 33) rfl)
theorem mw_994 : Jvm.Cond.methodLink "FractionPool$Ratio" (49 : Nat) ({ cls := "FractionPool$Whole", name := "shiftDown", desc := "(I)V" } : Jvm.MethodName) ∈ lw_tbl := mt_5 _ (List.mem_of_getElem? (i := 34) rfl)
theorem mw_995 : Jvm.Cond.methodLink "FractionPoolLaw" (133 : Nat) ({ cls := "FractionPoolLaw", name := "align", desc := "(LFractionPool;III[J)I" } : Jvm.MethodName) ∈ lw_tbl := mt_5 _ (List.mem_of_getElem? (i := 35) rfl)
theorem mw_996 : Jvm.Cond.static ({ cls := "FractionPoolLaw", name := "align", desc := "(LFractionPool;III[J)I" } : Jvm.MethodName) ∈ lw_tbl := mt_5 _ (List.mem_of_getElem? (i := 36) rfl)
theorem mw_997 : Jvm.Cond.codeWith ({ cls := "FractionPoolLaw", name := "align", desc := "(LFractionPool;III[J)I" } : Jvm.MethodName) method_14_code (6 : Nat) (Option.some Jvm.ClassFile.FieldType.int) [((0 : Nat), (12 : Nat), (15 : Nat), (13 : Nat)), ((0 : Nat), (12 : Nat), (19 : Nat), (42 : Nat)), ((0 : Nat), (12 : Nat), (23 : Nat), (17 : Nat))] ∈ lw_tbl := mt_5 _ (List.mem_of_getElem? (i := 37) rfl)
theorem mw_998 : Jvm.Cond.methodLink "FractionPoolLaw" (54 : Nat) ({ cls := "FractionPool", name := "align", desc := "(III)I" } : Jvm.MethodName) ∈ lw_tbl := mt_5 _ (List.mem_of_getElem? (i := 38) rfl)
theorem mw_999 : Jvm.Cond.instanceMethod ({ cls := "FractionPool", name := "align", desc := "(III)I" } : Jvm.MethodName) ∈ lw_tbl := mt_5 _ (List.mem_of_getElem? (i := 39) rfl)
theorem mw_1000 : Jvm.Cond.selects "FractionPool" ({ cls := "FractionPool", name := "align", desc := "(III)I" } : Jvm.MethodName) ({ cls := "FractionPool", name := "align", desc := "(III)I" } : Jvm.MethodName) ∈ lw_tbl := mt_5 _ (List.mem_of_getElem? (i := 40) rfl)
theorem mw_1001 : Jvm.Cond.code ({ cls := "FractionPool", name := "align", desc := "(III)I" } : Jvm.MethodName) prog_1_method_13_code (4 : Nat) (Option.some Jvm.ClassFile.FieldType.int) ∈ lw_tbl := mt_5 _ (List.mem_of_getElem? (i := 41) rfl)
theorem mw_1002 : Jvm.Cond.stringRef "FractionPool" (190 : Nat) "the exponent is not -4000 .. 4000" ∈ lw_tbl := mt_5 _ (List.mem_of_getElem? (i := 42) rfl)
theorem mw_1003 : Jvm.Cond.methodLink "FractionPoolLaw" (136 : Nat) ({ cls := "FractionPoolLaw", name := "compare", desc := "(LFractionPool;II[J)I" } : Jvm.MethodName) ∈ lw_tbl := mt_5 _ (List.mem_of_getElem? (i := 43) rfl)
theorem mw_1004 : Jvm.Cond.static ({ cls := "FractionPoolLaw", name := "compare", desc := "(LFractionPool;II[J)I" } : Jvm.MethodName) ∈ lw_tbl := mt_5 _ (List.mem_of_getElem? (i := 44) rfl)
theorem mw_1005 : Jvm.Cond.codeWith ({ cls := "FractionPoolLaw", name := "compare", desc := "(LFractionPool;II[J)I" } : Jvm.MethodName) method_15_code (5 : Nat) (Option.some Jvm.ClassFile.FieldType.int) [((0 : Nat), (10 : Nat), (13 : Nat), (13 : Nat))] ∈ lw_tbl := mt_5 _ (List.mem_of_getElem? (i := 45) rfl)
theorem mw_1006 : Jvm.Cond.methodLink "FractionPoolLaw" (57 : Nat) ({ cls := "FractionPool", name := "compare", desc := "(II)I" } : Jvm.MethodName) ∈ lw_tbl := mt_5 _ (List.mem_of_getElem? (i := 46) rfl)
theorem mw_1007 : Jvm.Cond.instanceMethod ({ cls := "FractionPool", name := "compare", desc := "(II)I" } : Jvm.MethodName) ∈ lw_tbl := mt_5 _ (List.mem_of_getElem? (i := 47) rfl)
theorem mw_1008 : Jvm.Cond.selects "FractionPool" ({ cls := "FractionPool", name := "compare", desc := "(II)I" } : Jvm.MethodName) ({ cls := "FractionPool", name := "compare", desc := "(II)I" } : Jvm.MethodName) ∈ lw_tbl := mt_5 _ (List.mem_of_getElem? (i := 48) rfl)
theorem mw_1009 : Jvm.Cond.code ({ cls := "FractionPool", name := "compare", desc := "(II)I" } : Jvm.MethodName) prog_1_method_14_code (3 : Nat) (Option.some Jvm.ClassFile.FieldType.int) ∈ lw_tbl := mt_5 _ (List.mem_of_getElem? (i := 49) rfl)
theorem mw_1010 : Jvm.Cond.methodLink "FractionPool" (192 : Nat) ({ cls := "java/lang/Integer", name := "compare", desc := "(II)I" } : Jvm.MethodName) ∈ lw_tbl := mt_5 _ (List.mem_of_getElem? (i := 50) rfl)
theorem mw_1011 : Jvm.Cond.static ({ cls := "java/lang/Integer", name := "compare", desc := "(II)I" } : Jvm.MethodName) ∈ lw_tbl := mt_5 _ (List.mem_of_getElem? (i := 51) rfl)
theorem mw_1012 : Jvm.Cond.code ({ cls := "java/lang/Integer", name := "compare", desc := "(II)I" } : Jvm.MethodName) prog_18_method_40_code (2 : Nat) (Option.some Jvm.ClassFile.FieldType.int) ∈ lw_tbl := mt_5 _ (List.mem_of_getElem? (i := 52) rfl)
theorem mw_1013 : Jvm.Cond.methodLink "FractionPool" (197 : Nat) ({ cls := "FractionPool$Whole", name := "productOf", desc := "(LFractionPool$Whole;LFractionPool$Whole;)V" } : Jvm.MethodName) ∈ lw_tbl := mt_5 _ (List.mem_of_getElem? (i := 53) rfl)
theorem mw_1014 : Jvm.Cond.methodLink "FractionPool" (199 : Nat) ({ cls := "FractionPool$Whole", name := "against", desc := "(LFractionPool$Whole;)I" } : Jvm.MethodName) ∈ lw_tbl := mt_5 _ (List.mem_of_getElem? (i := 54) rfl)
theorem mw_1015 : Jvm.Cond.methodLink "FractionPoolLaw" (139 : Nat) ({ cls := "FractionPoolLaw", name := "sign", desc := "(LFractionPool;I[J)I" } : Jvm.MethodName) ∈ lw_tbl := mt_5 _ (List.mem_of_getElem? (i := 55) rfl)
theorem mw_1016 : Jvm.Cond.static ({ cls := "FractionPoolLaw", name := "sign", desc := "(LFractionPool;I[J)I" } : Jvm.MethodName) ∈ lw_tbl := mt_5 _ (List.mem_of_getElem? (i := 56) rfl)
theorem mw_1017 : Jvm.Cond.codeWith ({ cls := "FractionPoolLaw", name := "sign", desc := "(LFractionPool;I[J)I" } : Jvm.MethodName) method_16_code (4 : Nat) (Option.some Jvm.ClassFile.FieldType.int) [((0 : Nat), (9 : Nat), (12 : Nat), (13 : Nat))] ∈ lw_tbl := mt_5 _ (List.mem_of_getElem? (i := 57) rfl)
theorem mw_1018 : Jvm.Cond.methodLink "FractionPoolLaw" (60 : Nat) ({ cls := "FractionPool", name := "sign", desc := "(I)I" } : Jvm.MethodName) ∈ lw_tbl := mt_5 _ (List.mem_of_getElem? (i := 58) rfl)
theorem mw_1019 : Jvm.Cond.instanceMethod ({ cls := "FractionPool", name := "sign", desc := "(I)I" } : Jvm.MethodName) ∈ lw_tbl := mt_5 _ (List.mem_of_getElem? (i := 59) rfl)
theorem mw_1020 : Jvm.Cond.selects "FractionPool" ({ cls := "FractionPool", name := "sign", desc := "(I)I" } : Jvm.MethodName) ({ cls := "FractionPool", name := "sign", desc := "(I)I" } : Jvm.MethodName) ∈ lw_tbl := mt_5 _ (List.mem_of_getElem? (i := 60) rfl)
theorem mw_1021 : Jvm.Cond.code ({ cls := "FractionPool", name := "sign", desc := "(I)I" } : Jvm.MethodName) prog_1_method_15_code (2 : Nat) (Option.some Jvm.ClassFile.FieldType.int) ∈ lw_tbl := mt_5 _ (List.mem_of_getElem? (i := 61) rfl)
theorem mw_1022 : Jvm.Cond.methodLink "FractionPool" (203 : Nat) ({ cls := "FractionPool$Registers", name := "signOf", desc := "(I)I" } : Jvm.MethodName) ∈ lw_tbl := mt_5 _ (List.mem_of_getElem? (i := 62) rfl)
theorem mw_1023 : Jvm.Cond.instanceMethod ({ cls := "FractionPool$Registers", name := "signOf", desc := "(I)I" } : Jvm.MethodName) ∈ lw_tbl := mt_5 _ (List.mem_of_getElem? (i := 63) rfl)
theorem mw_1024 : Jvm.Cond.selects "FractionPool$Registers" ({ cls := "FractionPool$Registers", name := "signOf", desc := "(I)I" } : Jvm.MethodName) ({ cls := "FractionPool$Registers", name := "signOf", desc := "(I)I" } : Jvm.MethodName) ∈ lw_tbl := mt_5 _ (List.mem_of_getElem? (i := 64) rfl)
theorem mw_1025 : Jvm.Cond.code ({ cls := "FractionPool$Registers", name := "signOf", desc := "(I)I" } : Jvm.MethodName) prog_6_method_3_code (2 : Nat) (Option.some Jvm.ClassFile.FieldType.int) ∈ lw_tbl := mt_5 _ (List.mem_of_getElem? (i := 65) rfl)
theorem mw_1026 : Jvm.Cond.methodLink "FractionPoolLaw" (143 : Nat) ({ cls := "FractionPoolLaw", name := "length", desc := "(LFractionPool;IZ[J)I" } : Jvm.MethodName) ∈ lw_tbl := mt_5 _ (List.mem_of_getElem? (i := 66) rfl)
theorem mw_1027 : Jvm.Cond.static ({ cls := "FractionPoolLaw", name := "length", desc := "(LFractionPool;IZ[J)I" } : Jvm.MethodName) ∈ lw_tbl := mt_5 _ (List.mem_of_getElem? (i := 67) rfl)
theorem mw_1028 : Jvm.Cond.codeWith ({ cls := "FractionPoolLaw", name := "length", desc := "(LFractionPool;IZ[J)I" } : Jvm.MethodName) method_17_code (5 : Nat) (Option.some Jvm.ClassFile.FieldType.int) [((0 : Nat), (10 : Nat), (13 : Nat), (13 : Nat))] ∈ lw_tbl := mt_5 _ (List.mem_of_getElem? (i := 68) rfl)
theorem mw_1029 : Jvm.Cond.methodLink "FractionPoolLaw" (64 : Nat) ({ cls := "FractionPool", name := "length", desc := "(IZ)I" } : Jvm.MethodName) ∈ lw_tbl := mt_5 _ (List.mem_of_getElem? (i := 69) rfl)
theorem mw_1030 : Jvm.Cond.instanceMethod ({ cls := "FractionPool", name := "length", desc := "(IZ)I" } : Jvm.MethodName) ∈ lw_tbl := mt_5 _ (List.mem_of_getElem? (i := 70) rfl)
theorem mw_1031 : Jvm.Cond.selects "FractionPool" ({ cls := "FractionPool", name := "length", desc := "(IZ)I" } : Jvm.MethodName) ({ cls := "FractionPool", name := "length", desc := "(IZ)I" } : Jvm.MethodName) ∈ lw_tbl := mt_5 _ (List.mem_of_getElem? (i := 71) rfl)
theorem mw_1032 : Jvm.Cond.code ({ cls := "FractionPool", name := "length", desc := "(IZ)I" } : Jvm.MethodName) prog_1_method_16_code (3 : Nat) (Option.some Jvm.ClassFile.FieldType.int) ∈ lw_tbl := mt_5 _ (List.mem_of_getElem? (i := 72) rfl)
theorem mw_1033 : Jvm.Cond.methodLink "FractionPool" (206 : Nat) ({ cls := "FractionPool$Registers", name := "bitsOf", desc := "(IZ)I" } : Jvm.MethodName) ∈ lw_tbl := mt_5 _ (List.mem_of_getElem? (i := 73) rfl)
theorem mw_1034 : Jvm.Cond.instanceMethod ({ cls := "FractionPool$Registers", name := "bitsOf", desc := "(IZ)I" } : Jvm.MethodName) ∈ lw_tbl := mt_5 _ (List.mem_of_getElem? (i := 74) rfl)
theorem mw_1035 : Jvm.Cond.selects "FractionPool$Registers" ({ cls := "FractionPool$Registers", name := "bitsOf", desc := "(IZ)I" } : Jvm.MethodName) ({ cls := "FractionPool$Registers", name := "bitsOf", desc := "(IZ)I" } : Jvm.MethodName) ∈ lw_tbl := mt_5 _ (List.mem_of_getElem? (i := 75) rfl)
theorem mw_1036 : Jvm.Cond.code ({ cls := "FractionPool$Registers", name := "bitsOf", desc := "(IZ)I" } : Jvm.MethodName) prog_6_method_4_code (4 : Nat) (Option.some Jvm.ClassFile.FieldType.int) ∈ lw_tbl := mt_5 _ (List.mem_of_getElem? (i := 76) rfl)
theorem mw_1037 : Jvm.Cond.methodLink "FractionPool$Registers" (37 : Nat) ({ cls := "FractionPool$Registers", name := "limbOf", desc := "(IZI)I" } : Jvm.MethodName) ∈ lw_tbl := mt_5 _ (List.mem_of_getElem? (i := 77) rfl)
theorem mw_1038 : Jvm.Cond.instanceMethod ({ cls := "FractionPool$Registers", name := "limbOf", desc := "(IZI)I" } : Jvm.MethodName) ∈ lw_tbl := mt_5 _ (List.mem_of_getElem? (i := 78) rfl)
theorem mw_1039 : Jvm.Cond.selects "FractionPool$Registers" ({ cls := "FractionPool$Registers", name := "limbOf", desc := "(IZI)I" } : Jvm.MethodName) ({ cls := "FractionPool$Registers", name := "limbOf", desc := "(IZI)I" } : Jvm.MethodName) ∈ lw_tbl := mt_5 _ (List.mem_of_getElem? (i := 79) rfl)
theorem mw_1040 : Jvm.Cond.code ({ cls := "FractionPool$Registers", name := "limbOf", desc := "(IZI)I" } : Jvm.MethodName) prog_6_method_5_code (6 : Nat) (Option.some Jvm.ClassFile.FieldType.int) ∈ lw_tbl := mt_5 _ (List.mem_of_getElem? (i := 80) rfl)
theorem mw_1041 : Jvm.Cond.methodLink "FractionPool$Registers" (41 : Nat) ({ cls := "java/lang/Integer", name := "numberOfLeadingZeros", desc := "(I)I" } : Jvm.MethodName) ∈ lw_tbl := mt_5 _ (List.mem_of_getElem? (i := 81) rfl)
theorem mw_1042 : Jvm.Cond.methodLink "FractionPoolLaw" (147 : Nat) ({ cls := "FractionPoolLaw", name := "limb", desc := "(LFractionPool;IZI[J)I" } : Jvm.MethodName) ∈ lw_tbl := mt_5 _ (List.mem_of_getElem? (i := 82) rfl)
theorem mw_1043 : Jvm.Cond.static ({ cls := "FractionPoolLaw", name := "limb", desc := "(LFractionPool;IZI[J)I" } : Jvm.MethodName) ∈ lw_tbl := mt_5 _ (List.mem_of_getElem? (i := 83) rfl)
theorem mw_1044 : Jvm.Cond.codeWith ({ cls := "FractionPoolLaw", name := "limb", desc := "(LFractionPool;IZI[J)I" } : Jvm.MethodName) method_18_code (6 : Nat) (Option.some Jvm.ClassFile.FieldType.int) [((0 : Nat), (12 : Nat), (15 : Nat), (13 : Nat))] ∈ lw_tbl := mt_5 _ (List.mem_of_getElem? (i := 84) rfl)
theorem mw_1045 : Jvm.Cond.methodLink "FractionPoolLaw" (68 : Nat) ({ cls := "FractionPool", name := "limb", desc := "(IZI)I" } : Jvm.MethodName) ∈ lw_tbl := mt_5 _ (List.mem_of_getElem? (i := 85) rfl)
theorem mw_1046 : Jvm.Cond.instanceMethod ({ cls := "FractionPool", name := "limb", desc := "(IZI)I" } : Jvm.MethodName) ∈ lw_tbl := mt_5 _ (List.mem_of_getElem? (i := 86) rfl)
theorem mw_1047 : Jvm.Cond.selects "FractionPool" ({ cls := "FractionPool", name := "limb", desc := "(IZI)I" } : Jvm.MethodName) ({ cls := "FractionPool", name := "limb", desc := "(IZI)I" } : Jvm.MethodName) ∈ lw_tbl := mt_5 _ (List.mem_of_getElem? (i := 87) rfl)
theorem mw_1048 : Jvm.Cond.code ({ cls := "FractionPool", name := "limb", desc := "(IZI)I" } : Jvm.MethodName) prog_1_method_17_code (4 : Nat) (Option.some Jvm.ClassFile.FieldType.int) ∈ lw_tbl := mt_5 _ (List.mem_of_getElem? (i := 88) rfl)
theorem mw_1049 : Jvm.Cond.stringRef "FractionPool" (210 : Nat) "a limb before the lowest" ∈ lw_tbl := mt_5 _ (List.mem_of_getElem? (i := 89) rfl)
theorem mw_1050 : Jvm.Cond.methodLink "FractionPool" (212 : Nat) ({ cls := "FractionPool$Registers", name := "limbOf", desc := "(IZI)I" } : Jvm.MethodName) ∈ lw_tbl := mt_5 _ (List.mem_of_getElem? (i := 90) rfl)
theorem mw_1051 : Jvm.Cond.methodLink "FractionPoolLaw" (160 : Nat) ({ cls := "FractionPoolLaw", name := "read", desc := "(LFractionPool;I[J)I" } : Jvm.MethodName) ∈ lw_tbl := mt_5 _ (List.mem_of_getElem? (i := 91) rfl)
theorem mw_1052 : Jvm.Cond.static ({ cls := "FractionPoolLaw", name := "read", desc := "(LFractionPool;I[J)I" } : Jvm.MethodName) ∈ lw_tbl := mt_5 _ (List.mem_of_getElem? (i := 92) rfl)
theorem mw_1053 : Jvm.Cond.codeWith ({ cls := "FractionPoolLaw", name := "read", desc := "(LFractionPool;I[J)I" } : Jvm.MethodName) method_19_code (4 : Nat) (Option.some Jvm.ClassFile.FieldType.int) [((0 : Nat), (9 : Nat), (12 : Nat), (13 : Nat)), ((0 : Nat), (9 : Nat), (15 : Nat), (42 : Nat)), ((0 : Nat), (9 : Nat), (18 : Nat), (17 : Nat))] ∈ lw_tbl := mt_5 _ (List.mem_of_getElem? (i := 93) rfl)
theorem mw_1054 : Jvm.Cond.methodLink "FractionPoolLaw" (72 : Nat) ({ cls := "FractionPool", name := "read", desc := "(I)I" } : Jvm.MethodName) ∈ lw_tbl := mt_5 _ (List.mem_of_getElem? (i := 94) rfl)
theorem mw_1055 : Jvm.Cond.instanceMethod ({ cls := "FractionPool", name := "read", desc := "(I)I" } : Jvm.MethodName) ∈ lw_tbl := mt_5 _ (List.mem_of_getElem? (i := 95) rfl)
theorem mw_1056 : Jvm.Cond.selects "FractionPool" ({ cls := "FractionPool", name := "read", desc := "(I)I" } : Jvm.MethodName) ({ cls := "FractionPool", name := "read", desc := "(I)I" } : Jvm.MethodName) ∈ lw_tbl := mt_5 _ (List.mem_of_getElem? (i := 96) rfl)
theorem mw_1057 : Jvm.Cond.code ({ cls := "FractionPool", name := "read", desc := "(I)I" } : Jvm.MethodName) prog_1_method_20_code (2 : Nat) (Option.some Jvm.ClassFile.FieldType.int) ∈ lw_tbl := mt_5 _ (List.mem_of_getElem? (i := 97) rfl)
theorem mw_1058 : Jvm.Cond.methodLink "FractionPool" (223 : Nat) ({ cls := "FractionPool$Typed", name := "judge", desc := "()V" } : Jvm.MethodName) ∈ lw_tbl := mt_5 _ (List.mem_of_getElem? (i := 98) rfl)
theorem mw_1059 : Jvm.Cond.instanceMethod ({ cls := "FractionPool$Typed", name := "judge", desc := "()V" } : Jvm.MethodName) ∈ lw_tbl := mt_5 _ (List.mem_of_getElem? (i := 99) rfl)
theorem mw_1060 : Jvm.Cond.selects "FractionPool$Typed" ({ cls := "FractionPool$Typed", name := "judge", desc := "()V" } : Jvm.MethodName) ({ cls := "FractionPool$Typed", name := "judge", desc := "()V" } : Jvm.MethodName) ∈ lw_tbl := mt_5 _ (List.mem_of_getElem? (i := 100) rfl)
theorem mw_1061 : Jvm.Cond.code ({ cls := "FractionPool$Typed", name := "judge", desc := "()V" } : Jvm.MethodName) prog_7_method_4_code (1 : Nat) (Option.none : Option Jvm.ClassFile.FieldType) ∈ lw_tbl := mt_5 _ (List.mem_of_getElem? (i := 101) rfl)
theorem mw_1062 : Jvm.Cond.methodLink "FractionPool$Typed" (29 : Nat) ({ cls := "FractionPool$Typed", name := "faultOfText", desc := "()I" } : Jvm.MethodName) ∈ lw_tbl := mt_5 _ (List.mem_of_getElem? (i := 102) rfl)
theorem mw_1063 : Jvm.Cond.privateMethod ({ cls := "FractionPool$Typed", name := "faultOfText", desc := "()I" } : Jvm.MethodName) ∈ lw_tbl := mt_5 _ (List.mem_of_getElem? (i := 103) rfl)
theorem mw_1064 : Jvm.Cond.instanceMethod ({ cls := "FractionPool$Typed", name := "faultOfText", desc := "()I" } : Jvm.MethodName) ∈ lw_tbl := mt_5 _ (List.mem_of_getElem? (i := 104) rfl)
theorem mw_1065 : Jvm.Cond.code ({ cls := "FractionPool$Typed", name := "faultOfText", desc := "()I" } : Jvm.MethodName) prog_7_method_5_code (6 : Nat) (Option.some Jvm.ClassFile.FieldType.int) ∈ lw_tbl := mt_5 _ (List.mem_of_getElem? (i := 105) rfl)
theorem mw_1066 : Jvm.Cond.methodLink "FractionPool$Typed" (33 : Nat) ({ cls := "FractionPool$Typed", name := "stateAfter", desc := "(IC)I" } : Jvm.MethodName) ∈ lw_tbl := mt_5 _ (List.mem_of_getElem? (i := 106) rfl)
theorem mw_1067 : Jvm.Cond.static ({ cls := "FractionPool$Typed", name := "stateAfter", desc := "(IC)I" } : Jvm.MethodName) ∈ lw_tbl := mt_5 _ (List.mem_of_getElem? (i := 107) rfl)
theorem mw_1068 : Jvm.Cond.code ({ cls := "FractionPool$Typed", name := "stateAfter", desc := "(IC)I" } : Jvm.MethodName) prog_7_method_6_code (2 : Nat) (Option.some Jvm.ClassFile.FieldType.int) ∈ lw_tbl := mt_5 _ (List.mem_of_getElem? (i := 108) rfl)
theorem mw_1069 : Jvm.Cond.methodLink "FractionPool$Typed" (37 : Nat) ({ cls := "FractionPool$Typed", name := "stateAfterFigure", desc := "(I)I" } : Jvm.MethodName) ∈ lw_tbl := mt_5 _ (List.mem_of_getElem? (i := 109) rfl)
theorem mw_1070 : Jvm.Cond.static ({ cls := "FractionPool$Typed", name := "stateAfterFigure", desc := "(I)I" } : Jvm.MethodName) ∈ lw_tbl := mt_5 _ (List.mem_of_getElem? (i := 110) rfl)
theorem mw_1071 : Jvm.Cond.code ({ cls := "FractionPool$Typed", name := "stateAfterFigure", desc := "(I)I" } : Jvm.MethodName) prog_7_method_7_code (1 : Nat) (Option.some Jvm.ClassFile.FieldType.int) ∈ lw_tbl := mt_5 _ (List.mem_of_getElem? (i := 111) rfl)
theorem mw_1072 : Jvm.Cond.stringRef "FractionPool" (229 : Nat) "the text is no number" ∈ lw_tbl := mt_5 _ (List.mem_of_getElem? (i := 112) rfl)
theorem mw_1073 : Jvm.Cond.methodLink "FractionPool" (231 : Nat) ({ cls := "FractionPool$Typed", name := "numberInto", desc := "(LFractionPool$Ratio;)V" } : Jvm.MethodName) ∈ lw_tbl := mt_5 _ (List.mem_of_getElem? (i := 113) rfl)
theorem mw_1074 : Jvm.Cond.instanceMethod ({ cls := "FractionPool$Typed", name := "numberInto", desc := "(LFractionPool$Ratio;)V" } : Jvm.MethodName) ∈ lw_tbl := mt_5 _ (List.mem_of_getElem? (i := 114) rfl)
theorem mw_1075 : Jvm.Cond.selects "FractionPool$Typed" ({ cls := "FractionPool$Typed", name := "numberInto", desc := "(LFractionPool$Ratio;)V" } : Jvm.MethodName) ({ cls := "FractionPool$Typed", name := "numberInto", desc := "(LFractionPool$Ratio;)V" } : Jvm.MethodName) ∈ lw_tbl := mt_5 _ (List.mem_of_getElem? (i := 115) rfl)
theorem mw_1076 : Jvm.Cond.code ({ cls := "FractionPool$Typed", name := "numberInto", desc := "(LFractionPool$Ratio;)V" } : Jvm.MethodName) prog_7_method_8_code (6 : Nat) (Option.none : Option Jvm.ClassFile.FieldType) ∈ lw_tbl := mt_5 _ (List.mem_of_getElem? (i := 116) rfl)
theorem mw_1077 : Jvm.Cond.methodLink "FractionPool$Typed" (41 : Nat) ({ cls := "FractionPool$Ratio", name := "becomeZero", desc := "()V" } : Jvm.MethodName) ∈ lw_tbl := mt_5 _ (List.mem_of_getElem? (i := 117) rfl)
theorem mw_1078 : Jvm.Cond.methodLink "FractionPool$Typed" (53 : Nat) ({ cls := "FractionPool$Whole", name := "becomeLong", desc := "(J)V" } : Jvm.MethodName) ∈ lw_tbl := mt_5 _ (List.mem_of_getElem? (i := 118) rfl)
theorem mw_1079 : Jvm.Cond.methodLink "FractionPool$Typed" (59 : Nat) ({ cls := "FractionPool$Whole", name := "scale", desc := "(II)V" } : Jvm.MethodName) ∈ lw_tbl := mt_5 _ (List.mem_of_getElem? (i := 119) rfl)
theorem mw_1080 : Jvm.Cond.methodLink "FractionPoolLaw" (167 : Nat) ({ cls := "FractionPoolLaw", name := "print", desc := "(LFractionPool;I[J)I" } : Jvm.MethodName) ∈ lw_tbl := mt_5 _ (List.mem_of_getElem? (i := 120) rfl)
theorem mw_1081 : Jvm.Cond.static ({ cls := "FractionPoolLaw", name := "print", desc := "(LFractionPool;I[J)I" } : Jvm.MethodName) ∈ lw_tbl := mt_5 _ (List.mem_of_getElem? (i := 121) rfl)
theorem mw_1082 : Jvm.Cond.codeWith ({ cls := "FractionPoolLaw", name := "print", desc := "(LFractionPool;I[J)I" } : Jvm.MethodName) method_20_code (4 : Nat) (Option.some Jvm.ClassFile.FieldType.int) [((0 : Nat), (9 : Nat), (12 : Nat), (13 : Nat))] ∈ lw_tbl := mt_5 _ (List.mem_of_getElem? (i := 122) rfl)
theorem mw_1083 : Jvm.Cond.methodLink "FractionPoolLaw" (75 : Nat) ({ cls := "FractionPool", name := "print", desc := "(I)I" } : Jvm.MethodName) ∈ lw_tbl := mt_5 _ (List.mem_of_getElem? (i := 123) rfl)
theorem mw_1084 : Jvm.Cond.instanceMethod ({ cls := "FractionPool", name := "print", desc := "(I)I" } : Jvm.MethodName) ∈ lw_tbl := mt_5 _ (List.mem_of_getElem? (i := 124) rfl)
theorem mw_1085 : Jvm.Cond.selects "FractionPool" ({ cls := "FractionPool", name := "print", desc := "(I)I" } : Jvm.MethodName) ({ cls := "FractionPool", name := "print", desc := "(I)I" } : Jvm.MethodName) ∈ lw_tbl := mt_5 _ (List.mem_of_getElem? (i := 125) rfl)
theorem mw_1086 : Jvm.Cond.code ({ cls := "FractionPool", name := "print", desc := "(I)I" } : Jvm.MethodName) prog_1_method_22_code (2 : Nat) (Option.some Jvm.ClassFile.FieldType.int) ∈ lw_tbl := mt_5 _ (List.mem_of_getElem? (i := 126) rfl)
theorem mw_1087 : Jvm.Cond.methodLink "FractionPool" (235 : Nat) ({ cls := "FractionPool$Printed", name := "write", desc := "(LFractionPool$Ratio;)V" } : Jvm.MethodName) ∈ lw_tbl := mt_5 _ (List.mem_of_getElem? (i := 127) rfl)
theorem mw_1088 : Jvm.Cond.instanceMethod ({ cls := "FractionPool$Printed", name := "write", desc := "(LFractionPool$Ratio;)V" } : Jvm.MethodName) ∈ lw_tbl := mt_5 _ (List.mem_of_getElem? (i := 128) rfl)
theorem mw_1089 : Jvm.Cond.selects "FractionPool$Printed" ({ cls := "FractionPool$Printed", name := "write", desc := "(LFractionPool$Ratio;)V" } : Jvm.MethodName) ({ cls := "FractionPool$Printed", name := "write", desc := "(LFractionPool$Ratio;)V" } : Jvm.MethodName) ∈ lw_tbl := mt_5 _ (List.mem_of_getElem? (i := 129) rfl)
theorem mw_1090 : Jvm.Cond.code ({ cls := "FractionPool$Printed", name := "write", desc := "(LFractionPool$Ratio;)V" } : Jvm.MethodName) prog_4_method_4_code (2 : Nat) (Option.none : Option Jvm.ClassFile.FieldType) ∈ lw_tbl := mt_5 _ (List.mem_of_getElem? (i := 130) rfl)
theorem mw_1091 : Jvm.Cond.methodLink "FractionPool$Printed" (35 : Nat) ({ cls := "FractionPool$Whole", name := "isOne", desc := "()Z" } : Jvm.MethodName) ∈ lw_tbl := mt_5 _ (List.mem_of_getElem? (i := 131) rfl)
theorem mw_1092 : Jvm.Cond.methodLink "FractionPool$Printed" (41 : Nat) ({ cls := "FractionPool$Printed", name := "putFigures", desc := "(LFractionPool$Whole;)V" } : Jvm.MethodName) ∈ lw_tbl := mt_5 _ (List.mem_of_getElem? (i := 132) rfl)
theorem mw_1093 : Jvm.Cond.privateMethod ({ cls := "FractionPool$Printed", name := "putFigures", desc := "(LFractionPool$Whole;)V" } : Jvm.MethodName) ∈ lw_tbl := mt_5 _ (List.mem_of_getElem? (i := 133) rfl)
theorem mw_1094 : Jvm.Cond.instanceMethod ({ cls := "FractionPool$Printed", name := "putFigures", desc := "(LFractionPool$Whole;)V" } : Jvm.MethodName) ∈ lw_tbl := mt_5 _ (List.mem_of_getElem? (i := 134) rfl)
theorem mw_1095 : Jvm.Cond.code ({ cls := "FractionPool$Printed", name := "putFigures", desc := "(LFractionPool$Whole;)V" } : Jvm.MethodName) prog_4_method_5_code (4 : Nat) (Option.none : Option Jvm.ClassFile.FieldType) ∈ lw_tbl := mt_5 _ (List.mem_of_getElem? (i := 135) rfl)
theorem mw_1096 : Jvm.Cond.methodLink "FractionPool$Printed" (45 : Nat) ({ cls := "FractionPool$Printed", name := "put", desc := "(C)V" } : Jvm.MethodName) ∈ lw_tbl := mt_5 _ (List.mem_of_getElem? (i := 136) rfl)
theorem mw_1097 : Jvm.Cond.privateMethod ({ cls := "FractionPool$Printed", name := "put", desc := "(C)V" } : Jvm.MethodName) ∈ lw_tbl := mt_5 _ (List.mem_of_getElem? (i := 137) rfl)
theorem mw_1098 : Jvm.Cond.instanceMethod ({ cls := "FractionPool$Printed", name := "put", desc := "(C)V" } : Jvm.MethodName) ∈ lw_tbl := mt_5 _ (List.mem_of_getElem? (i := 138) rfl)
theorem mw_1099 : Jvm.Cond.code ({ cls := "FractionPool$Printed", name := "put", desc := "(C)V" } : Jvm.MethodName) prog_4_method_7_code (2 : Nat) (Option.none : Option Jvm.ClassFile.FieldType) ∈ lw_tbl := mt_5 _ (List.mem_of_getElem? (i := 139) rfl)
theorem mw_1100 : Jvm.Cond.constantLong "FractionPool$Printed" (58 : Nat) (1000000000 : Int64) ∈ lw_tbl := mt_5 _ (List.mem_of_getElem? (i := 140) rfl)
theorem mw_1101 : Jvm.Cond.methodLink "FractionPool$Printed" (60 : Nat) ({ cls := "FractionPool$Whole", name := "divideByLimb", desc := "(J)J" } : Jvm.MethodName) ∈ lw_tbl := mt_5 _ (List.mem_of_getElem? (i := 141) rfl)
theorem mw_1102 : Jvm.Cond.methodLink "FractionPool$Printed" (64 : Nat) ({ cls := "FractionPool$Printed", name := "putNine", desc := "(IZ)V" } : Jvm.MethodName) ∈ lw_tbl := mt_5 _ (List.mem_of_getElem? (i := 142) rfl)
theorem mw_1103 : Jvm.Cond.privateMethod ({ cls := "FractionPool$Printed", name := "putNine", desc := "(IZ)V" } : Jvm.MethodName) ∈ lw_tbl := mt_5 _ (List.mem_of_getElem? (i := 143) rfl)
theorem mw_1104 : Jvm.Cond.instanceMethod ({ cls := "FractionPool$Printed", name := "putNine", desc := "(IZ)V" } : Jvm.MethodName) ∈ lw_tbl := mt_5 _ (List.mem_of_getElem? (i := 144) rfl)
theorem mw_1105 : Jvm.Cond.code ({ cls := "FractionPool$Printed", name := "putNine", desc := "(IZ)V" } : Jvm.MethodName) prog_4_method_6_code (5 : Nat) (Option.none : Option Jvm.ClassFile.FieldType) ∈ lw_tbl := mt_5 _ (List.mem_of_getElem? (i := 145) rfl)
theorem mw_1106 : Jvm.Cond.methodLink "FractionPool" (238 : Nat) ({ cls := "FractionPool$Printed", name := "count", desc := "()I" } : Jvm.MethodName) ∈ lw_tbl := mt_5 _ (List.mem_of_getElem? (i := 146) rfl)
theorem mw_1107 : Jvm.Cond.classLink "FractionPoolLaw" (87 : Nat) "FractionPoolModel" ∈ lw_tbl := mt_5 _ (List.mem_of_getElem? (i := 147) rfl)
theorem mw_1108 : Jvm.Cond.instantiable "FractionPoolModel" (14 : Nat) ∈ lw_tbl := mt_5 _ (List.mem_of_getElem? (i := 148) rfl)
theorem mw_1109 : Jvm.Cond.methodLink "FractionPoolLaw" (89 : Nat) ({ cls := "FractionPoolModel", name := "<init>", desc := "(I)V" } : Jvm.MethodName) ∈ lw_tbl := mt_5 _ (List.mem_of_getElem? (i := 149) rfl)
theorem mw_1110 : Jvm.Cond.instanceMethod ({ cls := "FractionPoolModel", name := "<init>", desc := "(I)V" } : Jvm.MethodName) ∈ lw_tbl := mt_5 _ (List.mem_of_getElem? (i := 150) rfl)
theorem mw_1111 : Jvm.Cond.code ({ cls := "FractionPoolModel", name := "<init>", desc := "(I)V" } : Jvm.MethodName) prog_10_method_1_code (3 : Nat) (Option.none : Option Jvm.ClassFile.FieldType) ∈ lw_tbl := mt_5 _ (List.mem_of_getElem? (i := 151) rfl)
theorem mw_1112 : Jvm.Cond.methodLink "FractionPoolModel" (1 : Nat) ({ cls := "java/lang/Object", name := "<init>", desc := "()V" } : Jvm.MethodName) ∈ lw_tbl := mt_5 _ (List.mem_of_getElem? (i := 152) rfl)
theorem mw_1113 : Jvm.Cond.constant "FractionPoolModel" (7 : Nat) (108000 : Int32) ∈ lw_tbl := mt_5 _ (List.mem_of_getElem? (i := 153) rfl)
theorem mw_1114 : Jvm.Cond.constant "FractionPoolModel" (17 : Nat) (166400 : Int32) ∈ lw_tbl := mt_5 _ (List.mem_of_getElem? (i := 154) rfl)
theorem mw_1115 : Jvm.Cond.fieldLink "FractionPoolModel" (46 : Nat) "FractionPoolModel" "code" "I" ∈ lw_tbl := mt_5 _ (List.mem_of_getElem? (i := 155) rfl)
theorem mw_1116 : Jvm.Cond.fieldLink "FractionPoolModel" (43 : Nat) "FractionPoolModel" "room" "I" ∈ lw_tbl := mt_5 _ (List.mem_of_getElem? (i := 156) rfl)
theorem mw_1117 : Jvm.Cond.fieldLink "FractionPoolModel" (8 : Nat) "FractionPoolModel" "work" "[I" ∈ lw_tbl := mt_5 _ (List.mem_of_getElem? (i := 157) rfl)
theorem mw_1118 : Jvm.Cond.fieldLink "FractionPoolModel" (14 : Nat) "FractionPoolModel" "many" "[I" ∈ lw_tbl := mt_5 _ (List.mem_of_getElem? (i := 158) rfl)
theorem mw_1119 : Jvm.Cond.fieldLink "FractionPoolModel" (18 : Nat) "FractionPoolModel" "kept" "[I" ∈ lw_tbl := mt_5 _ (List.mem_of_getElem? (i := 159) rfl)
theorem mw_1120 : Jvm.Cond.fieldLink "FractionPoolModel" (21 : Nat) "FractionPoolModel" "keptMany" "[I" ∈ lw_tbl := mt_5 _ (List.mem_of_getElem? (i := 160) rfl)
theorem mw_1121 : Jvm.Cond.fieldLink "FractionPoolModel" (24 : Nat) "FractionPoolModel" "signs" "[I" ∈ lw_tbl := mt_5 _ (List.mem_of_getElem? (i := 161) rfl)
theorem mw_1122 : Jvm.Cond.fieldLink "FractionPoolModel" (27 : Nat) "FractionPoolModel" "needs" "[I" ∈ lw_tbl := mt_5 _ (List.mem_of_getElem? (i := 162) rfl)
theorem mw_1123 : Jvm.Cond.fieldLink "FractionPoolModel" (30 : Nat) "FractionPoolModel" "halves" "[I" ∈ lw_tbl := mt_5 _ (List.mem_of_getElem? (i := 163) rfl)
theorem mw_1124 : Jvm.Cond.fieldLink "FractionPoolModel" (33 : Nat) "FractionPoolModel" "text" "[I" ∈ lw_tbl := mt_5 _ (List.mem_of_getElem? (i := 164) rfl)
theorem mw_1125 : Jvm.Cond.fieldLink "FractionPoolModel" (169 : Nat) "FractionPoolModel" "length" "I" ∈ lw_tbl := mt_5 _ (List.mem_of_getElem? (i := 165) rfl)
theorem mw_1126 : Jvm.Cond.fieldLink "FractionPoolModel" (36 : Nat) "FractionPoolModel" "fault" "I" ∈ lw_tbl := mt_5 _ (List.mem_of_getElem? (i := 166) rfl)
theorem mw_1127 : Jvm.Cond.fieldLink "FractionPoolModel" (40 : Nat) "FractionPoolModel" "printed" "[I" ∈ lw_tbl := mt_5 _ (List.mem_of_getElem? (i := 167) rfl)
theorem mw_1128 : Jvm.Cond.fieldLink "FractionPoolModel" (187 : Nat) "FractionPoolModel" "printedLength" "I" ∈ lw_tbl := mt_5 _ (List.mem_of_getElem? (i := 168) rfl)
theorem mw_1129 : Jvm.Cond.lays "FractionPoolModel" "FractionPoolModel" "code" "I" ∈ lw_tbl := mt_5 _ (List.mem_of_getElem? (i := 169) rfl)
theorem mw_1130 : Jvm.Cond.soleField "FractionPoolModel" "code" ∈ lw_tbl := mt_5 _ (List.mem_of_getElem? (i := 170) rfl)
theorem mw_1131 : Jvm.Cond.laysFinal "FractionPoolModel" "FractionPoolModel" "room" "I" ∈ lw_tbl := mt_5 _ (List.mem_of_getElem? (i := 171) rfl)
theorem mw_1132 : Jvm.Cond.soleField "FractionPoolModel" "room" ∈ lw_tbl := mt_5 _ (List.mem_of_getElem? (i := 172) rfl)
theorem mw_1133 : Jvm.Cond.laysFinal "FractionPoolModel" "FractionPoolModel" "work" "[I" ∈ lw_tbl := mt_5 _ (List.mem_of_getElem? (i := 173) rfl)
theorem mw_1134 : Jvm.Cond.soleField "FractionPoolModel" "work" ∈ lw_tbl := mt_5 _ (List.mem_of_getElem? (i := 174) rfl)
theorem mw_1135 : Jvm.Cond.laysFinal "FractionPoolModel" "FractionPoolModel" "many" "[I" ∈ lw_tbl := mt_5 _ (List.mem_of_getElem? (i := 175) rfl)
theorem mw_1136 : Jvm.Cond.soleField "FractionPoolModel" "many" ∈ lw_tbl := mt_5 _ (List.mem_of_getElem? (i := 176) rfl)
theorem mw_1137 : Jvm.Cond.laysFinal "FractionPoolModel" "FractionPoolModel" "kept" "[I" ∈ lw_tbl := mt_5 _ (List.mem_of_getElem? (i := 177) rfl)
theorem mw_1138 : Jvm.Cond.soleField "FractionPoolModel" "kept" ∈ lw_tbl := mt_5 _ (List.mem_of_getElem? (i := 178) rfl)
theorem mw_1139 : Jvm.Cond.laysFinal "FractionPoolModel" "FractionPoolModel" "keptMany" "[I" ∈ lw_tbl := mt_5 _ (List.mem_of_getElem? (i := 179) rfl)
theorem mw_1140 : Jvm.Cond.soleField "FractionPoolModel" "keptMany" ∈ lw_tbl := mt_5 _ (List.mem_of_getElem? (i := 180) rfl)
theorem mw_1141 : Jvm.Cond.laysFinal "FractionPoolModel" "FractionPoolModel" "signs" "[I" ∈ lw_tbl := mt_5 _ (List.mem_of_getElem? (i := 181) rfl)
theorem mw_1142 : Jvm.Cond.soleField "FractionPoolModel" "signs" ∈ lw_tbl := mt_5 _ (List.mem_of_getElem? (i := 182) rfl)
theorem mw_1143 : Jvm.Cond.laysFinal "FractionPoolModel" "FractionPoolModel" "needs" "[I" ∈ lw_tbl := mt_5 _ (List.mem_of_getElem? (i := 183) rfl)
theorem mw_1144 : Jvm.Cond.soleField "FractionPoolModel" "needs" ∈ lw_tbl := mt_5 _ (List.mem_of_getElem? (i := 184) rfl)
theorem mw_1145 : Jvm.Cond.laysFinal "FractionPoolModel" "FractionPoolModel" "halves" "[I" ∈ lw_tbl := mt_5 _ (List.mem_of_getElem? (i := 185) rfl)
theorem mw_1146 : Jvm.Cond.soleField "FractionPoolModel" "halves" ∈ lw_tbl := mt_5 _ (List.mem_of_getElem? (i := 186) rfl)
theorem mw_1147 : Jvm.Cond.laysFinal "FractionPoolModel" "FractionPoolModel" "text" "[I" ∈ lw_tbl := mt_5 _ (List.mem_of_getElem? (i := 187) rfl)
theorem mw_1148 : Jvm.Cond.soleField "FractionPoolModel" "text" ∈ lw_tbl := mt_5 _ (List.mem_of_getElem? (i := 188) rfl)
theorem mw_1149 : Jvm.Cond.lays "FractionPoolModel" "FractionPoolModel" "length" "I" ∈ lw_tbl := mt_5 _ (List.mem_of_getElem? (i := 189) rfl)
theorem mw_1150 : Jvm.Cond.soleField "FractionPoolModel" "length" ∈ lw_tbl := mt_5 _ (List.mem_of_getElem? (i := 190) rfl)
theorem mw_1151 : Jvm.Cond.lays "FractionPoolModel" "FractionPoolModel" "fault" "I" ∈ lw_tbl := mt_5 _ (List.mem_of_getElem? (i := 191) rfl)
theorem mw_1152 : Jvm.Cond.soleField "FractionPoolModel" "fault" ∈ lw_tbl := mt_5 _ (List.mem_of_getElem? (i := 192) rfl)
theorem mw_1153 : Jvm.Cond.laysFinal "FractionPoolModel" "FractionPoolModel" "printed" "[I" ∈ lw_tbl := mt_5 _ (List.mem_of_getElem? (i := 193) rfl)
theorem mw_1154 : Jvm.Cond.soleField "FractionPoolModel" "printed" ∈ lw_tbl := mt_5 _ (List.mem_of_getElem? (i := 194) rfl)
theorem mw_1155 : Jvm.Cond.lays "FractionPoolModel" "FractionPoolModel" "printedLength" "I" ∈ lw_tbl := mt_5 _ (List.mem_of_getElem? (i := 195) rfl)
theorem mw_1156 : Jvm.Cond.soleField "FractionPoolModel" "printedLength" ∈ lw_tbl := mt_5 _ (List.mem_of_getElem? (i := 196) rfl)
theorem mw_1157 : Jvm.Cond.superclass "FractionPoolModel" "java/lang/Object" ∈ lw_tbl := mt_5 _ (List.mem_of_getElem? (i := 197) rfl)
theorem mw_1158 : Jvm.Cond.methodLink "FractionPoolLaw" (96 : Nat) ({ cls := "FractionPoolModel", name := "thrown", desc := "()I" } : Jvm.MethodName) ∈ lw_tbl := mt_5 _ (List.mem_of_getElem? (i := 198) rfl)
theorem mw_1159 : Jvm.Cond.instanceMethod ({ cls := "FractionPoolModel", name := "thrown", desc := "()I" } : Jvm.MethodName) ∈ lw_tbl := mt_5 _ (List.mem_of_getElem? (i := 199) rfl)
theorem mw_1160 : Jvm.Cond.selects "FractionPoolModel" ({ cls := "FractionPoolModel", name := "thrown", desc := "()I" } : Jvm.MethodName) ({ cls := "FractionPoolModel", name := "thrown", desc := "()I" } : Jvm.MethodName) ∈ lw_tbl := mt_5 _ (List.mem_of_getElem? (i := 200) rfl)
theorem mw_1161 : Jvm.Cond.code ({ cls := "FractionPoolModel", name := "thrown", desc := "()I" } : Jvm.MethodName) prog_10_method_2_code (1 : Nat) (Option.some Jvm.ClassFile.FieldType.int) ∈ lw_tbl := mt_5 _ (List.mem_of_getElem? (i := 201) rfl)
theorem mw_1162 : Jvm.Cond.methodLink "FractionPoolLaw" (154 : Nat) ({ cls := "FractionPoolModel", name := "used", desc := "()I" } : Jvm.MethodName) ∈ lw_tbl := mt_5 _ (List.mem_of_getElem? (i := 202) rfl)
theorem mw_1163 : Jvm.Cond.instanceMethod ({ cls := "FractionPoolModel", name := "used", desc := "()I" } : Jvm.MethodName) ∈ lw_tbl := mt_5 _ (List.mem_of_getElem? (i := 203) rfl)
theorem mw_1164 : Jvm.Cond.selects "FractionPoolModel" ({ cls := "FractionPoolModel", name := "used", desc := "()I" } : Jvm.MethodName) ({ cls := "FractionPoolModel", name := "used", desc := "()I" } : Jvm.MethodName) ∈ lw_tbl := mt_5 _ (List.mem_of_getElem? (i := 204) rfl)
theorem mw_1165 : Jvm.Cond.code ({ cls := "FractionPoolModel", name := "used", desc := "()I" } : Jvm.MethodName) prog_10_method_23_code (3 : Nat) (Option.some Jvm.ClassFile.FieldType.int) ∈ lw_tbl := mt_5 _ (List.mem_of_getElem? (i := 205) rfl)
theorem mw_1166 : Jvm.Cond.methodLink "FractionPoolLaw" (95 : Nat) ({ cls := "FractionPoolModel", name := "set", desc := "(IJJ)I" } : Jvm.MethodName) ∈ lw_tbl := mt_5 _ (List.mem_of_getElem? (i := 206) rfl)
theorem mw_1167 : Jvm.Cond.instanceMethod ({ cls := "FractionPoolModel", name := "set", desc := "(IJJ)I" } : Jvm.MethodName) ∈ lw_tbl := mt_5 _ (List.mem_of_getElem? (i := 207) rfl)
theorem mw_1168 : Jvm.Cond.selects "FractionPoolModel" ({ cls := "FractionPoolModel", name := "set", desc := "(IJJ)I" } : Jvm.MethodName) ({ cls := "FractionPoolModel", name := "set", desc := "(IJJ)I" } : Jvm.MethodName) ∈ lw_tbl := mt_5 _ (List.mem_of_getElem? (i := 208) rfl)
theorem mw_1169 : Jvm.Cond.code ({ cls := "FractionPoolModel", name := "set", desc := "(IJJ)I" } : Jvm.MethodName) prog_10_method_27_code (6 : Nat) (Option.some Jvm.ClassFile.FieldType.int) ∈ lw_tbl := mt_5 _ (List.mem_of_getElem? (i := 209) rfl)
theorem mw_1170 : Jvm.Cond.methodLink "FractionPoolModel" (108 : Nat) ({ cls := "FractionPoolModel", name := "isRegister", desc := "(I)Z" } : Jvm.MethodName) ∈ lw_tbl := mt_5 _ (List.mem_of_getElem? (i := 210) rfl)
theorem mw_1171 : Jvm.Cond.static ({ cls := "FractionPoolModel", name := "isRegister", desc := "(I)Z" } : Jvm.MethodName) ∈ lw_tbl := mt_5 _ (List.mem_of_getElem? (i := 211) rfl)
theorem mw_1172 : Jvm.Cond.code ({ cls := "FractionPoolModel", name := "isRegister", desc := "(I)Z" } : Jvm.MethodName) prog_10_method_4_code (1 : Nat) (Option.some Jvm.ClassFile.FieldType.boolean) ∈ lw_tbl := mt_5 _ (List.mem_of_getElem? (i := 212) rfl)
theorem mw_1173 : Jvm.Cond.methodLink "FractionPoolModel" (101 : Nat) ({ cls := "FractionPoolModel", name := "refuses", desc := "(I)Z" } : Jvm.MethodName) ∈ lw_tbl := mt_5 _ (List.mem_of_getElem? (i := 213) rfl)
theorem mw_1174 : Jvm.Cond.privateMethod ({ cls := "FractionPoolModel", name := "refuses", desc := "(I)Z" } : Jvm.MethodName) ∈ lw_tbl := mt_5 _ (List.mem_of_getElem? (i := 214) rfl)
theorem mw_1175 : Jvm.Cond.instanceMethod ({ cls := "FractionPoolModel", name := "refuses", desc := "(I)Z" } : Jvm.MethodName) ∈ lw_tbl := mt_5 _ (List.mem_of_getElem? (i := 215) rfl)
theorem mw_1176 : Jvm.Cond.code ({ cls := "FractionPoolModel", name := "refuses", desc := "(I)Z" } : Jvm.MethodName) prog_10_method_3_code (2 : Nat) (Option.some Jvm.ClassFile.FieldType.boolean) ∈ lw_tbl := mt_5 _ (List.mem_of_getElem? (i := 216) rfl)
theorem mw_1177 : Jvm.Cond.methodLink "FractionPoolModel" (111 : Nat) ({ cls := "FractionPoolModel", name := "setLong", desc := "(IJ)V" } : Jvm.MethodName) ∈ lw_tbl := mt_5 _ (List.mem_of_getElem? (i := 217) rfl)
theorem mw_1178 : Jvm.Cond.privateMethod ({ cls := "FractionPoolModel", name := "setLong", desc := "(IJ)V" } : Jvm.MethodName) ∈ lw_tbl := mt_5 _ (List.mem_of_getElem? (i := 218) rfl)
theorem mw_1179 : Jvm.Cond.instanceMethod ({ cls := "FractionPoolModel", name := "setLong", desc := "(IJ)V" } : Jvm.MethodName) ∈ lw_tbl := mt_5 _ (List.mem_of_getElem? (i := 219) rfl)
theorem mw_1180 : Jvm.Cond.code ({ cls := "FractionPoolModel", name := "setLong", desc := "(IJ)V" } : Jvm.MethodName) prog_10_method_6_code (8 : Nat) (Option.none : Option Jvm.ClassFile.FieldType) ∈ lw_tbl := mt_5 _ (List.mem_of_getElem? (i := 220) rfl)
theorem mw_1181 : Jvm.Cond.constantLong "FractionPoolModel" (49 : Nat) (10000 : Int64) ∈ lw_tbl := mt_5 _ (List.mem_of_getElem? (i := 221) rfl)
theorem mw_1182 : Jvm.Cond.methodLink "FractionPoolModel" (115 : Nat) ({ cls := "FractionPoolModel", name := "put", desc := "(III)I" } : Jvm.MethodName) ∈ lw_tbl := mt_5 _ (List.mem_of_getElem? (i := 222) rfl)
theorem mw_1183 : Jvm.Cond.privateMethod ({ cls := "FractionPoolModel", name := "put", desc := "(III)I" } : Jvm.MethodName) ∈ lw_tbl := mt_5 _ (List.mem_of_getElem? (i := 223) rfl)
theorem mw_1184 : Jvm.Cond.instanceMethod ({ cls := "FractionPoolModel", name := "put", desc := "(III)I" } : Jvm.MethodName) ∈ lw_tbl := mt_5 _ (List.mem_of_getElem? (i := 224) rfl)
theorem mw_1185 : Jvm.Cond.code ({ cls := "FractionPoolModel", name := "put", desc := "(III)I" } : Jvm.MethodName) prog_10_method_25_code (4 : Nat) (Option.some Jvm.ClassFile.FieldType.int) ∈ lw_tbl := mt_5 _ (List.mem_of_getElem? (i := 225) rfl)
theorem mw_1186 : Jvm.Cond.methodLink "FractionPoolModel" (87 : Nat) ({ cls := "FractionPoolModel", name := "reduce", desc := "()V" } : Jvm.MethodName) ∈ lw_tbl := mt_5 _ (List.mem_of_getElem? (i := 226) rfl)
theorem mw_1187 : Jvm.Cond.privateMethod ({ cls := "FractionPoolModel", name := "reduce", desc := "()V" } : Jvm.MethodName) ∈ lw_tbl := mt_5 _ (List.mem_of_getElem? (i := 227) rfl)
theorem mw_1188 : Jvm.Cond.instanceMethod ({ cls := "FractionPoolModel", name := "reduce", desc := "()V" } : Jvm.MethodName) ∈ lw_tbl := mt_5 _ (List.mem_of_getElem? (i := 228) rfl)
theorem mw_1189 : Jvm.Cond.code ({ cls := "FractionPoolModel", name := "reduce", desc := "()V" } : Jvm.MethodName) prog_10_method_24_code (1 : Nat) (Option.none : Option Jvm.ClassFile.FieldType) ∈ lw_tbl := mt_5 _ (List.mem_of_getElem? (i := 229) rfl)
theorem mw_1190 : Jvm.Cond.methodLink "FractionPoolModel" (75 : Nat) ({ cls := "FractionPoolModel", name := "copyTo", desc := "(II)V" } : Jvm.MethodName) ∈ lw_tbl := mt_5 _ (List.mem_of_getElem? (i := 230) rfl)
theorem mw_1191 : Jvm.Cond.privateMethod ({ cls := "FractionPoolModel", name := "copyTo", desc := "(II)V" } : Jvm.MethodName) ∈ lw_tbl := mt_5 _ (List.mem_of_getElem? (i := 231) rfl)
theorem mw_1192 : Jvm.Cond.instanceMethod ({ cls := "FractionPoolModel", name := "copyTo", desc := "(II)V" } : Jvm.MethodName) ∈ lw_tbl := mt_5 _ (List.mem_of_getElem? (i := 232) rfl)
theorem mw_1193 : Jvm.Cond.code ({ cls := "FractionPoolModel", name := "copyTo", desc := "(II)V" } : Jvm.MethodName) prog_10_method_7_code (4 : Nat) (Option.none : Option Jvm.ClassFile.FieldType) ∈ lw_tbl := mt_5 _ (List.mem_of_getElem? (i := 233) rfl)
theorem mw_1194 : Jvm.Cond.methodLink "FractionPoolModel" (84 : Nat) ({ cls := "FractionPoolModel", name := "common", desc := "(II)V" } : Jvm.MethodName) ∈ lw_tbl := mt_5 _ (List.mem_of_getElem? (i := 234) rfl)
theorem mw_1195 : Jvm.Cond.privateMethod ({ cls := "FractionPoolModel", name := "common", desc := "(II)V" } : Jvm.MethodName) ∈ lw_tbl := mt_5 _ (List.mem_of_getElem? (i := 235) rfl)
theorem mw_1196 : Jvm.Cond.instanceMethod ({ cls := "FractionPoolModel", name := "common", desc := "(II)V" } : Jvm.MethodName) ∈ lw_tbl := mt_5 _ (List.mem_of_getElem? (i := 236) rfl)
theorem mw_1197 : Jvm.Cond.code ({ cls := "FractionPoolModel", name := "common", desc := "(II)V" } : Jvm.MethodName) prog_10_method_17_code (3 : Nat) (Option.none : Option Jvm.ClassFile.FieldType) ∈ lw_tbl := mt_5 _ (List.mem_of_getElem? (i := 237) rfl)
theorem mw_1198 : Jvm.Cond.methodLink "FractionPoolModel" (71 : Nat) ({ cls := "FractionPoolModel", name := "divideBy", desc := "(III)V" } : Jvm.MethodName) ∈ lw_tbl := mt_5 _ (List.mem_of_getElem? (i := 238) rfl)
theorem mw_1199 : Jvm.Cond.privateMethod ({ cls := "FractionPoolModel", name := "divideBy", desc := "(III)V" } : Jvm.MethodName) ∈ lw_tbl := mt_5 _ (List.mem_of_getElem? (i := 239) rfl)
theorem mw_1200 : Jvm.Cond.instanceMethod ({ cls := "FractionPoolModel", name := "divideBy", desc := "(III)V" } : Jvm.MethodName) ∈ lw_tbl := mt_6 _ (List.mem_of_getElem? (i := 0) rfl)
theorem mw_1201 : Jvm.Cond.code ({ cls := "FractionPoolModel", name := "divideBy", desc := "(III)V" } : Jvm.MethodName) prog_10_method_16_code (12 : Nat) (Option.none : Option Jvm.ClassFile.FieldType) ∈ lw_tbl := mt_6 _ (List.mem_of_getElem? (i := 1) rfl)
theorem mw_1202 : Jvm.Cond.constantLong "FractionPoolModel" (63 : Nat) (100000000 : Int64) ∈ lw_tbl := mt_6 _ (List.mem_of_getElem? (i := 2) rfl)
theorem mw_1203 : Jvm.Cond.constantLong "FractionPoolModel" (65 : Nat) (1000000000000 : Int64) ∈ lw_tbl := mt_6 _ (List.mem_of_getElem? (i := 3) rfl)
theorem mw_1204 : Jvm.Cond.methodLink "FractionPoolModel" (67 : Nat) ({ cls := "FractionPoolModel", name := "takes", desc := "(IIII)Z" } : Jvm.MethodName) ∈ lw_tbl := mt_6 _ (List.mem_of_getElem? (i := 4) rfl)
theorem mw_1205 : Jvm.Cond.privateMethod ({ cls := "FractionPoolModel", name := "takes", desc := "(IIII)Z" } : Jvm.MethodName) ∈ lw_tbl := mt_6 _ (List.mem_of_getElem? (i := 5) rfl)
theorem mw_1206 : Jvm.Cond.instanceMethod ({ cls := "FractionPoolModel", name := "takes", desc := "(IIII)Z" } : Jvm.MethodName) ∈ lw_tbl := mt_6 _ (List.mem_of_getElem? (i := 6) rfl)
theorem mw_1207 : Jvm.Cond.code ({ cls := "FractionPoolModel", name := "takes", desc := "(IIII)Z" } : Jvm.MethodName) prog_10_method_15_code (10 : Nat) (Option.some Jvm.ClassFile.FieldType.boolean) ∈ lw_tbl := mt_6 _ (List.mem_of_getElem? (i := 7) rfl)
theorem mw_1208 : Jvm.Cond.methodLink "FractionPoolModel" (55 : Nat) ({ cls := "FractionPoolModel", name := "trim", desc := "(II)V" } : Jvm.MethodName) ∈ lw_tbl := mt_6 _ (List.mem_of_getElem? (i := 8) rfl)
theorem mw_1209 : Jvm.Cond.privateMethod ({ cls := "FractionPoolModel", name := "trim", desc := "(II)V" } : Jvm.MethodName) ∈ lw_tbl := mt_6 _ (List.mem_of_getElem? (i := 9) rfl)
theorem mw_1210 : Jvm.Cond.instanceMethod ({ cls := "FractionPoolModel", name := "trim", desc := "(II)V" } : Jvm.MethodName) ∈ lw_tbl := mt_6 _ (List.mem_of_getElem? (i := 10) rfl)
theorem mw_1211 : Jvm.Cond.code ({ cls := "FractionPoolModel", name := "trim", desc := "(II)V" } : Jvm.MethodName) prog_10_method_5_code (4 : Nat) (Option.none : Option Jvm.ClassFile.FieldType) ∈ lw_tbl := mt_6 _ (List.mem_of_getElem? (i := 11) rfl)
theorem mw_1212 : Jvm.Cond.methodLink "FractionPoolModel" (90 : Nat) ({ cls := "FractionPoolModel", name := "store", desc := "(III)I" } : Jvm.MethodName) ∈ lw_tbl := mt_6 _ (List.mem_of_getElem? (i := 12) rfl)
theorem mw_1213 : Jvm.Cond.privateMethod ({ cls := "FractionPoolModel", name := "store", desc := "(III)I" } : Jvm.MethodName) ∈ lw_tbl := mt_6 _ (List.mem_of_getElem? (i := 13) rfl)
theorem mw_1214 : Jvm.Cond.instanceMethod ({ cls := "FractionPoolModel", name := "store", desc := "(III)I" } : Jvm.MethodName) ∈ lw_tbl := mt_6 _ (List.mem_of_getElem? (i := 14) rfl)
theorem mw_1215 : Jvm.Cond.code ({ cls := "FractionPoolModel", name := "store", desc := "(III)I" } : Jvm.MethodName) prog_10_method_26_code (5 : Nat) (Option.some Jvm.ClassFile.FieldType.int) ∈ lw_tbl := mt_6 _ (List.mem_of_getElem? (i := 15) rfl)
theorem mw_1216 : Jvm.Cond.methodLink "FractionPoolModel" (94 : Nat) ({ cls := "FractionPoolModel", name := "limbs", desc := "(I)I" } : Jvm.MethodName) ∈ lw_tbl := mt_6 _ (List.mem_of_getElem? (i := 16) rfl)
theorem mw_1217 : Jvm.Cond.privateMethod ({ cls := "FractionPoolModel", name := "limbs", desc := "(I)I" } : Jvm.MethodName) ∈ lw_tbl := mt_6 _ (List.mem_of_getElem? (i := 17) rfl)
theorem mw_1218 : Jvm.Cond.instanceMethod ({ cls := "FractionPoolModel", name := "limbs", desc := "(I)I" } : Jvm.MethodName) ∈ lw_tbl := mt_6 _ (List.mem_of_getElem? (i := 18) rfl)
theorem mw_1219 : Jvm.Cond.code ({ cls := "FractionPoolModel", name := "limbs", desc := "(I)I" } : Jvm.MethodName) prog_10_method_20_code (2 : Nat) (Option.some Jvm.ClassFile.FieldType.int) ∈ lw_tbl := mt_6 _ (List.mem_of_getElem? (i := 19) rfl)
theorem mw_1220 : Jvm.Cond.methodLink "FractionPoolModel" (80 : Nat) ({ cls := "FractionPoolModel", name := "parts", desc := "(I)I" } : Jvm.MethodName) ∈ lw_tbl := mt_6 _ (List.mem_of_getElem? (i := 20) rfl)
theorem mw_1221 : Jvm.Cond.privateMethod ({ cls := "FractionPoolModel", name := "parts", desc := "(I)I" } : Jvm.MethodName) ∈ lw_tbl := mt_6 _ (List.mem_of_getElem? (i := 21) rfl)
theorem mw_1222 : Jvm.Cond.instanceMethod ({ cls := "FractionPoolModel", name := "parts", desc := "(I)I" } : Jvm.MethodName) ∈ lw_tbl := mt_6 _ (List.mem_of_getElem? (i := 22) rfl)
theorem mw_1223 : Jvm.Cond.code ({ cls := "FractionPoolModel", name := "parts", desc := "(I)I" } : Jvm.MethodName) prog_10_method_18_code (6 : Nat) (Option.some Jvm.ClassFile.FieldType.int) ∈ lw_tbl := mt_6 _ (List.mem_of_getElem? (i := 23) rfl)
theorem mw_1224 : Jvm.Cond.constant "FractionPoolModel" (78 : Nat) (48000 : Int32) ∈ lw_tbl := mt_6 _ (List.mem_of_getElem? (i := 24) rfl)
theorem mw_1225 : Jvm.Cond.constant "FractionPoolModel" (79 : Nat) (65536 : Int32) ∈ lw_tbl := mt_6 _ (List.mem_of_getElem? (i := 25) rfl)
theorem mw_1226 : Jvm.Cond.methodLink "FractionPoolModel" (97 : Nat) ({ cls := "FractionPoolModel", name := "used", desc := "()I" } : Jvm.MethodName) ∈ lw_tbl := mt_6 _ (List.mem_of_getElem? (i := 26) rfl)
theorem mw_1227 : Jvm.Cond.methodLink "FractionPoolModel" (105 : Nat) ({ cls := "FractionPoolModel", name := "keep", desc := "(II)V" } : Jvm.MethodName) ∈ lw_tbl := mt_6 _ (List.mem_of_getElem? (i := 27) rfl)
theorem mw_1228 : Jvm.Cond.privateMethod ({ cls := "FractionPoolModel", name := "keep", desc := "(II)V" } : Jvm.MethodName) ∈ lw_tbl := mt_6 _ (List.mem_of_getElem? (i := 28) rfl)
theorem mw_1229 : Jvm.Cond.instanceMethod ({ cls := "FractionPoolModel", name := "keep", desc := "(II)V" } : Jvm.MethodName) ∈ lw_tbl := mt_6 _ (List.mem_of_getElem? (i := 29) rfl)
theorem mw_1230 : Jvm.Cond.code ({ cls := "FractionPoolModel", name := "keep", desc := "(II)V" } : Jvm.MethodName) prog_10_method_22_code (4 : Nat) (Option.none : Option Jvm.ClassFile.FieldType) ∈ lw_tbl := mt_6 _ (List.mem_of_getElem? (i := 30) rfl)
theorem mw_1231 : Jvm.Cond.methodLink "FractionPoolLaw" (103 : Nat) ({ cls := "FractionPoolModel", name := "copy", desc := "(II)I" } : Jvm.MethodName) ∈ lw_tbl := mt_6 _ (List.mem_of_getElem? (i := 31) rfl)
theorem mw_1232 : Jvm.Cond.instanceMethod ({ cls := "FractionPoolModel", name := "copy", desc := "(II)I" } : Jvm.MethodName) ∈ lw_tbl := mt_6 _ (List.mem_of_getElem? (i := 32) rfl)
theorem mw_1233 : Jvm.Cond.selects "FractionPoolModel" ({ cls := "FractionPoolModel", name := "copy", desc := "(II)I" } : Jvm.MethodName) ({ cls := "FractionPoolModel", name := "copy", desc := "(II)I" } : Jvm.MethodName) ∈ lw_tbl := mt_6 _ (List.mem_of_getElem? (i := 33) rfl)
theorem mw_1234 : Jvm.Cond.code ({ cls := "FractionPoolModel", name := "copy", desc := "(II)I" } : Jvm.MethodName) prog_10_method_28_code (3 : Nat) (Option.some Jvm.ClassFile.FieldType.int) ∈ lw_tbl := mt_6 _ (List.mem_of_getElem? (i := 34) rfl)
theorem mw_1235 : Jvm.Cond.methodLink "FractionPoolModel" (118 : Nat) ({ cls := "FractionPoolModel", name := "load", desc := "(II)V" } : Jvm.MethodName) ∈ lw_tbl := mt_6 _ (List.mem_of_getElem? (i := 35) rfl)
theorem mw_1236 : Jvm.Cond.privateMethod ({ cls := "FractionPoolModel", name := "load", desc := "(II)V" } : Jvm.MethodName) ∈ lw_tbl := mt_6 _ (List.mem_of_getElem? (i := 36) rfl)
theorem mw_1237 : Jvm.Cond.instanceMethod ({ cls := "FractionPoolModel", name := "load", desc := "(II)V" } : Jvm.MethodName) ∈ lw_tbl := mt_6 _ (List.mem_of_getElem? (i := 37) rfl)
theorem mw_1238 : Jvm.Cond.code ({ cls := "FractionPoolModel", name := "load", desc := "(II)V" } : Jvm.MethodName) prog_10_method_21_code (4 : Nat) (Option.none : Option Jvm.ClassFile.FieldType) ∈ lw_tbl := mt_6 _ (List.mem_of_getElem? (i := 38) rfl)
theorem mw_1239 : Jvm.Cond.methodLink "FractionPoolLaw" (106 : Nat) ({ cls := "FractionPoolModel", name := "swap", desc := "(II)I" } : Jvm.MethodName) ∈ lw_tbl := mt_6 _ (List.mem_of_getElem? (i := 39) rfl)
theorem mw_1240 : Jvm.Cond.instanceMethod ({ cls := "FractionPoolModel", name := "swap", desc := "(II)I" } : Jvm.MethodName) ∈ lw_tbl := mt_6 _ (List.mem_of_getElem? (i := 40) rfl)
theorem mw_1241 : Jvm.Cond.selects "FractionPoolModel" ({ cls := "FractionPoolModel", name := "swap", desc := "(II)I" } : Jvm.MethodName) ({ cls := "FractionPoolModel", name := "swap", desc := "(II)I" } : Jvm.MethodName) ∈ lw_tbl := mt_6 _ (List.mem_of_getElem? (i := 41) rfl)
theorem mw_1242 : Jvm.Cond.code ({ cls := "FractionPoolModel", name := "swap", desc := "(II)I" } : Jvm.MethodName) prog_10_method_29_code (5 : Nat) (Option.some Jvm.ClassFile.FieldType.int) ∈ lw_tbl := mt_6 _ (List.mem_of_getElem? (i := 42) rfl)
theorem mw_1243 : Jvm.Cond.methodLink "FractionPoolLaw" (110 : Nat) ({ cls := "FractionPoolModel", name := "add", desc := "(III)I" } : Jvm.MethodName) ∈ lw_tbl := mt_6 _ (List.mem_of_getElem? (i := 43) rfl)
theorem mw_1244 : Jvm.Cond.instanceMethod ({ cls := "FractionPoolModel", name := "add", desc := "(III)I" } : Jvm.MethodName) ∈ lw_tbl := mt_6 _ (List.mem_of_getElem? (i := 44) rfl)
theorem mw_1245 : Jvm.Cond.selects "FractionPoolModel" ({ cls := "FractionPoolModel", name := "add", desc := "(III)I" } : Jvm.MethodName) ({ cls := "FractionPoolModel", name := "add", desc := "(III)I" } : Jvm.MethodName) ∈ lw_tbl := mt_6 _ (List.mem_of_getElem? (i := 45) rfl)
theorem mw_1246 : Jvm.Cond.code ({ cls := "FractionPoolModel", name := "add", desc := "(III)I" } : Jvm.MethodName) prog_10_method_32_code (4 : Nat) (Option.some Jvm.ClassFile.FieldType.int) ∈ lw_tbl := mt_6 _ (List.mem_of_getElem? (i := 46) rfl)
theorem mw_1247 : Jvm.Cond.methodLink "FractionPoolModel" (136 : Nat) ({ cls := "FractionPoolModel", name := "sums", desc := "(IIIZ)I" } : Jvm.MethodName) ∈ lw_tbl := mt_6 _ (List.mem_of_getElem? (i := 47) rfl)
theorem mw_1248 : Jvm.Cond.privateMethod ({ cls := "FractionPoolModel", name := "sums", desc := "(IIIZ)I" } : Jvm.MethodName) ∈ lw_tbl := mt_6 _ (List.mem_of_getElem? (i := 48) rfl)
theorem mw_1249 : Jvm.Cond.instanceMethod ({ cls := "FractionPoolModel", name := "sums", desc := "(IIIZ)I" } : Jvm.MethodName) ∈ lw_tbl := mt_6 _ (List.mem_of_getElem? (i := 49) rfl)
theorem mw_1250 : Jvm.Cond.code ({ cls := "FractionPoolModel", name := "sums", desc := "(IIIZ)I" } : Jvm.MethodName) prog_10_method_31_code (6 : Nat) (Option.some Jvm.ClassFile.FieldType.int) ∈ lw_tbl := mt_6 _ (List.mem_of_getElem? (i := 50) rfl)
theorem mw_1251 : Jvm.Cond.methodLink "FractionPoolModel" (133 : Nat) ({ cls := "FractionPoolModel", name := "sum", desc := "(II)I" } : Jvm.MethodName) ∈ lw_tbl := mt_6 _ (List.mem_of_getElem? (i := 51) rfl)
theorem mw_1252 : Jvm.Cond.privateMethod ({ cls := "FractionPoolModel", name := "sum", desc := "(II)I" } : Jvm.MethodName) ∈ lw_tbl := mt_6 _ (List.mem_of_getElem? (i := 52) rfl)
theorem mw_1253 : Jvm.Cond.instanceMethod ({ cls := "FractionPoolModel", name := "sum", desc := "(II)I" } : Jvm.MethodName) ∈ lw_tbl := mt_6 _ (List.mem_of_getElem? (i := 53) rfl)
theorem mw_1254 : Jvm.Cond.code ({ cls := "FractionPoolModel", name := "sum", desc := "(II)I" } : Jvm.MethodName) prog_10_method_30_code (4 : Nat) (Option.some Jvm.ClassFile.FieldType.int) ∈ lw_tbl := mt_6 _ (List.mem_of_getElem? (i := 54) rfl)
theorem mw_1255 : Jvm.Cond.methodLink "FractionPoolModel" (121 : Nat) ({ cls := "FractionPoolModel", name := "product", desc := "(III)V" } : Jvm.MethodName) ∈ lw_tbl := mt_6 _ (List.mem_of_getElem? (i := 55) rfl)
theorem mw_1256 : Jvm.Cond.privateMethod ({ cls := "FractionPoolModel", name := "product", desc := "(III)V" } : Jvm.MethodName) ∈ lw_tbl := mt_6 _ (List.mem_of_getElem? (i := 56) rfl)
theorem mw_1257 : Jvm.Cond.instanceMethod ({ cls := "FractionPoolModel", name := "product", desc := "(III)V" } : Jvm.MethodName) ∈ lw_tbl := mt_6 _ (List.mem_of_getElem? (i := 57) rfl)
theorem mw_1258 : Jvm.Cond.code ({ cls := "FractionPoolModel", name := "product", desc := "(III)V" } : Jvm.MethodName) prog_10_method_14_code (10 : Nat) (Option.none : Option Jvm.ClassFile.FieldType) ∈ lw_tbl := mt_6 _ (List.mem_of_getElem? (i := 58) rfl)
theorem mw_1259 : Jvm.Cond.methodLink "FractionPoolModel" (124 : Nat) ({ cls := "FractionPoolModel", name := "addTo", desc := "(II)V" } : Jvm.MethodName) ∈ lw_tbl := mt_6 _ (List.mem_of_getElem? (i := 59) rfl)
theorem mw_1260 : Jvm.Cond.privateMethod ({ cls := "FractionPoolModel", name := "addTo", desc := "(II)V" } : Jvm.MethodName) ∈ lw_tbl := mt_6 _ (List.mem_of_getElem? (i := 60) rfl)
theorem mw_1261 : Jvm.Cond.instanceMethod ({ cls := "FractionPoolModel", name := "addTo", desc := "(II)V" } : Jvm.MethodName) ∈ lw_tbl := mt_6 _ (List.mem_of_getElem? (i := 61) rfl)
theorem mw_1262 : Jvm.Cond.code ({ cls := "FractionPoolModel", name := "addTo", desc := "(II)V" } : Jvm.MethodName) prog_10_method_10_code (7 : Nat) (Option.none : Option Jvm.ClassFile.FieldType) ∈ lw_tbl := mt_6 _ (List.mem_of_getElem? (i := 62) rfl)
theorem mw_1263 : Jvm.Cond.methodLink "FractionPoolModel" (51 : Nat) ({ cls := "FractionPoolModel", name := "figure", desc := "(II)I" } : Jvm.MethodName) ∈ lw_tbl := mt_6 _ (List.mem_of_getElem? (i := 63) rfl)
theorem mw_1264 : Jvm.Cond.privateMethod ({ cls := "FractionPoolModel", name := "figure", desc := "(II)I" } : Jvm.MethodName) ∈ lw_tbl := mt_6 _ (List.mem_of_getElem? (i := 64) rfl)
theorem mw_1265 : Jvm.Cond.instanceMethod ({ cls := "FractionPoolModel", name := "figure", desc := "(II)I" } : Jvm.MethodName) ∈ lw_tbl := mt_6 _ (List.mem_of_getElem? (i := 65) rfl)
theorem mw_1266 : Jvm.Cond.code ({ cls := "FractionPoolModel", name := "figure", desc := "(II)I" } : Jvm.MethodName) prog_10_method_9_code (3 : Nat) (Option.some Jvm.ClassFile.FieldType.int) ∈ lw_tbl := mt_6 _ (List.mem_of_getElem? (i := 66) rfl)
theorem mw_1267 : Jvm.Cond.methodLink "FractionPoolModel" (127 : Nat) ({ cls := "FractionPoolModel", name := "order", desc := "(II)I" } : Jvm.MethodName) ∈ lw_tbl := mt_6 _ (List.mem_of_getElem? (i := 67) rfl)
theorem mw_1268 : Jvm.Cond.privateMethod ({ cls := "FractionPoolModel", name := "order", desc := "(II)I" } : Jvm.MethodName) ∈ lw_tbl := mt_6 _ (List.mem_of_getElem? (i := 68) rfl)
theorem mw_1269 : Jvm.Cond.instanceMethod ({ cls := "FractionPoolModel", name := "order", desc := "(II)I" } : Jvm.MethodName) ∈ lw_tbl := mt_6 _ (List.mem_of_getElem? (i := 69) rfl)
theorem mw_1270 : Jvm.Cond.code ({ cls := "FractionPoolModel", name := "order", desc := "(II)I" } : Jvm.MethodName) prog_10_method_8_code (5 : Nat) (Option.some Jvm.ClassFile.FieldType.int) ∈ lw_tbl := mt_6 _ (List.mem_of_getElem? (i := 70) rfl)
theorem mw_1271 : Jvm.Cond.methodLink "FractionPoolModel" (130 : Nat) ({ cls := "FractionPoolModel", name := "takeFrom", desc := "(II)V" } : Jvm.MethodName) ∈ lw_tbl := mt_6 _ (List.mem_of_getElem? (i := 71) rfl)
theorem mw_1272 : Jvm.Cond.privateMethod ({ cls := "FractionPoolModel", name := "takeFrom", desc := "(II)V" } : Jvm.MethodName) ∈ lw_tbl := mt_6 _ (List.mem_of_getElem? (i := 72) rfl)
theorem mw_1273 : Jvm.Cond.instanceMethod ({ cls := "FractionPoolModel", name := "takeFrom", desc := "(II)V" } : Jvm.MethodName) ∈ lw_tbl := mt_6 _ (List.mem_of_getElem? (i := 73) rfl)
theorem mw_1274 : Jvm.Cond.code ({ cls := "FractionPoolModel", name := "takeFrom", desc := "(II)V" } : Jvm.MethodName) prog_10_method_11_code (6 : Nat) (Option.none : Option Jvm.ClassFile.FieldType) ∈ lw_tbl := mt_6 _ (List.mem_of_getElem? (i := 74) rfl)
theorem mw_1275 : Jvm.Cond.methodLink "FractionPoolLaw" (113 : Nat) ({ cls := "FractionPoolModel", name := "subtract", desc := "(III)I" } : Jvm.MethodName) ∈ lw_tbl := mt_6 _ (List.mem_of_getElem? (i := 75) rfl)
theorem mw_1276 : Jvm.Cond.instanceMethod ({ cls := "FractionPoolModel", name := "subtract", desc := "(III)I" } : Jvm.MethodName) ∈ lw_tbl := mt_6 _ (List.mem_of_getElem? (i := 76) rfl)
theorem mw_1277 : Jvm.Cond.selects "FractionPoolModel" ({ cls := "FractionPoolModel", name := "subtract", desc := "(III)I" } : Jvm.MethodName) ({ cls := "FractionPoolModel", name := "subtract", desc := "(III)I" } : Jvm.MethodName) ∈ lw_tbl := mt_6 _ (List.mem_of_getElem? (i := 77) rfl)
theorem mw_1278 : Jvm.Cond.code ({ cls := "FractionPoolModel", name := "subtract", desc := "(III)I" } : Jvm.MethodName) prog_10_method_33_code (4 : Nat) (Option.some Jvm.ClassFile.FieldType.int) ∈ lw_tbl := mt_6 _ (List.mem_of_getElem? (i := 78) rfl)
theorem mw_1279 : Jvm.Cond.methodLink "FractionPoolLaw" (116 : Nat) ({ cls := "FractionPoolModel", name := "multiply", desc := "(III)I" } : Jvm.MethodName) ∈ lw_tbl := mt_6 _ (List.mem_of_getElem? (i := 79) rfl)
theorem mw_1280 : Jvm.Cond.instanceMethod ({ cls := "FractionPoolModel", name := "multiply", desc := "(III)I" } : Jvm.MethodName) ∈ lw_tbl := mt_6 _ (List.mem_of_getElem? (i := 80) rfl)
theorem mw_1281 : Jvm.Cond.selects "FractionPoolModel" ({ cls := "FractionPoolModel", name := "multiply", desc := "(III)I" } : Jvm.MethodName) ({ cls := "FractionPoolModel", name := "multiply", desc := "(III)I" } : Jvm.MethodName) ∈ lw_tbl := mt_6 _ (List.mem_of_getElem? (i := 81) rfl)
theorem mw_1282 : Jvm.Cond.code ({ cls := "FractionPoolModel", name := "multiply", desc := "(III)I" } : Jvm.MethodName) prog_10_method_35_code (4 : Nat) (Option.some Jvm.ClassFile.FieldType.int) ∈ lw_tbl := mt_6 _ (List.mem_of_getElem? (i := 82) rfl)
theorem mw_1283 : Jvm.Cond.methodLink "FractionPoolModel" (140 : Nat) ({ cls := "FractionPoolModel", name := "products", desc := "(IIIZ)I" } : Jvm.MethodName) ∈ lw_tbl := mt_6 _ (List.mem_of_getElem? (i := 83) rfl)
theorem mw_1284 : Jvm.Cond.privateMethod ({ cls := "FractionPoolModel", name := "products", desc := "(IIIZ)I" } : Jvm.MethodName) ∈ lw_tbl := mt_6 _ (List.mem_of_getElem? (i := 84) rfl)
theorem mw_1285 : Jvm.Cond.instanceMethod ({ cls := "FractionPoolModel", name := "products", desc := "(IIIZ)I" } : Jvm.MethodName) ∈ lw_tbl := mt_6 _ (List.mem_of_getElem? (i := 85) rfl)
theorem mw_1286 : Jvm.Cond.code ({ cls := "FractionPoolModel", name := "products", desc := "(IIIZ)I" } : Jvm.MethodName) prog_10_method_34_code (5 : Nat) (Option.some Jvm.ClassFile.FieldType.int) ∈ lw_tbl := mt_6 _ (List.mem_of_getElem? (i := 86) rfl)
theorem mw_1287 : Jvm.Cond.methodLink "FractionPoolLaw" (119 : Nat) ({ cls := "FractionPoolModel", name := "divide", desc := "(III)I" } : Jvm.MethodName) ∈ lw_tbl := mt_6 _ (List.mem_of_getElem? (i := 87) rfl)
theorem mw_1288 : Jvm.Cond.instanceMethod ({ cls := "FractionPoolModel", name := "divide", desc := "(III)I" } : Jvm.MethodName) ∈ lw_tbl := mt_6 _ (List.mem_of_getElem? (i := 88) rfl)
theorem mw_1289 : Jvm.Cond.selects "FractionPoolModel" ({ cls := "FractionPoolModel", name := "divide", desc := "(III)I" } : Jvm.MethodName) ({ cls := "FractionPoolModel", name := "divide", desc := "(III)I" } : Jvm.MethodName) ∈ lw_tbl := mt_6 _ (List.mem_of_getElem? (i := 89) rfl)
theorem mw_1290 : Jvm.Cond.code ({ cls := "FractionPoolModel", name := "divide", desc := "(III)I" } : Jvm.MethodName) prog_10_method_36_code (4 : Nat) (Option.some Jvm.ClassFile.FieldType.int) ∈ lw_tbl := mt_6 _ (List.mem_of_getElem? (i := 90) rfl)
theorem mw_1291 : Jvm.Cond.methodLink "FractionPoolLaw" (122 : Nat) ({ cls := "FractionPoolModel", name := "power", desc := "(III)I" } : Jvm.MethodName) ∈ lw_tbl := mt_6 _ (List.mem_of_getElem? (i := 91) rfl)
theorem mw_1292 : Jvm.Cond.instanceMethod ({ cls := "FractionPoolModel", name := "power", desc := "(III)I" } : Jvm.MethodName) ∈ lw_tbl := mt_6 _ (List.mem_of_getElem? (i := 92) rfl)
theorem mw_1293 : Jvm.Cond.selects "FractionPoolModel" ({ cls := "FractionPoolModel", name := "power", desc := "(III)I" } : Jvm.MethodName) ({ cls := "FractionPoolModel", name := "power", desc := "(III)I" } : Jvm.MethodName) ∈ lw_tbl := mt_6 _ (List.mem_of_getElem? (i := 93) rfl)
theorem mw_1294 : Jvm.Cond.code ({ cls := "FractionPoolModel", name := "power", desc := "(III)I" } : Jvm.MethodName) prog_10_method_38_code (7 : Nat) (Option.some Jvm.ClassFile.FieldType.int) ∈ lw_tbl := mt_6 _ (List.mem_of_getElem? (i := 94) rfl)
theorem mw_1295 : Jvm.Cond.methodLink "FractionPoolModel" (143 : Nat) ({ cls := "FractionPoolModel", name := "bits", desc := "(I)I" } : Jvm.MethodName) ∈ lw_tbl := mt_6 _ (List.mem_of_getElem? (i := 95) rfl)
theorem mw_1296 : Jvm.Cond.privateMethod ({ cls := "FractionPoolModel", name := "bits", desc := "(I)I" } : Jvm.MethodName) ∈ lw_tbl := mt_6 _ (List.mem_of_getElem? (i := 96) rfl)
theorem mw_1297 : Jvm.Cond.instanceMethod ({ cls := "FractionPoolModel", name := "bits", desc := "(I)I" } : Jvm.MethodName) ∈ lw_tbl := mt_6 _ (List.mem_of_getElem? (i := 97) rfl)
theorem mw_1298 : Jvm.Cond.code ({ cls := "FractionPoolModel", name := "bits", desc := "(I)I" } : Jvm.MethodName) prog_10_method_19_code (4 : Nat) (Option.some Jvm.ClassFile.FieldType.int) ∈ lw_tbl := mt_6 _ (List.mem_of_getElem? (i := 98) rfl)
theorem mw_1299 : Jvm.Cond.constantLong "FractionPoolModel" (146 : Nat) (33000 : Int64) ∈ lw_tbl := mt_6 _ (List.mem_of_getElem? (i := 99) rfl)
theorem mw_1300 : Jvm.Cond.methodLink "FractionPoolModel" (148 : Nat) ({ cls := "FractionPoolModel", name := "raise", desc := "(II)V" } : Jvm.MethodName) ∈ lw_tbl := mt_6 _ (List.mem_of_getElem? (i := 100) rfl)
theorem mw_1301 : Jvm.Cond.privateMethod ({ cls := "FractionPoolModel", name := "raise", desc := "(II)V" } : Jvm.MethodName) ∈ lw_tbl := mt_6 _ (List.mem_of_getElem? (i := 101) rfl)
theorem mw_1302 : Jvm.Cond.instanceMethod ({ cls := "FractionPoolModel", name := "raise", desc := "(II)V" } : Jvm.MethodName) ∈ lw_tbl := mt_6 _ (List.mem_of_getElem? (i := 102) rfl)
theorem mw_1303 : Jvm.Cond.code ({ cls := "FractionPoolModel", name := "raise", desc := "(II)V" } : Jvm.MethodName) prog_10_method_37_code (4 : Nat) (Option.none : Option Jvm.ClassFile.FieldType) ∈ lw_tbl := mt_6 _ (List.mem_of_getElem? (i := 103) rfl)
theorem mw_1304 : Jvm.Cond.methodLink "FractionPoolLaw" (126 : Nat) ({ cls := "FractionPoolModel", name := "dot", desc := "(IIII)I" } : Jvm.MethodName) ∈ lw_tbl := mt_6 _ (List.mem_of_getElem? (i := 104) rfl)
theorem mw_1305 : Jvm.Cond.instanceMethod ({ cls := "FractionPoolModel", name := "dot", desc := "(IIII)I" } : Jvm.MethodName) ∈ lw_tbl := mt_6 _ (List.mem_of_getElem? (i := 105) rfl)
theorem mw_1306 : Jvm.Cond.selects "FractionPoolModel" ({ cls := "FractionPoolModel", name := "dot", desc := "(IIII)I" } : Jvm.MethodName) ({ cls := "FractionPoolModel", name := "dot", desc := "(IIII)I" } : Jvm.MethodName) ∈ lw_tbl := mt_6 _ (List.mem_of_getElem? (i := 106) rfl)
theorem mw_1307 : Jvm.Cond.code ({ cls := "FractionPoolModel", name := "dot", desc := "(IIII)I" } : Jvm.MethodName) prog_10_method_39_code (8 : Nat) (Option.some Jvm.ClassFile.FieldType.int) ∈ lw_tbl := mt_6 _ (List.mem_of_getElem? (i := 107) rfl)
theorem mw_1308 : Jvm.Cond.methodLink "FractionPoolLaw" (129 : Nat) ({ cls := "FractionPoolModel", name := "floor", desc := "(II)I" } : Jvm.MethodName) ∈ lw_tbl := mt_6 _ (List.mem_of_getElem? (i := 108) rfl)
theorem mw_1309 : Jvm.Cond.instanceMethod ({ cls := "FractionPoolModel", name := "floor", desc := "(II)I" } : Jvm.MethodName) ∈ lw_tbl := mt_6 _ (List.mem_of_getElem? (i := 109) rfl)
theorem mw_1310 : Jvm.Cond.selects "FractionPoolModel" ({ cls := "FractionPoolModel", name := "floor", desc := "(II)I" } : Jvm.MethodName) ({ cls := "FractionPoolModel", name := "floor", desc := "(II)I" } : Jvm.MethodName) ∈ lw_tbl := mt_6 _ (List.mem_of_getElem? (i := 110) rfl)
theorem mw_1311 : Jvm.Cond.code ({ cls := "FractionPoolModel", name := "floor", desc := "(II)I" } : Jvm.MethodName) prog_10_method_40_code (3 : Nat) (Option.some Jvm.ClassFile.FieldType.int) ∈ lw_tbl := mt_6 _ (List.mem_of_getElem? (i := 111) rfl)
theorem mw_1312 : Jvm.Cond.methodLink "FractionPoolLaw" (132 : Nat) ({ cls := "FractionPoolModel", name := "round", desc := "(III)I" } : Jvm.MethodName) ∈ lw_tbl := mt_6 _ (List.mem_of_getElem? (i := 112) rfl)
theorem mw_1313 : Jvm.Cond.instanceMethod ({ cls := "FractionPoolModel", name := "round", desc := "(III)I" } : Jvm.MethodName) ∈ lw_tbl := mt_6 _ (List.mem_of_getElem? (i := 113) rfl)
theorem mw_1314 : Jvm.Cond.selects "FractionPoolModel" ({ cls := "FractionPoolModel", name := "round", desc := "(III)I" } : Jvm.MethodName) ({ cls := "FractionPoolModel", name := "round", desc := "(III)I" } : Jvm.MethodName) ∈ lw_tbl := mt_6 _ (List.mem_of_getElem? (i := 114) rfl)
theorem mw_1315 : Jvm.Cond.code ({ cls := "FractionPoolModel", name := "round", desc := "(III)I" } : Jvm.MethodName) prog_10_method_43_code (6 : Nat) (Option.some Jvm.ClassFile.FieldType.int) ∈ lw_tbl := mt_6 _ (List.mem_of_getElem? (i := 115) rfl)
theorem mw_1316 : Jvm.Cond.methodLink "FractionPoolModel" (157 : Nat) ({ cls := "FractionPoolModel", name := "copy", desc := "(II)I" } : Jvm.MethodName) ∈ lw_tbl := mt_6 _ (List.mem_of_getElem? (i := 116) rfl)
theorem mw_1317 : Jvm.Cond.methodLink "FractionPoolModel" (151 : Nat) ({ cls := "FractionPoolModel", name := "doubled", desc := "(II)V" } : Jvm.MethodName) ∈ lw_tbl := mt_6 _ (List.mem_of_getElem? (i := 117) rfl)
theorem mw_1318 : Jvm.Cond.privateMethod ({ cls := "FractionPoolModel", name := "doubled", desc := "(II)V" } : Jvm.MethodName) ∈ lw_tbl := mt_6 _ (List.mem_of_getElem? (i := 118) rfl)
theorem mw_1319 : Jvm.Cond.instanceMethod ({ cls := "FractionPoolModel", name := "doubled", desc := "(II)V" } : Jvm.MethodName) ∈ lw_tbl := mt_6 _ (List.mem_of_getElem? (i := 119) rfl)
theorem mw_1320 : Jvm.Cond.code ({ cls := "FractionPoolModel", name := "doubled", desc := "(II)V" } : Jvm.MethodName) prog_10_method_13_code (4 : Nat) (Option.none : Option Jvm.ClassFile.FieldType) ∈ lw_tbl := mt_6 _ (List.mem_of_getElem? (i := 120) rfl)
theorem mw_1321 : Jvm.Cond.constant "FractionPoolModel" (59 : Nat) (16777216 : Int32) ∈ lw_tbl := mt_6 _ (List.mem_of_getElem? (i := 121) rfl)
theorem mw_1322 : Jvm.Cond.methodLink "FractionPoolModel" (60 : Nat) ({ cls := "FractionPoolModel", name := "small", desc := "(II)V" } : Jvm.MethodName) ∈ lw_tbl := mt_6 _ (List.mem_of_getElem? (i := 122) rfl)
theorem mw_1323 : Jvm.Cond.privateMethod ({ cls := "FractionPoolModel", name := "small", desc := "(II)V" } : Jvm.MethodName) ∈ lw_tbl := mt_6 _ (List.mem_of_getElem? (i := 123) rfl)
theorem mw_1324 : Jvm.Cond.instanceMethod ({ cls := "FractionPoolModel", name := "small", desc := "(II)V" } : Jvm.MethodName) ∈ lw_tbl := mt_6 _ (List.mem_of_getElem? (i := 124) rfl)
theorem mw_1325 : Jvm.Cond.code ({ cls := "FractionPoolModel", name := "small", desc := "(II)V" } : Jvm.MethodName) prog_10_method_12_code (7 : Nat) (Option.none : Option Jvm.ClassFile.FieldType) ∈ lw_tbl := mt_6 _ (List.mem_of_getElem? (i := 125) rfl)
theorem mw_1326 : Jvm.Cond.methodLink "FractionPoolModel" (160 : Nat) ({ cls := "FractionPoolModel", name := "multiple", desc := "(III)I" } : Jvm.MethodName) ∈ lw_tbl := mt_6 _ (List.mem_of_getElem? (i := 126) rfl)
theorem mw_1327 : Jvm.Cond.privateMethod ({ cls := "FractionPoolModel", name := "multiple", desc := "(III)I" } : Jvm.MethodName) ∈ lw_tbl := mt_6 _ (List.mem_of_getElem? (i := 127) rfl)
theorem mw_1328 : Jvm.Cond.instanceMethod ({ cls := "FractionPoolModel", name := "multiple", desc := "(III)I" } : Jvm.MethodName) ∈ lw_tbl := mt_6 _ (List.mem_of_getElem? (i := 128) rfl)
theorem mw_1329 : Jvm.Cond.code ({ cls := "FractionPoolModel", name := "multiple", desc := "(III)I" } : Jvm.MethodName) prog_10_method_42_code (4 : Nat) (Option.some Jvm.ClassFile.FieldType.int) ∈ lw_tbl := mt_6 _ (List.mem_of_getElem? (i := 129) rfl)
theorem mw_1330 : Jvm.Cond.methodLink "FractionPoolModel" (154 : Nat) ({ cls := "FractionPoolModel", name := "nearest", desc := "()V" } : Jvm.MethodName) ∈ lw_tbl := mt_6 _ (List.mem_of_getElem? (i := 130) rfl)
theorem mw_1331 : Jvm.Cond.privateMethod ({ cls := "FractionPoolModel", name := "nearest", desc := "()V" } : Jvm.MethodName) ∈ lw_tbl := mt_6 _ (List.mem_of_getElem? (i := 131) rfl)
theorem mw_1332 : Jvm.Cond.instanceMethod ({ cls := "FractionPoolModel", name := "nearest", desc := "()V" } : Jvm.MethodName) ∈ lw_tbl := mt_6 _ (List.mem_of_getElem? (i := 132) rfl)
theorem mw_1333 : Jvm.Cond.code ({ cls := "FractionPoolModel", name := "nearest", desc := "()V" } : Jvm.MethodName) prog_10_method_41_code (3 : Nat) (Option.none : Option Jvm.ClassFile.FieldType) ∈ lw_tbl := mt_6 _ (List.mem_of_getElem? (i := 133) rfl)
theorem mw_1334 : Jvm.Cond.methodLink "FractionPoolLaw" (135 : Nat) ({ cls := "FractionPoolModel", name := "align", desc := "(III)I" } : Jvm.MethodName) ∈ lw_tbl := mt_6 _ (List.mem_of_getElem? (i := 134) rfl)
theorem mw_1335 : Jvm.Cond.instanceMethod ({ cls := "FractionPoolModel", name := "align", desc := "(III)I" } : Jvm.MethodName) ∈ lw_tbl := mt_6 _ (List.mem_of_getElem? (i := 135) rfl)
theorem mw_1336 : Jvm.Cond.selects "FractionPoolModel" ({ cls := "FractionPoolModel", name := "align", desc := "(III)I" } : Jvm.MethodName) ({ cls := "FractionPoolModel", name := "align", desc := "(III)I" } : Jvm.MethodName) ∈ lw_tbl := mt_6 _ (List.mem_of_getElem? (i := 136) rfl)
theorem mw_1337 : Jvm.Cond.code ({ cls := "FractionPoolModel", name := "align", desc := "(III)I" } : Jvm.MethodName) prog_10_method_44_code (4 : Nat) (Option.some Jvm.ClassFile.FieldType.int) ∈ lw_tbl := mt_6 _ (List.mem_of_getElem? (i := 137) rfl)
theorem mw_1338 : Jvm.Cond.methodLink "FractionPoolLaw" (138 : Nat) ({ cls := "FractionPoolModel", name := "compare", desc := "(II)I" } : Jvm.MethodName) ∈ lw_tbl := mt_6 _ (List.mem_of_getElem? (i := 138) rfl)
theorem mw_1339 : Jvm.Cond.instanceMethod ({ cls := "FractionPoolModel", name := "compare", desc := "(II)I" } : Jvm.MethodName) ∈ lw_tbl := mt_6 _ (List.mem_of_getElem? (i := 139) rfl)
theorem mw_1340 : Jvm.Cond.selects "FractionPoolModel" ({ cls := "FractionPoolModel", name := "compare", desc := "(II)I" } : Jvm.MethodName) ({ cls := "FractionPoolModel", name := "compare", desc := "(II)I" } : Jvm.MethodName) ∈ lw_tbl := mt_6 _ (List.mem_of_getElem? (i := 140) rfl)
theorem mw_1341 : Jvm.Cond.code ({ cls := "FractionPoolModel", name := "compare", desc := "(II)I" } : Jvm.MethodName) prog_10_method_45_code (3 : Nat) (Option.some Jvm.ClassFile.FieldType.int) ∈ lw_tbl := mt_6 _ (List.mem_of_getElem? (i := 141) rfl)
theorem mw_1342 : Jvm.Cond.methodLink "FractionPoolLaw" (142 : Nat) ({ cls := "FractionPoolModel", name := "sign", desc := "(I)I" } : Jvm.MethodName) ∈ lw_tbl := mt_6 _ (List.mem_of_getElem? (i := 142) rfl)
theorem mw_1343 : Jvm.Cond.instanceMethod ({ cls := "FractionPoolModel", name := "sign", desc := "(I)I" } : Jvm.MethodName) ∈ lw_tbl := mt_6 _ (List.mem_of_getElem? (i := 143) rfl)
theorem mw_1344 : Jvm.Cond.selects "FractionPoolModel" ({ cls := "FractionPoolModel", name := "sign", desc := "(I)I" } : Jvm.MethodName) ({ cls := "FractionPoolModel", name := "sign", desc := "(I)I" } : Jvm.MethodName) ∈ lw_tbl := mt_6 _ (List.mem_of_getElem? (i := 144) rfl)
theorem mw_1345 : Jvm.Cond.code ({ cls := "FractionPoolModel", name := "sign", desc := "(I)I" } : Jvm.MethodName) prog_10_method_46_code (2 : Nat) (Option.some Jvm.ClassFile.FieldType.int) ∈ lw_tbl := mt_6 _ (List.mem_of_getElem? (i := 145) rfl)
theorem mw_1346 : Jvm.Cond.methodLink "FractionPoolLaw" (146 : Nat) ({ cls := "FractionPoolModel", name := "length", desc := "(IZ)I" } : Jvm.MethodName) ∈ lw_tbl := mt_6 _ (List.mem_of_getElem? (i := 146) rfl)
theorem mw_1347 : Jvm.Cond.instanceMethod ({ cls := "FractionPoolModel", name := "length", desc := "(IZ)I" } : Jvm.MethodName) ∈ lw_tbl := mt_6 _ (List.mem_of_getElem? (i := 147) rfl)
theorem mw_1348 : Jvm.Cond.selects "FractionPoolModel" ({ cls := "FractionPoolModel", name := "length", desc := "(IZ)I" } : Jvm.MethodName) ({ cls := "FractionPoolModel", name := "length", desc := "(IZ)I" } : Jvm.MethodName) ∈ lw_tbl := mt_6 _ (List.mem_of_getElem? (i := 148) rfl)
theorem mw_1349 : Jvm.Cond.code ({ cls := "FractionPoolModel", name := "length", desc := "(IZ)I" } : Jvm.MethodName) prog_10_method_47_code (3 : Nat) (Option.some Jvm.ClassFile.FieldType.int) ∈ lw_tbl := mt_6 _ (List.mem_of_getElem? (i := 149) rfl)
theorem mw_1350 : Jvm.Cond.methodLink "FractionPoolLaw" (150 : Nat) ({ cls := "FractionPoolModel", name := "limb", desc := "(IZI)I" } : Jvm.MethodName) ∈ lw_tbl := mt_6 _ (List.mem_of_getElem? (i := 150) rfl)
theorem mw_1351 : Jvm.Cond.instanceMethod ({ cls := "FractionPoolModel", name := "limb", desc := "(IZI)I" } : Jvm.MethodName) ∈ lw_tbl := mt_6 _ (List.mem_of_getElem? (i := 151) rfl)
theorem mw_1352 : Jvm.Cond.selects "FractionPoolModel" ({ cls := "FractionPoolModel", name := "limb", desc := "(IZI)I" } : Jvm.MethodName) ({ cls := "FractionPoolModel", name := "limb", desc := "(IZI)I" } : Jvm.MethodName) ∈ lw_tbl := mt_6 _ (List.mem_of_getElem? (i := 152) rfl)
theorem mw_1353 : Jvm.Cond.code ({ cls := "FractionPoolModel", name := "limb", desc := "(IZI)I" } : Jvm.MethodName) prog_10_method_48_code (7 : Nat) (Option.some Jvm.ClassFile.FieldType.int) ∈ lw_tbl := mt_6 _ (List.mem_of_getElem? (i := 153) rfl)
theorem mw_1354 : Jvm.Cond.methodLink "FractionPoolLaw" (159 : Nat) ({ cls := "FractionPoolModel", name := "type", desc := "(J)Z" } : Jvm.MethodName) ∈ lw_tbl := mt_6 _ (List.mem_of_getElem? (i := 154) rfl)
theorem mw_1355 : Jvm.Cond.instanceMethod ({ cls := "FractionPoolModel", name := "type", desc := "(J)Z" } : Jvm.MethodName) ∈ lw_tbl := mt_6 _ (List.mem_of_getElem? (i := 155) rfl)
theorem mw_1356 : Jvm.Cond.selects "FractionPoolModel" ({ cls := "FractionPoolModel", name := "type", desc := "(J)Z" } : Jvm.MethodName) ({ cls := "FractionPoolModel", name := "type", desc := "(J)Z" } : Jvm.MethodName) ∈ lw_tbl := mt_6 _ (List.mem_of_getElem? (i := 156) rfl)
theorem mw_1357 : Jvm.Cond.code ({ cls := "FractionPoolModel", name := "type", desc := "(J)Z" } : Jvm.MethodName) prog_10_method_49_code (6 : Nat) (Option.some Jvm.ClassFile.FieldType.boolean) ∈ lw_tbl := mt_6 _ (List.mem_of_getElem? (i := 157) rfl)
theorem mw_1358 : Jvm.Cond.constantLong "FractionPoolModel" (163 : Nat) (255 : Int64) ∈ lw_tbl := mt_6 _ (List.mem_of_getElem? (i := 158) rfl)
theorem mw_1359 : Jvm.Cond.constantLong "FractionPoolModel" (165 : Nat) (33 : Int64) ∈ lw_tbl := mt_6 _ (List.mem_of_getElem? (i := 159) rfl)
theorem mw_1360 : Jvm.Cond.constantLong "FractionPoolModel" (167 : Nat) (126 : Int64) ∈ lw_tbl := mt_6 _ (List.mem_of_getElem? (i := 160) rfl)
theorem mw_1361 : Jvm.Cond.methodLink "FractionPoolLaw" (162 : Nat) ({ cls := "FractionPoolModel", name := "read", desc := "(I)I" } : Jvm.MethodName) ∈ lw_tbl := mt_6 _ (List.mem_of_getElem? (i := 161) rfl)
theorem mw_1362 : Jvm.Cond.instanceMethod ({ cls := "FractionPoolModel", name := "read", desc := "(I)I" } : Jvm.MethodName) ∈ lw_tbl := mt_6 _ (List.mem_of_getElem? (i := 162) rfl)
theorem mw_1363 : Jvm.Cond.selects "FractionPoolModel" ({ cls := "FractionPoolModel", name := "read", desc := "(I)I" } : Jvm.MethodName) ({ cls := "FractionPoolModel", name := "read", desc := "(I)I" } : Jvm.MethodName) ∈ lw_tbl := mt_6 _ (List.mem_of_getElem? (i := 163) rfl)
theorem mw_1364 : Jvm.Cond.code ({ cls := "FractionPoolModel", name := "read", desc := "(I)I" } : Jvm.MethodName) prog_10_method_55_code (6 : Nat) (Option.some Jvm.ClassFile.FieldType.int) ∈ lw_tbl := mt_6 _ (List.mem_of_getElem? (i := 164) rfl)
theorem mw_1365 : Jvm.Cond.methodLink "FractionPoolModel" (181 : Nat) ({ cls := "FractionPoolModel", name := "wrong", desc := "()I" } : Jvm.MethodName) ∈ lw_tbl := mt_6 _ (List.mem_of_getElem? (i := 165) rfl)
theorem mw_1366 : Jvm.Cond.privateMethod ({ cls := "FractionPoolModel", name := "wrong", desc := "()I" } : Jvm.MethodName) ∈ lw_tbl := mt_6 _ (List.mem_of_getElem? (i := 166) rfl)
theorem mw_1367 : Jvm.Cond.instanceMethod ({ cls := "FractionPoolModel", name := "wrong", desc := "()I" } : Jvm.MethodName) ∈ lw_tbl := mt_6 _ (List.mem_of_getElem? (i := 167) rfl)
theorem mw_1368 : Jvm.Cond.code ({ cls := "FractionPoolModel", name := "wrong", desc := "()I" } : Jvm.MethodName) prog_10_method_53_code (6 : Nat) (Option.some Jvm.ClassFile.FieldType.int) ∈ lw_tbl := mt_6 _ (List.mem_of_getElem? (i := 168) rfl)
theorem mw_1369 : Jvm.Cond.methodLink "FractionPoolModel" (172 : Nat) ({ cls := "FractionPoolModel", name := "at", desc := "(I)I" } : Jvm.MethodName) ∈ lw_tbl := mt_6 _ (List.mem_of_getElem? (i := 169) rfl)
theorem mw_1370 : Jvm.Cond.privateMethod ({ cls := "FractionPoolModel", name := "at", desc := "(I)I" } : Jvm.MethodName) ∈ lw_tbl := mt_6 _ (List.mem_of_getElem? (i := 170) rfl)
theorem mw_1371 : Jvm.Cond.instanceMethod ({ cls := "FractionPoolModel", name := "at", desc := "(I)I" } : Jvm.MethodName) ∈ lw_tbl := mt_6 _ (List.mem_of_getElem? (i := 171) rfl)
theorem mw_1372 : Jvm.Cond.code ({ cls := "FractionPoolModel", name := "at", desc := "(I)I" } : Jvm.MethodName) prog_10_method_50_code (2 : Nat) (Option.some Jvm.ClassFile.FieldType.int) ∈ lw_tbl := mt_6 _ (List.mem_of_getElem? (i := 172) rfl)
theorem mw_1373 : Jvm.Cond.methodLink "FractionPoolModel" (178 : Nat) ({ cls := "FractionPoolModel", name := "behind", desc := "(I)I" } : Jvm.MethodName) ∈ lw_tbl := mt_6 _ (List.mem_of_getElem? (i := 173) rfl)
theorem mw_1374 : Jvm.Cond.privateMethod ({ cls := "FractionPoolModel", name := "behind", desc := "(I)I" } : Jvm.MethodName) ∈ lw_tbl := mt_6 _ (List.mem_of_getElem? (i := 174) rfl)
theorem mw_1375 : Jvm.Cond.instanceMethod ({ cls := "FractionPoolModel", name := "behind", desc := "(I)I" } : Jvm.MethodName) ∈ lw_tbl := mt_6 _ (List.mem_of_getElem? (i := 175) rfl)
theorem mw_1376 : Jvm.Cond.code ({ cls := "FractionPoolModel", name := "behind", desc := "(I)I" } : Jvm.MethodName) prog_10_method_52_code (3 : Nat) (Option.some Jvm.ClassFile.FieldType.int) ∈ lw_tbl := mt_6 _ (List.mem_of_getElem? (i := 176) rfl)
theorem mw_1377 : Jvm.Cond.methodLink "FractionPoolModel" (175 : Nat) ({ cls := "FractionPoolModel", name := "isFigure", desc := "(I)Z" } : Jvm.MethodName) ∈ lw_tbl := mt_6 _ (List.mem_of_getElem? (i := 177) rfl)
theorem mw_1378 : Jvm.Cond.privateMethod ({ cls := "FractionPoolModel", name := "isFigure", desc := "(I)Z" } : Jvm.MethodName) ∈ lw_tbl := mt_6 _ (List.mem_of_getElem? (i := 178) rfl)
theorem mw_1379 : Jvm.Cond.instanceMethod ({ cls := "FractionPoolModel", name := "isFigure", desc := "(I)Z" } : Jvm.MethodName) ∈ lw_tbl := mt_6 _ (List.mem_of_getElem? (i := 179) rfl)
theorem mw_1380 : Jvm.Cond.code ({ cls := "FractionPoolModel", name := "isFigure", desc := "(I)Z" } : Jvm.MethodName) prog_10_method_51_code (2 : Nat) (Option.some Jvm.ClassFile.FieldType.boolean) ∈ lw_tbl := mt_6 _ (List.mem_of_getElem? (i := 180) rfl)
theorem mw_1381 : Jvm.Cond.methodLink "FractionPoolModel" (184 : Nat) ({ cls := "FractionPoolModel", name := "figures", desc := "(III)V" } : Jvm.MethodName) ∈ lw_tbl := mt_6 _ (List.mem_of_getElem? (i := 181) rfl)
theorem mw_1382 : Jvm.Cond.privateMethod ({ cls := "FractionPoolModel", name := "figures", desc := "(III)V" } : Jvm.MethodName) ∈ lw_tbl := mt_6 _ (List.mem_of_getElem? (i := 182) rfl)
theorem mw_1383 : Jvm.Cond.instanceMethod ({ cls := "FractionPoolModel", name := "figures", desc := "(III)V" } : Jvm.MethodName) ∈ lw_tbl := mt_6 _ (List.mem_of_getElem? (i := 183) rfl)
theorem mw_1384 : Jvm.Cond.code ({ cls := "FractionPoolModel", name := "figures", desc := "(III)V" } : Jvm.MethodName) prog_10_method_54_code (5 : Nat) (Option.none : Option Jvm.ClassFile.FieldType) ∈ lw_tbl := mt_6 _ (List.mem_of_getElem? (i := 184) rfl)
theorem mw_1385 : Jvm.Cond.methodLink "FractionPoolLaw" (166 : Nat) ({ cls := "FractionPoolModel", name := "fault", desc := "()I" } : Jvm.MethodName) ∈ lw_tbl := mt_6 _ (List.mem_of_getElem? (i := 185) rfl)
theorem mw_1386 : Jvm.Cond.instanceMethod ({ cls := "FractionPoolModel", name := "fault", desc := "()I" } : Jvm.MethodName) ∈ lw_tbl := mt_6 _ (List.mem_of_getElem? (i := 186) rfl)
theorem mw_1387 : Jvm.Cond.selects "FractionPoolModel" ({ cls := "FractionPoolModel", name := "fault", desc := "()I" } : Jvm.MethodName) ({ cls := "FractionPoolModel", name := "fault", desc := "()I" } : Jvm.MethodName) ∈ lw_tbl := mt_6 _ (List.mem_of_getElem? (i := 187) rfl)
theorem mw_1388 : Jvm.Cond.code ({ cls := "FractionPoolModel", name := "fault", desc := "()I" } : Jvm.MethodName) prog_10_method_56_code (1 : Nat) (Option.some Jvm.ClassFile.FieldType.int) ∈ lw_tbl := mt_6 _ (List.mem_of_getElem? (i := 188) rfl)
theorem mw_1389 : Jvm.Cond.methodLink "FractionPoolLaw" (169 : Nat) ({ cls := "FractionPoolModel", name := "print", desc := "(I)I" } : Jvm.MethodName) ∈ lw_tbl := mt_6 _ (List.mem_of_getElem? (i := 189) rfl)
theorem mw_1390 : Jvm.Cond.instanceMethod ({ cls := "FractionPoolModel", name := "print", desc := "(I)I" } : Jvm.MethodName) ∈ lw_tbl := mt_6 _ (List.mem_of_getElem? (i := 190) rfl)
theorem mw_1391 : Jvm.Cond.selects "FractionPoolModel" ({ cls := "FractionPoolModel", name := "print", desc := "(I)I" } : Jvm.MethodName) ({ cls := "FractionPoolModel", name := "print", desc := "(I)I" } : Jvm.MethodName) ∈ lw_tbl := mt_6 _ (List.mem_of_getElem? (i := 191) rfl)
theorem mw_1392 : Jvm.Cond.code ({ cls := "FractionPoolModel", name := "print", desc := "(I)I" } : Jvm.MethodName) prog_10_method_58_code (2 : Nat) (Option.some Jvm.ClassFile.FieldType.int) ∈ lw_tbl := mt_6 _ (List.mem_of_getElem? (i := 192) rfl)
theorem mw_1393 : Jvm.Cond.methodLink "FractionPoolModel" (190 : Nat) ({ cls := "FractionPoolModel", name := "say", desc := "(I)V" } : Jvm.MethodName) ∈ lw_tbl := mt_6 _ (List.mem_of_getElem? (i := 193) rfl)
theorem mw_1394 : Jvm.Cond.privateMethod ({ cls := "FractionPoolModel", name := "say", desc := "(I)V" } : Jvm.MethodName) ∈ lw_tbl := mt_6 _ (List.mem_of_getElem? (i := 194) rfl)
theorem mw_1395 : Jvm.Cond.instanceMethod ({ cls := "FractionPoolModel", name := "say", desc := "(I)V" } : Jvm.MethodName) ∈ lw_tbl := mt_6 _ (List.mem_of_getElem? (i := 195) rfl)
theorem mw_1396 : Jvm.Cond.code ({ cls := "FractionPoolModel", name := "say", desc := "(I)V" } : Jvm.MethodName) prog_10_method_57_code (5 : Nat) (Option.none : Option Jvm.ClassFile.FieldType) ∈ lw_tbl := mt_6 _ (List.mem_of_getElem? (i := 196) rfl)
theorem mw_1397 : Jvm.Cond.methodLink "FractionPoolLaw" (173 : Nat) ({ cls := "FractionPoolModel", name := "character", desc := "(I)I" } : Jvm.MethodName) ∈ lw_tbl := mt_6 _ (List.mem_of_getElem? (i := 197) rfl)
theorem mw_1398 : Jvm.Cond.instanceMethod ({ cls := "FractionPoolModel", name := "character", desc := "(I)I" } : Jvm.MethodName) ∈ lw_tbl := mt_6 _ (List.mem_of_getElem? (i := 198) rfl)
theorem mw_1399 : Jvm.Cond.selects "FractionPoolModel" ({ cls := "FractionPoolModel", name := "character", desc := "(I)I" } : Jvm.MethodName) ({ cls := "FractionPoolModel", name := "character", desc := "(I)I" } : Jvm.MethodName) ∈ lw_tbl := mt_6 _ (List.mem_of_getElem? (i := 199) rfl)
theorem mw_1400 : Jvm.Cond.code ({ cls := "FractionPoolModel", name := "character", desc := "(I)I" } : Jvm.MethodName) prog_10_method_59_code (2 : Nat) (Option.some Jvm.ClassFile.FieldType.int) ∈ lw_tbl := mt_6 _ (List.mem_of_getElem? (i := 200) rfl)
theorem mw_1401 : Jvm.Cond.constantLong "FractionPoolLaw" (90 : Nat) (4294967295 : Int64) ∈ lw_tbl := mt_6 _ (List.mem_of_getElem? (i := 201) rfl)
theorem mw_1402 : Jvm.Cond.arrayClass Jvm.ClassFile.FieldType.long ∈ lw_tbl := mt_6 _ (List.mem_of_getElem? (i := 202) rfl)
theorem mw_1403 : Jvm.Cond.sameMethod "java/lang/Throwable" "java/lang/Throwable" "fillInStackTrace" "(I)Ljava/lang/Throwable;" ∈ lw_tbl := mt_6 _ (List.mem_of_getElem? (i := 203) rfl)
theorem mw_1404 : Jvm.Cond.sameMethod "java/lang/AbstractStringBuilder" "java/lang/AbstractStringBuilder" "append" "(Ljava/lang/String;)Ljava/lang/AbstractStringBuilder;" ∈ lw_tbl := mt_6 _ (List.mem_of_getElem? (i := 204) rfl)
theorem mw_1405 : Jvm.Cond.sameMethod "java/lang/AbstractStringBuilder" "java/lang/AbstractStringBuilder" "appendNull" "()Ljava/lang/AbstractStringBuilder;" ∈ lw_tbl := mt_6 _ (List.mem_of_getElem? (i := 205) rfl)
theorem mw_1406 : Jvm.Cond.sameMethod "java/lang/AbstractStringBuilder" "java/lang/AbstractStringBuilder" "ensureCapacityInternal" "(I)V" ∈ lw_tbl := mt_6 _ (List.mem_of_getElem? (i := 206) rfl)
theorem mw_1407 : Jvm.Cond.sameMethod "java/lang/AbstractStringBuilder" "java/lang/AbstractStringBuilder" "newCapacity" "(I)I" ∈ lw_tbl := mt_6 _ (List.mem_of_getElem? (i := 207) rfl)
theorem mw_1408 : Jvm.Cond.sameMethod "java/lang/AbstractStringBuilder" "java/lang/AbstractStringBuilder" "putStringAt" "(ILjava/lang/String;)V" ∈ lw_tbl := mt_6 _ (List.mem_of_getElem? (i := 208) rfl)
theorem mw_1409 : Jvm.Cond.sameMethod "java/lang/AbstractStringBuilder" "java/lang/AbstractStringBuilder" "inflateIfNeededFor" "(Ljava/lang/String;)V" ∈ lw_tbl := mt_6 _ (List.mem_of_getElem? (i := 209) rfl)
theorem mw_1410 : Jvm.Cond.sameMethod "java/lang/AbstractStringBuilder" "java/lang/AbstractStringBuilder" "inflate" "()V" ∈ lw_tbl := mt_6 _ (List.mem_of_getElem? (i := 210) rfl)
theorem mw_1411 : Jvm.Cond.sameMethod "java/lang/AbstractStringBuilder" "java/lang/AbstractStringBuilder" "append" "(I)Ljava/lang/AbstractStringBuilder;" ∈ lw_tbl := mt_6 _ (List.mem_of_getElem? (i := 211) rfl)
theorem mw_1412 : Jvm.Cond.castable "java/lang/ArrayIndexOutOfBoundsException" "java/lang/IndexOutOfBoundsException" ∈ lw_tbl := mt_6 _ (List.mem_of_getElem? (i := 212) rfl)
abbrev R_Wh : String := "FractionPool$Whole"
def F_Wh : u_T := fun k => match k with
  | 0 => ("FractionPool$Whole", "limbs", "[I", true)
  | _ => ("FractionPool$Whole", "size", "I", false)
def t_Wh : Nat → FieldType := fun k => match k with
  | 0 => .array .int
  | _ => .int
theorem n_Wh : ∀ a, a < 2 → ∀ b, b < 2 → a ≠ b → (F_Wh a).2.1 ≠ (F_Wh b).2.1 := by decide +kernel
theorem t_Wh_ok : ∀ k, k < 2 → parseFieldDescriptor (F_Wh k).2.2.1 = some (t_Wh k) := by decide +kernel
theorem i_Wh : ∀ w ∈ u_ws R_Wh F_Wh 2, w ∈ big := fun w h => List.mem_filter.mpr ((by decide +kernel : ∀ w ∈ u_ws R_Wh F_Wh 2, w ∈ lw_tbl ∧ okW w = true) w h)
abbrev R_Ra : String := "FractionPool$Ratio"
def F_Ra : u_T := fun k => match k with
  | 0 => ("FractionPool$Ratio", "sign", "I", false)
  | 1 => ("FractionPool$Ratio", "top", "LFractionPool$Whole;", false)
  | _ => ("FractionPool$Ratio", "bottom", "LFractionPool$Whole;", false)
def t_Ra : Nat → FieldType := fun k => match k with
  | 0 => .int
  | 1 => .object "FractionPool$Whole"
  | _ => .object "FractionPool$Whole"
theorem n_Ra : ∀ a, a < 3 → ∀ b, b < 3 → a ≠ b → (F_Ra a).2.1 ≠ (F_Ra b).2.1 := by decide +kernel
theorem t_Ra_ok : ∀ k, k < 3 → parseFieldDescriptor (F_Ra k).2.2.1 = some (t_Ra k) := by decide +kernel
theorem i_Ra : ∀ w ∈ u_ws R_Ra F_Ra 3, w ∈ big := fun w h => List.mem_filter.mpr ((by decide +kernel : ∀ w ∈ u_ws R_Ra F_Ra 3, w ∈ lw_tbl ∧ okW w = true) w h)
abbrev R_Cd : String := "FractionPool$CommonDivisor"
def F_Cd : u_T := fun k => match k with
  | 0 => ("FractionPool$CommonDivisor", "large", "LFractionPool$Whole;", false)
  | 1 => ("FractionPool$CommonDivisor", "small", "LFractionPool$Whole;", false)
  | 2 => ("FractionPool$CommonDivisor", "quotient", "LFractionPool$Whole;", true)
  | 3 => ("FractionPool$CommonDivisor", "a", "J", false)
  | 4 => ("FractionPool$CommonDivisor", "b", "J", false)
  | 5 => ("FractionPool$CommonDivisor", "c", "J", false)
  | _ => ("FractionPool$CommonDivisor", "d", "J", false)
def t_Cd : Nat → FieldType := fun k => match k with
  | 0 => .object "FractionPool$Whole"
  | 1 => .object "FractionPool$Whole"
  | 2 => .object "FractionPool$Whole"
  | 3 => .long
  | 4 => .long
  | 5 => .long
  | _ => .long
theorem n_Cd : ∀ a, a < 7 → ∀ b, b < 7 → a ≠ b → (F_Cd a).2.1 ≠ (F_Cd b).2.1 := by decide +kernel
theorem t_Cd_ok : ∀ k, k < 7 → parseFieldDescriptor (F_Cd k).2.2.1 = some (t_Cd k) := by decide +kernel
theorem i_Cd : ∀ w ∈ u_ws R_Cd F_Cd 7, w ∈ big := fun w h => List.mem_filter.mpr ((by decide +kernel : ∀ w ∈ u_ws R_Cd F_Cd 7, w ∈ lw_tbl ∧ okW w = true) w h)
abbrev R_Be : String := "FractionPool$Bench"
def F_Be : u_T := fun k => match k with
  | 0 => ("FractionPool$Bench", "divisor", "LFractionPool$CommonDivisor;", true)
  | 1 => ("FractionPool$Bench", "common", "LFractionPool$Whole;", true)
  | 2 => ("FractionPool$Bench", "spare", "LFractionPool$Whole;", true)
  | _ => ("FractionPool$Bench", "rest", "LFractionPool$Whole;", true)
def t_Be : Nat → FieldType := fun k => match k with
  | 0 => .object "FractionPool$CommonDivisor"
  | 1 => .object "FractionPool$Whole"
  | 2 => .object "FractionPool$Whole"
  | _ => .object "FractionPool$Whole"
theorem n_Be : ∀ a, a < 4 → ∀ b, b < 4 → a ≠ b → (F_Be a).2.1 ≠ (F_Be b).2.1 := by decide +kernel
theorem t_Be_ok : ∀ k, k < 4 → parseFieldDescriptor (F_Be k).2.2.1 = some (t_Be k) := by decide +kernel
theorem i_Be : ∀ w ∈ u_ws R_Be F_Be 4, w ∈ big := fun w h => List.mem_filter.mpr ((by decide +kernel : ∀ w ∈ u_ws R_Be F_Be 4, w ∈ lw_tbl ∧ okW w = true) w h)
abbrev R_Rg : String := "FractionPool$Registers"
def F_Rg : u_T := fun k => match k with
  | 0 => ("FractionPool$Registers", "pool", "[I", true)
  | 1 => ("FractionPool$Registers", "from", "[I", true)
  | 2 => ("FractionPool$Registers", "tops", "[I", true)
  | 3 => ("FractionPool$Registers", "bottoms", "[I", true)
  | 4 => ("FractionPool$Registers", "signs", "[I", true)
  | _ => ("FractionPool$Registers", "taken", "I", false)
def t_Rg : Nat → FieldType := fun k => match k with
  | 0 => .array .int
  | 1 => .array .int
  | 2 => .array .int
  | 3 => .array .int
  | 4 => .array .int
  | _ => .int
theorem n_Rg : ∀ a, a < 6 → ∀ b, b < 6 → a ≠ b → (F_Rg a).2.1 ≠ (F_Rg b).2.1 := by decide +kernel
theorem t_Rg_ok : ∀ k, k < 6 → parseFieldDescriptor (F_Rg k).2.2.1 = some (t_Rg k) := by decide +kernel
theorem i_Rg : ∀ w ∈ u_ws R_Rg F_Rg 6, w ∈ big := fun w h => List.mem_filter.mpr ((by decide +kernel : ∀ w ∈ u_ws R_Rg F_Rg 6, w ∈ lw_tbl ∧ okW w = true) w h)
abbrev R_Ty : String := "FractionPool$Typed"
def F_Ty : u_T := fun k => match k with
  | 0 => ("FractionPool$Typed", "characters", "[C", true)
  | 1 => ("FractionPool$Typed", "count", "I", false)
  | 2 => ("FractionPool$Typed", "judged", "I", false)
  | _ => ("FractionPool$Typed", "latestFault", "I", false)
def t_Ty : Nat → FieldType := fun k => match k with
  | 0 => .array .char
  | 1 => .int
  | 2 => .int
  | _ => .int
theorem n_Ty : ∀ a, a < 4 → ∀ b, b < 4 → a ≠ b → (F_Ty a).2.1 ≠ (F_Ty b).2.1 := by decide +kernel
theorem t_Ty_ok : ∀ k, k < 4 → parseFieldDescriptor (F_Ty k).2.2.1 = some (t_Ty k) := by decide +kernel
theorem i_Ty : ∀ w ∈ u_ws R_Ty F_Ty 4, w ∈ big := fun w h => List.mem_filter.mpr ((by decide +kernel : ∀ w ∈ u_ws R_Ty F_Ty 4, w ∈ lw_tbl ∧ okW w = true) w h)
abbrev R_Pr : String := "FractionPool$Printed"
def F_Pr : u_T := fun k => match k with
  | 0 => ("FractionPool$Printed", "row", "[C", true)
  | _ => ("FractionPool$Printed", "from", "I", false)
def t_Pr : Nat → FieldType := fun k => match k with
  | 0 => .array .char
  | _ => .int
theorem n_Pr : ∀ a, a < 2 → ∀ b, b < 2 → a ≠ b → (F_Pr a).2.1 ≠ (F_Pr b).2.1 := by decide +kernel
theorem t_Pr_ok : ∀ k, k < 2 → parseFieldDescriptor (F_Pr k).2.2.1 = some (t_Pr k) := by decide +kernel
theorem i_Pr : ∀ w ∈ u_ws R_Pr F_Pr 2, w ∈ big := fun w h => List.mem_filter.mpr ((by decide +kernel : ∀ w ∈ u_ws R_Pr F_Pr 2, w ∈ lw_tbl ∧ okW w = true) w h)
abbrev R_Fp : String := "FractionPool"
def F_Fp : u_T := fun k => match k with
  | 0 => ("FractionPool", "room", "I", true)
  | 1 => ("FractionPool", "registers", "LFractionPool$Registers;", true)
  | 2 => ("FractionPool", "bench", "LFractionPool$Bench;", true)
  | 3 => ("FractionPool", "typed", "LFractionPool$Typed;", true)
  | 4 => ("FractionPool", "printed", "LFractionPool$Printed;", true)
  | 5 => ("FractionPool", "left", "LFractionPool$Ratio;", true)
  | 6 => ("FractionPool", "right", "LFractionPool$Ratio;", true)
  | 7 => ("FractionPool", "result", "LFractionPool$Ratio;", true)
  | 8 => ("FractionPool", "total", "LFractionPool$Ratio;", false)
  | _ => ("FractionPool", "nextTotal", "LFractionPool$Ratio;", false)
def t_Fp : Nat → FieldType := fun k => match k with
  | 0 => .int
  | 1 => .object "FractionPool$Registers"
  | 2 => .object "FractionPool$Bench"
  | 3 => .object "FractionPool$Typed"
  | 4 => .object "FractionPool$Printed"
  | 5 => .object "FractionPool$Ratio"
  | 6 => .object "FractionPool$Ratio"
  | 7 => .object "FractionPool$Ratio"
  | 8 => .object "FractionPool$Ratio"
  | _ => .object "FractionPool$Ratio"
theorem n_Fp : ∀ a, a < 10 → ∀ b, b < 10 → a ≠ b → (F_Fp a).2.1 ≠ (F_Fp b).2.1 := by decide +kernel
theorem t_Fp_ok : ∀ k, k < 10 → parseFieldDescriptor (F_Fp k).2.2.1 = some (t_Fp k) := by decide +kernel
theorem i_Fp : ∀ w ∈ u_ws R_Fp F_Fp 10, w ∈ big := fun w h => List.mem_filter.mpr ((by decide +kernel : ∀ w ∈ u_ws R_Fp F_Fp 10, w ∈ lw_tbl ∧ okW w = true) w h)
abbrev R_Mo : String := "FractionPoolModel"
def F_Mo : u_T := fun k => match k with
  | 0 => ("FractionPoolModel", "code", "I", false)
  | 1 => ("FractionPoolModel", "room", "I", true)
  | 2 => ("FractionPoolModel", "work", "[I", true)
  | 3 => ("FractionPoolModel", "many", "[I", true)
  | 4 => ("FractionPoolModel", "kept", "[I", true)
  | 5 => ("FractionPoolModel", "keptMany", "[I", true)
  | 6 => ("FractionPoolModel", "signs", "[I", true)
  | 7 => ("FractionPoolModel", "needs", "[I", true)
  | 8 => ("FractionPoolModel", "halves", "[I", true)
  | 9 => ("FractionPoolModel", "text", "[I", true)
  | 10 => ("FractionPoolModel", "length", "I", false)
  | 11 => ("FractionPoolModel", "fault", "I", false)
  | 12 => ("FractionPoolModel", "printed", "[I", true)
  | _ => ("FractionPoolModel", "printedLength", "I", false)
def t_Mo : Nat → FieldType := fun k => match k with
  | 0 => .int
  | 1 => .int
  | 2 => .array .int
  | 3 => .array .int
  | 4 => .array .int
  | 5 => .array .int
  | 6 => .array .int
  | 7 => .array .int
  | 8 => .array .int
  | 9 => .array .int
  | 10 => .int
  | 11 => .int
  | 12 => .array .int
  | _ => .int
theorem n_Mo : ∀ a, a < 14 → ∀ b, b < 14 → a ≠ b → (F_Mo a).2.1 ≠ (F_Mo b).2.1 := by decide +kernel
theorem t_Mo_ok : ∀ k, k < 14 → parseFieldDescriptor (F_Mo k).2.2.1 = some (t_Mo k) := by decide +kernel
theorem i_Mo : ∀ w ∈ u_ws R_Mo F_Mo 14, w ∈ big := fun w h => List.mem_filter.mpr ((by decide +kernel : ∀ w ∈ u_ws R_Mo F_Mo 14, w ∈ lw_tbl ∧ okW w = true) w h)
abbrev cls0 : List vw_C := [(R_Wh, F_Wh, 2), (R_Ra, F_Ra, 3), (R_Cd, F_Cd, 7), (R_Be, F_Be, 4), (R_Rg, F_Rg, 6), (R_Ty, F_Ty, 4), (R_Pr, F_Pr, 2), (R_Fp, F_Fp, 10), (R_Mo, F_Mo, 14)]
abbrev b_Fp_init : ByteArray := prog_1_method_1_code
abbrev y_Fp_init : MethodName := ⟨"FractionPool", "<init>", "(I)V"⟩
abbrev b_Fp_widthFor : ByteArray := prog_1_method_24_code
abbrev y_Fp_widthFor : MethodName := ⟨"FractionPool", "widthFor", "(I)I"⟩
abbrev b_Rg_init : ByteArray := prog_6_method_1_code
abbrev y_Rg_init : MethodName := ⟨"FractionPool$Registers", "<init>", "(I)V"⟩
abbrev b_jMath_max : ByteArray := prog_20_method_65_code
abbrev y_jMath_max : MethodName := ⟨"java/lang/Math", "max", "(II)I"⟩
abbrev b_Be_init : ByteArray := prog_2_method_1_code
abbrev y_Be_init : MethodName := ⟨"FractionPool$Bench", "<init>", "(I)V"⟩
abbrev b_Cd_init : ByteArray := prog_3_method_1_code
abbrev y_Cd_init : MethodName := ⟨"FractionPool$CommonDivisor", "<init>", "(I)V"⟩
abbrev b_Wh_init : ByteArray := prog_8_method_1_code
abbrev y_Wh_init : MethodName := ⟨"FractionPool$Whole", "<init>", "(I)V"⟩
abbrev b_Ty_init : ByteArray := prog_7_method_1_code
abbrev y_Ty_init : MethodName := ⟨"FractionPool$Typed", "<init>", "()V"⟩
abbrev b_Pr_init : ByteArray := prog_4_method_1_code
abbrev y_Pr_init : MethodName := ⟨"FractionPool$Printed", "<init>", "(I)V"⟩
abbrev b_Ra_init : ByteArray := prog_5_method_1_code
abbrev y_Ra_init : MethodName := ⟨"FractionPool$Ratio", "<init>", "(I)V"⟩
abbrev b_Fp_used : ByteArray := prog_1_method_18_code
abbrev y_Fp_used : MethodName := ⟨"FractionPool", "used", "()I"⟩
abbrev b_Fp_type : ByteArray := prog_1_method_19_code
abbrev y_Fp_type : MethodName := ⟨"FractionPool", "type", "(J)Z"⟩
abbrev b_Ty_take : ByteArray := prog_7_method_2_code
abbrev y_Ty_take : MethodName := ⟨"FractionPool$Typed", "take", "(J)Z"⟩
abbrev b_Ty_byteOf : ByteArray := prog_7_method_3_code
abbrev y_Ty_byteOf : MethodName := ⟨"FractionPool$Typed", "byteOf", "(JI)I"⟩
abbrev b_Fp_fault : ByteArray := prog_1_method_21_code
abbrev y_Fp_fault : MethodName := ⟨"FractionPool", "fault", "()I"⟩
abbrev b_Fp_character : ByteArray := prog_1_method_23_code
abbrev y_Fp_character : MethodName := ⟨"FractionPool", "character", "(I)I"⟩
abbrev b_Pr_at : ByteArray := prog_4_method_3_code
abbrev y_Pr_at : MethodName := ⟨"FractionPool$Printed", "at", "(I)I"⟩
abbrev b_Pr_count : ByteArray := prog_4_method_2_code
abbrev y_Pr_count : MethodName := ⟨"FractionPool$Printed", "count", "()I"⟩
abbrev b_La_cell : ByteArray := method_2_code
abbrev y_La_cell : MethodName := ⟨"FractionPoolLaw", "cell", "([II)I"⟩
abbrev b_La_set : ByteArray := method_3_code
abbrev y_La_set : MethodName := ⟨"FractionPoolLaw", "set", "(LFractionPool;IJJ[J)I"⟩
abbrev b_Fp_set : ByteArray := prog_1_method_2_code
abbrev y_Fp_set : MethodName := ⟨"FractionPool", "set", "(IJJ)I"⟩
abbrev b_Fp_needRegister : ByteArray := prog_1_method_25_code
abbrev y_Fp_needRegister : MethodName := ⟨"FractionPool", "needRegister", "(I)V"⟩
abbrev b_jMath_abs_JJ : ByteArray := prog_20_method_61_code
abbrev y_jMath_abs_JJ : MethodName := ⟨"java/lang/Math", "abs", "(J)J"⟩
abbrev b_Wh_becomeLong : ByteArray := prog_8_method_12_code
abbrev y_Wh_becomeLong : MethodName := ⟨"FractionPool$Whole", "becomeLong", "(J)V"⟩
abbrev b_Wh_trim : ByteArray := prog_8_method_3_code
abbrev y_Wh_trim : MethodName := ⟨"FractionPool$Whole", "trim", "()V"⟩
abbrev b_Be_reduceBoth : ByteArray := prog_2_method_3_code
abbrev y_Be_reduceBoth : MethodName := ⟨"FractionPool$Bench", "reduceBoth", "(LFractionPool$Whole;LFractionPool$Whole;)V"⟩
abbrev b_Cd_of : ByteArray := prog_3_method_2_code
abbrev y_Cd_of : MethodName := ⟨"FractionPool$CommonDivisor", "of", "(LFractionPool$Whole;LFractionPool$Whole;)LFractionPool$Whole;"⟩
abbrev b_Wh_against : ByteArray := prog_8_method_11_code
abbrev y_Wh_against : MethodName := ⟨"FractionPool$Whole", "against", "(LFractionPool$Whole;)I"⟩
abbrev b_Wh_become : ByteArray := prog_8_method_13_code
abbrev y_Wh_become : MethodName := ⟨"FractionPool$Whole", "become", "(LFractionPool$Whole;)V"⟩
abbrev b_Wh_claim : ByteArray := prog_8_method_2_code
abbrev y_Wh_claim : MethodName := ⟨"FractionPool$Whole", "claim", "(I)V"⟩
abbrev b_Cd_foreseeSteps : ByteArray := prog_3_method_3_code
abbrev y_Cd_foreseeSteps : MethodName := ⟨"FractionPool$CommonDivisor", "foreseeSteps", "()V"⟩
abbrev b_Wh_bits : ByteArray := prog_8_method_8_code
abbrev y_Wh_bits : MethodName := ⟨"FractionPool$Whole", "bits", "()I"⟩
abbrev b_jInt_numberOfLeadingZeros : ByteArray := prog_18_method_47_code
abbrev y_jInt_numberOfLeadingZeros : MethodName := ⟨"java/lang/Integer", "numberOfLeadingZeros", "(I)I"⟩
abbrev b_Wh_bitsFrom : ByteArray := prog_8_method_10_code
abbrev y_Wh_bitsFrom : MethodName := ⟨"FractionPool$Whole", "bitsFrom", "(I)J"⟩
abbrev b_Wh_at : ByteArray := prog_8_method_7_code
abbrev y_Wh_at : MethodName := ⟨"FractionPool$Whole", "at", "(I)J"⟩
abbrev b_Cd_makeSteps : ByteArray := prog_3_method_4_code
abbrev y_Cd_makeSteps : MethodName := ⟨"FractionPool$CommonDivisor", "makeSteps", "()V"⟩
abbrev b_Wh_widen : ByteArray := prog_8_method_4_code
abbrev y_Wh_widen : MethodName := ⟨"FractionPool$Whole", "widen", "(I)V"⟩
abbrev b_jArr_fill : ByteArray := prog_29_method_104_code
abbrev y_jArr_fill : MethodName := ⟨"java/util/Arrays", "fill", "([IIII)V"⟩
abbrev b_jArr_rangeCheck : ByteArray := prog_29_method_30_code
abbrev y_jArr_rangeCheck : MethodName := ⟨"java/util/Arrays", "rangeCheck", "(III)V"⟩
abbrev b_jArr_copyOf : ByteArray := prog_29_method_121_code
abbrev y_jArr_copyOf : MethodName := ⟨"java/util/Arrays", "copyOf", "([BI)[B"⟩
abbrev b_jMath_min : ByteArray := prog_20_method_69_code
abbrev y_jMath_min : MethodName := ⟨"java/lang/Math", "min", "(II)I"⟩
abbrev b_jInt_stringSize : ByteArray := prog_18_method_13_code
abbrev y_jInt_stringSize : MethodName := ⟨"java/lang/Integer", "stringSize", "(I)I"⟩
abbrev b_jInt_getChars : ByteArray := prog_18_method_12_code
abbrev y_jInt_getChars : MethodName := ⟨"java/lang/Integer", "getChars", "(II[B)I"⟩
abbrev b_jArr_copyOfRange : ByteArray := prog_29_method_132_code
abbrev y_jArr_copyOfRange : MethodName := ⟨"java/util/Arrays", "copyOfRange", "([BII)[B"⟩
abbrev b_jArr_copyOfRangeByte : ByteArray := prog_29_method_133_code
abbrev y_jArr_copyOfRangeByte : MethodName := ⟨"java/util/Arrays", "copyOfRangeByte", "([BII)[B"⟩
abbrev b_jArr_checkLength : ByteArray := prog_29_method_131_code
abbrev y_jArr_checkLength : MethodName := ⟨"java/util/Arrays", "checkLength", "(II)V"⟩
abbrev b_Wh_divideBy : ByteArray := prog_8_method_23_code
abbrev y_Wh_divideBy : MethodName := ⟨"FractionPool$Whole", "divideBy", "(LFractionPool$Whole;LFractionPool$Whole;)V"⟩
abbrev b_Wh_divideByLimb : ByteArray := prog_8_method_22_code
abbrev y_Wh_divideByLimb : MethodName := ⟨"FractionPool$Whole", "divideByLimb", "(J)J"⟩
abbrev b_Wh_quotientOf : ByteArray := prog_8_method_27_code
abbrev y_Wh_quotientOf : MethodName := ⟨"FractionPool$Whole", "quotientOf", "(JJ)J"⟩
abbrev b_Wh_shiftUp : ByteArray := prog_8_method_20_code
abbrev y_Wh_shiftUp : MethodName := ⟨"FractionPool$Whole", "shiftUp", "(I)V"⟩
abbrev b_Wh_guessLimb : ByteArray := prog_8_method_24_code
abbrev y_Wh_guessLimb : MethodName := ⟨"FractionPool$Whole", "guessLimb", "(LFractionPool$Whole;I)J"⟩
abbrev b_jLong_compareUnsigned : ByteArray := prog_19_method_43_code
abbrev y_jLong_compareUnsigned : MethodName := ⟨"java/lang/Long", "compareUnsigned", "(JJ)I"⟩
abbrev b_jLong_compare : ByteArray := prog_19_method_42_code
abbrev y_jLong_compare : MethodName := ⟨"java/lang/Long", "compare", "(JJ)I"⟩
abbrev b_Wh_takeMultiple : ByteArray := prog_8_method_25_code
abbrev y_Wh_takeMultiple : MethodName := ⟨"FractionPool$Whole", "takeMultiple", "(LFractionPool$Whole;JI)Z"⟩
abbrev b_Wh_giveBack : ByteArray := prog_8_method_26_code
abbrev y_Wh_giveBack : MethodName := ⟨"FractionPool$Whole", "giveBack", "(LFractionPool$Whole;I)V"⟩
abbrev b_Wh_shiftDown : ByteArray := prog_8_method_21_code
abbrev y_Wh_shiftDown : MethodName := ⟨"FractionPool$Whole", "shiftDown", "(I)V"⟩
abbrev b_Be_reduce : ByteArray := prog_2_method_2_code
abbrev y_Be_reduce : MethodName := ⟨"FractionPool$Bench", "reduce", "(LFractionPool$Whole;LFractionPool$Whole;)V"⟩
abbrev b_Wh_isOne : ByteArray := prog_8_method_5_code
abbrev y_Wh_isOne : MethodName := ⟨"FractionPool$Whole", "isOne", "()Z"⟩
abbrev b_jLong_signum : ByteArray := prog_19_method_57_code
abbrev y_jLong_signum : MethodName := ⟨"java/lang/Long", "signum", "(J)I"⟩
abbrev b_Rg_keep : ByteArray := prog_6_method_9_code
abbrev y_Rg_keep : MethodName := ⟨"FractionPool$Registers", "keep", "(ILFractionPool$Ratio;)I"⟩
abbrev b_Rg_needOf : ByteArray := prog_6_method_2_code
abbrev y_Rg_needOf : MethodName := ⟨"FractionPool$Registers", "needOf", "(I)I"⟩
abbrev b_Rg_takeOut : ByteArray := prog_6_method_10_code
abbrev y_Rg_takeOut : MethodName := ⟨"FractionPool$Registers", "takeOut", "(I)V"⟩
abbrev b_La_copy : ByteArray := method_4_code
abbrev y_La_copy : MethodName := ⟨"FractionPoolLaw", "copy", "(LFractionPool;II[J)I"⟩
abbrev b_Fp_copy : ByteArray := prog_1_method_3_code
abbrev y_Fp_copy : MethodName := ⟨"FractionPool", "copy", "(II)I"⟩
abbrev b_Rg_load : ByteArray := prog_6_method_6_code
abbrev y_Rg_load : MethodName := ⟨"FractionPool$Registers", "load", "(ILFractionPool$Ratio;)V"⟩
abbrev b_Wh_becomePart : ByteArray := prog_8_method_14_code
abbrev y_Wh_becomePart : MethodName := ⟨"FractionPool$Whole", "becomePart", "([III)V"⟩
abbrev b_La_swap : ByteArray := method_5_code
abbrev y_La_swap : MethodName := ⟨"FractionPoolLaw", "swap", "(LFractionPool;II[J)I"⟩
abbrev b_Fp_swap : ByteArray := prog_1_method_4_code
abbrev y_Fp_swap : MethodName := ⟨"FractionPool", "swap", "(II)I"⟩
abbrev b_Rg_exchange : ByteArray := prog_6_method_7_code
abbrev y_Rg_exchange : MethodName := ⟨"FractionPool$Registers", "exchange", "(II)V"⟩
abbrev b_Rg_exchangeIn : ByteArray := prog_6_method_8_code
abbrev y_Rg_exchangeIn : MethodName := ⟨"FractionPool$Registers", "exchangeIn", "([III)V"⟩
abbrev b_La_add : ByteArray := method_6_code
abbrev y_La_add : MethodName := ⟨"FractionPoolLaw", "add", "(LFractionPool;III[J)I"⟩
abbrev b_Fp_add : ByteArray := prog_1_method_5_code
abbrev y_Fp_add : MethodName := ⟨"FractionPool", "add", "(III)I"⟩
abbrev b_Fp_loadBoth : ByteArray := prog_1_method_26_code
abbrev y_Fp_loadBoth : MethodName := ⟨"FractionPool", "loadBoth", "(III)V"⟩
abbrev b_Be_sumOf : ByteArray := prog_2_method_5_code
abbrev y_Be_sumOf : MethodName := ⟨"FractionPool$Bench", "sumOf", "(LFractionPool$Ratio;LFractionPool$Ratio;LFractionPool$Ratio;)V"⟩
abbrev b_Wh_productOf : ByteArray := prog_8_method_17_code
abbrev y_Wh_productOf : MethodName := ⟨"FractionPool$Whole", "productOf", "(LFractionPool$Whole;LFractionPool$Whole;)V"⟩
abbrev b_Wh_addMultiple : ByteArray := prog_8_method_18_code
abbrev y_Wh_addMultiple : MethodName := ⟨"FractionPool$Whole", "addMultiple", "(LFractionPool$Whole;JI)V"⟩
abbrev b_Be_addSpare : ByteArray := prog_2_method_6_code
abbrev y_Be_addSpare : MethodName := ⟨"FractionPool$Bench", "addSpare", "(LFractionPool$Whole;II)I"⟩
abbrev b_Wh_plus : ByteArray := prog_8_method_15_code
abbrev y_Wh_plus : MethodName := ⟨"FractionPool$Whole", "plus", "(LFractionPool$Whole;)V"⟩
abbrev b_Wh_differenceOf : ByteArray := prog_8_method_16_code
abbrev y_Wh_differenceOf : MethodName := ⟨"FractionPool$Whole", "differenceOf", "(LFractionPool$Whole;LFractionPool$Whole;)V"⟩
abbrev b_La_subtract : ByteArray := method_7_code
abbrev y_La_subtract : MethodName := ⟨"FractionPoolLaw", "subtract", "(LFractionPool;III[J)I"⟩
abbrev b_Fp_subtract : ByteArray := prog_1_method_6_code
abbrev y_Fp_subtract : MethodName := ⟨"FractionPool", "subtract", "(III)I"⟩
abbrev b_La_multiply : ByteArray := method_8_code
abbrev y_La_multiply : MethodName := ⟨"FractionPoolLaw", "multiply", "(LFractionPool;III[J)I"⟩
abbrev b_Fp_multiply : ByteArray := prog_1_method_7_code
abbrev y_Fp_multiply : MethodName := ⟨"FractionPool", "multiply", "(III)I"⟩
abbrev b_Be_productOf : ByteArray := prog_2_method_4_code
abbrev y_Be_productOf : MethodName := ⟨"FractionPool$Bench", "productOf", "(LFractionPool$Ratio;LFractionPool$Ratio;LFractionPool$Ratio;)V"⟩
abbrev b_La_divide : ByteArray := method_9_code
abbrev y_La_divide : MethodName := ⟨"FractionPoolLaw", "divide", "(LFractionPool;III[J)I"⟩
abbrev b_Fp_divide : ByteArray := prog_1_method_8_code
abbrev y_Fp_divide : MethodName := ⟨"FractionPool", "divide", "(III)I"⟩
abbrev b_Ra_turnOver : ByteArray := prog_5_method_3_code
abbrev y_Ra_turnOver : MethodName := ⟨"FractionPool$Ratio", "turnOver", "()V"⟩
abbrev b_La_power : ByteArray := method_10_code
abbrev y_La_power : MethodName := ⟨"FractionPoolLaw", "power", "(LFractionPool;III[J)I"⟩
abbrev b_Fp_power : ByteArray := prog_1_method_9_code
abbrev y_Fp_power : MethodName := ⟨"FractionPool", "power", "(III)I"⟩
abbrev b_jMath_abs_II : ByteArray := prog_20_method_59_code
abbrev y_jMath_abs_II : MethodName := ⟨"java/lang/Math", "abs", "(I)I"⟩
abbrev b_Be_raise : ByteArray := prog_2_method_7_code
abbrev y_Be_raise : MethodName := ⟨"FractionPool$Bench", "raise", "(LFractionPool$Whole;LFractionPool$Whole;II)Z"⟩
abbrev b_Fp_signOfPower : ByteArray := prog_1_method_27_code
abbrev y_Fp_signOfPower : MethodName := ⟨"FractionPool", "signOfPower", "(II)I"⟩
abbrev b_La_dot : ByteArray := method_11_code
abbrev y_La_dot : MethodName := ⟨"FractionPoolLaw", "dot", "(LFractionPool;IIII[J)I"⟩
abbrev b_Fp_dot : ByteArray := prog_1_method_10_code
abbrev y_Fp_dot : MethodName := ⟨"FractionPool", "dot", "(IIII)I"⟩
abbrev b_Ra_becomeZero : ByteArray := prog_5_method_2_code
abbrev y_Ra_becomeZero : MethodName := ⟨"FractionPool$Ratio", "becomeZero", "()V"⟩
abbrev b_La_floor : ByteArray := method_12_code
abbrev y_La_floor : MethodName := ⟨"FractionPoolLaw", "floor", "(LFractionPool;II[J)I"⟩
abbrev b_Fp_floor : ByteArray := prog_1_method_11_code
abbrev y_Fp_floor : MethodName := ⟨"FractionPool", "floor", "(II)I"⟩
abbrev b_Wh_scale : ByteArray := prog_8_method_19_code
abbrev y_Wh_scale : MethodName := ⟨"FractionPool$Whole", "scale", "(II)V"⟩
abbrev b_La_round : ByteArray := method_13_code
abbrev y_La_round : MethodName := ⟨"FractionPoolLaw", "round", "(LFractionPool;III[J)I"⟩
abbrev b_Fp_round : ByteArray := prog_1_method_12_code
abbrev y_Fp_round : MethodName := ⟨"FractionPool", "round", "(III)I"⟩
abbrev b_Be_exponentOf : ByteArray := prog_2_method_8_code
abbrev y_Be_exponentOf : MethodName := ⟨"FractionPool$Bench", "exponentOf", "(LFractionPool$Ratio;)I"⟩
abbrev b_Be_nearestMultiple : ByteArray := prog_2_method_9_code
abbrev y_Be_nearestMultiple : MethodName := ⟨"FractionPool$Bench", "nearestMultiple", "(LFractionPool$Ratio;LFractionPool$Ratio;I)V"⟩
abbrev b_Wh_isOdd : ByteArray := prog_8_method_6_code
abbrev y_Wh_isOdd : MethodName := ⟨"FractionPool$Whole", "isOdd", "()Z"⟩
abbrev b_Ra_becomeMultiple : ByteArray := prog_5_method_4_code
abbrev y_Ra_becomeMultiple : MethodName := ⟨"FractionPool$Ratio", "becomeMultiple", "(LFractionPool$Whole;I)V"⟩
abbrev b_Wh_lowZeros : ByteArray := prog_8_method_9_code
abbrev y_Wh_lowZeros : MethodName := ⟨"FractionPool$Whole", "lowZeros", "()I"⟩
abbrev b_jInt_numberOfTrailingZeros : ByteArray := prog_18_method_48_code
abbrev y_jInt_numberOfTrailingZeros : MethodName := ⟨"java/lang/Integer", "numberOfTrailingZeros", "(I)I"⟩
abbrev b_La_align : ByteArray := method_14_code
abbrev y_La_align : MethodName := ⟨"FractionPoolLaw", "align", "(LFractionPool;III[J)I"⟩
abbrev b_Fp_align : ByteArray := prog_1_method_13_code
abbrev y_Fp_align : MethodName := ⟨"FractionPool", "align", "(III)I"⟩
abbrev b_La_compare : ByteArray := method_15_code
abbrev y_La_compare : MethodName := ⟨"FractionPoolLaw", "compare", "(LFractionPool;II[J)I"⟩
abbrev b_Fp_compare : ByteArray := prog_1_method_14_code
abbrev y_Fp_compare : MethodName := ⟨"FractionPool", "compare", "(II)I"⟩
abbrev b_jInt_compare : ByteArray := prog_18_method_40_code
abbrev y_jInt_compare : MethodName := ⟨"java/lang/Integer", "compare", "(II)I"⟩
abbrev b_La_sign : ByteArray := method_16_code
abbrev y_La_sign : MethodName := ⟨"FractionPoolLaw", "sign", "(LFractionPool;I[J)I"⟩
abbrev b_Fp_sign : ByteArray := prog_1_method_15_code
abbrev y_Fp_sign : MethodName := ⟨"FractionPool", "sign", "(I)I"⟩
abbrev b_Rg_signOf : ByteArray := prog_6_method_3_code
abbrev y_Rg_signOf : MethodName := ⟨"FractionPool$Registers", "signOf", "(I)I"⟩
abbrev b_La_length : ByteArray := method_17_code
abbrev y_La_length : MethodName := ⟨"FractionPoolLaw", "length", "(LFractionPool;IZ[J)I"⟩
abbrev b_Fp_length : ByteArray := prog_1_method_16_code
abbrev y_Fp_length : MethodName := ⟨"FractionPool", "length", "(IZ)I"⟩
abbrev b_Rg_bitsOf : ByteArray := prog_6_method_4_code
abbrev y_Rg_bitsOf : MethodName := ⟨"FractionPool$Registers", "bitsOf", "(IZ)I"⟩
abbrev b_Rg_limbOf : ByteArray := prog_6_method_5_code
abbrev y_Rg_limbOf : MethodName := ⟨"FractionPool$Registers", "limbOf", "(IZI)I"⟩
abbrev b_La_limb : ByteArray := method_18_code
abbrev y_La_limb : MethodName := ⟨"FractionPoolLaw", "limb", "(LFractionPool;IZI[J)I"⟩
abbrev b_Fp_limb : ByteArray := prog_1_method_17_code
abbrev y_Fp_limb : MethodName := ⟨"FractionPool", "limb", "(IZI)I"⟩
abbrev b_La_read : ByteArray := method_19_code
abbrev y_La_read : MethodName := ⟨"FractionPoolLaw", "read", "(LFractionPool;I[J)I"⟩
abbrev b_Fp_read : ByteArray := prog_1_method_20_code
abbrev y_Fp_read : MethodName := ⟨"FractionPool", "read", "(I)I"⟩
abbrev b_Ty_judge : ByteArray := prog_7_method_4_code
abbrev y_Ty_judge : MethodName := ⟨"FractionPool$Typed", "judge", "()V"⟩
abbrev b_Ty_faultOfText : ByteArray := prog_7_method_5_code
abbrev y_Ty_faultOfText : MethodName := ⟨"FractionPool$Typed", "faultOfText", "()I"⟩
abbrev b_Ty_stateAfter : ByteArray := prog_7_method_6_code
abbrev y_Ty_stateAfter : MethodName := ⟨"FractionPool$Typed", "stateAfter", "(IC)I"⟩
abbrev b_Ty_stateAfterFigure : ByteArray := prog_7_method_7_code
abbrev y_Ty_stateAfterFigure : MethodName := ⟨"FractionPool$Typed", "stateAfterFigure", "(I)I"⟩
abbrev b_Ty_numberInto : ByteArray := prog_7_method_8_code
abbrev y_Ty_numberInto : MethodName := ⟨"FractionPool$Typed", "numberInto", "(LFractionPool$Ratio;)V"⟩
abbrev b_La_print : ByteArray := method_20_code
abbrev y_La_print : MethodName := ⟨"FractionPoolLaw", "print", "(LFractionPool;I[J)I"⟩
abbrev b_Fp_print : ByteArray := prog_1_method_22_code
abbrev y_Fp_print : MethodName := ⟨"FractionPool", "print", "(I)I"⟩
abbrev b_Pr_write : ByteArray := prog_4_method_4_code
abbrev y_Pr_write : MethodName := ⟨"FractionPool$Printed", "write", "(LFractionPool$Ratio;)V"⟩
abbrev b_Pr_putFigures : ByteArray := prog_4_method_5_code
abbrev y_Pr_putFigures : MethodName := ⟨"FractionPool$Printed", "putFigures", "(LFractionPool$Whole;)V"⟩
abbrev b_Pr_put : ByteArray := prog_4_method_7_code
abbrev y_Pr_put : MethodName := ⟨"FractionPool$Printed", "put", "(C)V"⟩
abbrev b_Pr_putNine : ByteArray := prog_4_method_6_code
abbrev y_Pr_putNine : MethodName := ⟨"FractionPool$Printed", "putNine", "(IZ)V"⟩
abbrev b_Mo_init : ByteArray := prog_10_method_1_code
abbrev y_Mo_init : MethodName := ⟨"FractionPoolModel", "<init>", "(I)V"⟩
abbrev b_Mo_thrown : ByteArray := prog_10_method_2_code
abbrev y_Mo_thrown : MethodName := ⟨"FractionPoolModel", "thrown", "()I"⟩
abbrev b_Mo_used : ByteArray := prog_10_method_23_code
abbrev y_Mo_used : MethodName := ⟨"FractionPoolModel", "used", "()I"⟩
abbrev b_Mo_set : ByteArray := prog_10_method_27_code
abbrev y_Mo_set : MethodName := ⟨"FractionPoolModel", "set", "(IJJ)I"⟩
abbrev b_Mo_isRegister : ByteArray := prog_10_method_4_code
abbrev y_Mo_isRegister : MethodName := ⟨"FractionPoolModel", "isRegister", "(I)Z"⟩
abbrev b_Mo_refuses : ByteArray := prog_10_method_3_code
abbrev y_Mo_refuses : MethodName := ⟨"FractionPoolModel", "refuses", "(I)Z"⟩
abbrev b_Mo_setLong : ByteArray := prog_10_method_6_code
abbrev y_Mo_setLong : MethodName := ⟨"FractionPoolModel", "setLong", "(IJ)V"⟩
abbrev b_Mo_put : ByteArray := prog_10_method_25_code
abbrev y_Mo_put : MethodName := ⟨"FractionPoolModel", "put", "(III)I"⟩
abbrev b_Mo_reduce : ByteArray := prog_10_method_24_code
abbrev y_Mo_reduce : MethodName := ⟨"FractionPoolModel", "reduce", "()V"⟩
abbrev b_Mo_copyTo : ByteArray := prog_10_method_7_code
abbrev y_Mo_copyTo : MethodName := ⟨"FractionPoolModel", "copyTo", "(II)V"⟩
abbrev b_Mo_common : ByteArray := prog_10_method_17_code
abbrev y_Mo_common : MethodName := ⟨"FractionPoolModel", "common", "(II)V"⟩
abbrev b_Mo_divideBy : ByteArray := prog_10_method_16_code
abbrev y_Mo_divideBy : MethodName := ⟨"FractionPoolModel", "divideBy", "(III)V"⟩
abbrev b_Mo_takes : ByteArray := prog_10_method_15_code
abbrev y_Mo_takes : MethodName := ⟨"FractionPoolModel", "takes", "(IIII)Z"⟩
abbrev b_Mo_trim : ByteArray := prog_10_method_5_code
abbrev y_Mo_trim : MethodName := ⟨"FractionPoolModel", "trim", "(II)V"⟩
abbrev b_Mo_store : ByteArray := prog_10_method_26_code
abbrev y_Mo_store : MethodName := ⟨"FractionPoolModel", "store", "(III)I"⟩
abbrev b_Mo_limbs : ByteArray := prog_10_method_20_code
abbrev y_Mo_limbs : MethodName := ⟨"FractionPoolModel", "limbs", "(I)I"⟩
abbrev b_Mo_parts : ByteArray := prog_10_method_18_code
abbrev y_Mo_parts : MethodName := ⟨"FractionPoolModel", "parts", "(I)I"⟩
abbrev b_Mo_keep : ByteArray := prog_10_method_22_code
abbrev y_Mo_keep : MethodName := ⟨"FractionPoolModel", "keep", "(II)V"⟩
abbrev b_Mo_copy : ByteArray := prog_10_method_28_code
abbrev y_Mo_copy : MethodName := ⟨"FractionPoolModel", "copy", "(II)I"⟩
abbrev b_Mo_load : ByteArray := prog_10_method_21_code
abbrev y_Mo_load : MethodName := ⟨"FractionPoolModel", "load", "(II)V"⟩
abbrev b_Mo_swap : ByteArray := prog_10_method_29_code
abbrev y_Mo_swap : MethodName := ⟨"FractionPoolModel", "swap", "(II)I"⟩
abbrev b_Mo_add : ByteArray := prog_10_method_32_code
abbrev y_Mo_add : MethodName := ⟨"FractionPoolModel", "add", "(III)I"⟩
abbrev b_Mo_sums : ByteArray := prog_10_method_31_code
abbrev y_Mo_sums : MethodName := ⟨"FractionPoolModel", "sums", "(IIIZ)I"⟩
abbrev b_Mo_sum : ByteArray := prog_10_method_30_code
abbrev y_Mo_sum : MethodName := ⟨"FractionPoolModel", "sum", "(II)I"⟩
abbrev b_Mo_product : ByteArray := prog_10_method_14_code
abbrev y_Mo_product : MethodName := ⟨"FractionPoolModel", "product", "(III)V"⟩
abbrev b_Mo_addTo : ByteArray := prog_10_method_10_code
abbrev y_Mo_addTo : MethodName := ⟨"FractionPoolModel", "addTo", "(II)V"⟩
abbrev b_Mo_figure : ByteArray := prog_10_method_9_code
abbrev y_Mo_figure : MethodName := ⟨"FractionPoolModel", "figure", "(II)I"⟩
abbrev b_Mo_order : ByteArray := prog_10_method_8_code
abbrev y_Mo_order : MethodName := ⟨"FractionPoolModel", "order", "(II)I"⟩
abbrev b_Mo_takeFrom : ByteArray := prog_10_method_11_code
abbrev y_Mo_takeFrom : MethodName := ⟨"FractionPoolModel", "takeFrom", "(II)V"⟩
abbrev b_Mo_subtract : ByteArray := prog_10_method_33_code
abbrev y_Mo_subtract : MethodName := ⟨"FractionPoolModel", "subtract", "(III)I"⟩
abbrev b_Mo_multiply : ByteArray := prog_10_method_35_code
abbrev y_Mo_multiply : MethodName := ⟨"FractionPoolModel", "multiply", "(III)I"⟩
abbrev b_Mo_products : ByteArray := prog_10_method_34_code
abbrev y_Mo_products : MethodName := ⟨"FractionPoolModel", "products", "(IIIZ)I"⟩
abbrev b_Mo_divide : ByteArray := prog_10_method_36_code
abbrev y_Mo_divide : MethodName := ⟨"FractionPoolModel", "divide", "(III)I"⟩
abbrev b_Mo_power : ByteArray := prog_10_method_38_code
abbrev y_Mo_power : MethodName := ⟨"FractionPoolModel", "power", "(III)I"⟩
abbrev b_Mo_bits : ByteArray := prog_10_method_19_code
abbrev y_Mo_bits : MethodName := ⟨"FractionPoolModel", "bits", "(I)I"⟩
abbrev b_Mo_raise : ByteArray := prog_10_method_37_code
abbrev y_Mo_raise : MethodName := ⟨"FractionPoolModel", "raise", "(II)V"⟩
abbrev b_Mo_dot : ByteArray := prog_10_method_39_code
abbrev y_Mo_dot : MethodName := ⟨"FractionPoolModel", "dot", "(IIII)I"⟩
abbrev b_Mo_floor : ByteArray := prog_10_method_40_code
abbrev y_Mo_floor : MethodName := ⟨"FractionPoolModel", "floor", "(II)I"⟩
abbrev b_Mo_round : ByteArray := prog_10_method_43_code
abbrev y_Mo_round : MethodName := ⟨"FractionPoolModel", "round", "(III)I"⟩
abbrev b_Mo_doubled : ByteArray := prog_10_method_13_code
abbrev y_Mo_doubled : MethodName := ⟨"FractionPoolModel", "doubled", "(II)V"⟩
abbrev b_Mo_small : ByteArray := prog_10_method_12_code
abbrev y_Mo_small : MethodName := ⟨"FractionPoolModel", "small", "(II)V"⟩
abbrev b_Mo_multiple : ByteArray := prog_10_method_42_code
abbrev y_Mo_multiple : MethodName := ⟨"FractionPoolModel", "multiple", "(III)I"⟩
abbrev b_Mo_nearest : ByteArray := prog_10_method_41_code
abbrev y_Mo_nearest : MethodName := ⟨"FractionPoolModel", "nearest", "()V"⟩
abbrev b_Mo_align : ByteArray := prog_10_method_44_code
abbrev y_Mo_align : MethodName := ⟨"FractionPoolModel", "align", "(III)I"⟩
abbrev b_Mo_compare : ByteArray := prog_10_method_45_code
abbrev y_Mo_compare : MethodName := ⟨"FractionPoolModel", "compare", "(II)I"⟩
abbrev b_Mo_sign : ByteArray := prog_10_method_46_code
abbrev y_Mo_sign : MethodName := ⟨"FractionPoolModel", "sign", "(I)I"⟩
abbrev b_Mo_length : ByteArray := prog_10_method_47_code
abbrev y_Mo_length : MethodName := ⟨"FractionPoolModel", "length", "(IZ)I"⟩
abbrev b_Mo_limb : ByteArray := prog_10_method_48_code
abbrev y_Mo_limb : MethodName := ⟨"FractionPoolModel", "limb", "(IZI)I"⟩
abbrev b_Mo_type : ByteArray := prog_10_method_49_code
abbrev y_Mo_type : MethodName := ⟨"FractionPoolModel", "type", "(J)Z"⟩
abbrev b_Mo_read : ByteArray := prog_10_method_55_code
abbrev y_Mo_read : MethodName := ⟨"FractionPoolModel", "read", "(I)I"⟩
abbrev b_Mo_wrong : ByteArray := prog_10_method_53_code
abbrev y_Mo_wrong : MethodName := ⟨"FractionPoolModel", "wrong", "()I"⟩
abbrev b_Mo_at : ByteArray := prog_10_method_50_code
abbrev y_Mo_at : MethodName := ⟨"FractionPoolModel", "at", "(I)I"⟩
abbrev b_Mo_behind : ByteArray := prog_10_method_52_code
abbrev y_Mo_behind : MethodName := ⟨"FractionPoolModel", "behind", "(I)I"⟩
abbrev b_Mo_isFigure : ByteArray := prog_10_method_51_code
abbrev y_Mo_isFigure : MethodName := ⟨"FractionPoolModel", "isFigure", "(I)Z"⟩
abbrev b_Mo_figures : ByteArray := prog_10_method_54_code
abbrev y_Mo_figures : MethodName := ⟨"FractionPoolModel", "figures", "(III)V"⟩
abbrev b_Mo_fault : ByteArray := prog_10_method_56_code
abbrev y_Mo_fault : MethodName := ⟨"FractionPoolModel", "fault", "()I"⟩
abbrev b_Mo_print : ByteArray := prog_10_method_58_code
abbrev y_Mo_print : MethodName := ⟨"FractionPoolModel", "print", "(I)I"⟩
abbrev b_Mo_say : ByteArray := prog_10_method_57_code
abbrev y_Mo_say : MethodName := ⟨"FractionPoolModel", "say", "(I)V"⟩
abbrev b_Mo_character : ByteArray := prog_10_method_59_code
abbrev y_Mo_character : MethodName := ⟨"FractionPoolModel", "character", "(I)I"⟩
