theorem qq_1 : (vx_atS RX7 133 "java/util/NoSuchElementException" ["java/lang/RuntimeException", "java/lang/Exception"]).filter (fun w => !goodWord w) = [.castable "java/util/NoSuchElementException" "java/util/NoSuchElementException"] := by decide +kernel
theorem qq_2 : ((vx_atS RX7 133 "java/util/NoSuchElementException" ["java/lang/RuntimeException", "java/lang/Exception"]).filter (fun w => !goodWord w)).length = 1 := by decide +kernel
theorem qq_3 : ((vx_atS RX7 133 "java/util/NoSuchElementException" ["java/lang/RuntimeException", "java/lang/Exception"]).filter (fun w => !goodWord w)).length = 2 := by decide +kernel
theorem qq_4 : ∀ w ∈ (Cond.classLink RX7 129 "java/util/NoSuchElementException") :: (Cond.initialized "java/util/NoSuchElementException") :: vx_atS RX7 133 "java/util/NoSuchElementException" ["java/lang/RuntimeException", "java/lang/Exception"], vx_ot w = true := by decide +kernel
theorem qq_5 : Cond.onTables (.castable "a" "b") = true := rfl
theorem qq_6 : wsX7_isOpenFor[3]? = some (.fieldLink RX7 32 "Tutorlight" "skillCount" "I") := rfl
theorem qq_7 : ∀ w ∈ wsX40, w ∈ wsX7_isOpenFor := by decide +kernel
