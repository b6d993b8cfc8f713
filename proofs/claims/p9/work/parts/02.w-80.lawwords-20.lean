set_option maxRecDepth 20000 in
theorem wsL_law_x0 : ∀ w ∈ (vx_atM "java/lang/ArrayIndexOutOfBoundsException" ["java/lang/IndexOutOfBoundsException", "java/lang/RuntimeException", "java/lang/Exception"]).filter goodWord, w ∈ lw_tb2 := by decide +kernel
set_option maxRecDepth 20000 in
theorem wsL_law_x1 : ∀ w ∈ (vx_atS RX9 71 "java/lang/IllegalStateException" ["java/lang/RuntimeException", "java/lang/Exception"]).filter goodWord, w ∈ lw_tb2 := by decide +kernel
set_option maxRecDepth 20000 in
theorem wsL_law_x2 : ∀ w ∈ (vx_atS RX9 114 "java/lang/IllegalArgumentException" ["java/lang/RuntimeException", "java/lang/Exception"]).filter goodWord, w ∈ lw_tb2 := by decide +kernel
set_option maxRecDepth 20000 in
theorem wsL_law_x3 : ∀ w ∈ (vx_atS RX9 297 "java/lang/IndexOutOfBoundsException" ["java/lang/RuntimeException", "java/lang/Exception"]).filter goodWord, w ∈ lw_tb2 := by decide +kernel
set_option maxRecDepth 20000 in
theorem wsL_law_x4 : ∀ w ∈ (vx_atS RX9 533 "java/lang/UnsupportedOperationException" ["java/lang/RuntimeException", "java/lang/Exception"]).filter goodWord, w ∈ lw_tb2 := by decide +kernel
set_option maxRecDepth 20000 in
theorem wsL_law_x5 : ∀ w ∈ (vx_atM "java/lang/ArithmeticException" ["java/lang/RuntimeException", "java/lang/Exception"]).filter goodWord, w ∈ lw_tb2 := by decide +kernel
set_option maxRecDepth 20000 in
theorem wsL_law_x6 : ∀ w ∈ (vx_atI RX9 154 "java/util/NoSuchElementException" ["java/lang/RuntimeException", "java/lang/Exception"]).filter goodWord, w ∈ lw_tb2 := by decide +kernel
set_option maxRecDepth 20000 in
theorem wsL_law_x7 : ∀ w ∈ (vx_atS RX9 543 "java/lang/ArithmeticException" ["java/lang/RuntimeException", "java/lang/Exception"]).filter goodWord, w ∈ lw_tb2 := by decide +kernel
