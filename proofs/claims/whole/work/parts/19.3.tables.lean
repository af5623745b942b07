theorem lt_X4 : ∀ w ∈ wsX40, w ∈ lw_tbl := by decide +kernel
theorem lt_X1 : ∀ w ∈ wsX10, w ∈ lw_tbl := by decide +kernel
theorem lt_X0 : ∀ w ∈ wsX00, w ∈ lw_tbl := by decide +kernel
theorem lt_X2 : ∀ w ∈ wsX20, w ∈ lw_tbl := by decide +kernel
theorem lt_x0 : ∀ w ∈ (vx_atS RX3 148 "java/lang/IndexOutOfBoundsException" ["java/lang/RuntimeException", "java/lang/Exception"]).filter goodWord, w ∈ lw_tbl := by decide +kernel
theorem lt_x1 : ∀ w ∈ (vx_atS RX3 201 "java/lang/ArithmeticException" ["java/lang/RuntimeException", "java/lang/Exception"]).filter goodWord, w ∈ lw_tbl := by decide +kernel
