set_option maxRecDepth 100000 in
theorem zx2 : ∀ w ∈ (vx_atS RX6 155 "java/lang/ArithmeticException" ["java/lang/RuntimeException", "java/lang/Exception"]).filter goodWord, w ∈ lw_tbl := by decide +kernel
