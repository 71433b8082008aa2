set_option maxRecDepth 100000 in
theorem zx1 : ∀ w ∈ (vx_atS RX6 148 "java/lang/IllegalArgumentException" ["java/lang/RuntimeException", "java/lang/Exception"]).filter goodWord, w ∈ lw_tbl := by decide +kernel
