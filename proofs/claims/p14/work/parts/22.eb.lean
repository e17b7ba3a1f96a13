/-! their words stand in the tables -/
theorem ta_IndexOutOfBoundsException : ∀ w ∈ vx_atS RX6 291 "java/lang/IndexOutOfBoundsException" exN, w ∈ jK := by decide +kernel
theorem ta_IllegalArgumentException : ∀ w ∈ vx_atS RX6 300 "java/lang/IllegalArgumentException" exN, w ∈ jK := by decide +kernel
