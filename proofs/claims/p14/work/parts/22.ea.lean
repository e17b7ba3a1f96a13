/-! what the class's throws need -/
theorem exN_fit : ∀ n ∈ exN, Bundle.fit n = true := by decide +kernel
theorem js_5 : (RX8, 144, "", 5) ∈ jStr := List.mem_of_getElem? (i := 0) rfl
theorem js_6 : (RX8, 149, " ", 6) ∈ jStr := List.mem_of_getElem? (i := 1) rfl
theorem js_7 : (RX6, 289, "there is no such cell", 7) ∈ jStr := List.mem_of_getElem? (i := 2) rfl
theorem js_8 : (RX6, 294, "there is no such point", 8) ∈ jStr := List.mem_of_getElem? (i := 3) rfl
theorem js_9 : (RX6, 298, "an argument is outside what the document lets", 9) ∈ jStr := List.mem_of_getElem? (i := 4) rfl
theorem tg_IndexOutOfBoundsException : ∀ w ∈ Cond.classLink RX6 287 "java/lang/IndexOutOfBoundsException" :: Cond.initialized "java/lang/IndexOutOfBoundsException" :: vx_atS RX6 291 "java/lang/IndexOutOfBoundsException" exN, vx_ot w = true := by decide +kernel
theorem tg_IllegalArgumentException : ∀ w ∈ Cond.classLink RX6 296 "java/lang/IllegalArgumentException" :: Cond.initialized "java/lang/IllegalArgumentException" :: vx_atS RX6 300 "java/lang/IllegalArgumentException" exN, vx_ot w = true := by decide +kernel
