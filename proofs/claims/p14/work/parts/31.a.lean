/-! from the premises to the walk's world -/
def FLs : List Cond := flatC (Jvm.Cond.and given_1 narrow_1)
def ysO : List Int32 := [48, 49, 50, 51, 52, 53, 54, 55, 56, 57, 48, 49, 50, 51, 52, 53, 54, 55, 56, 57, 48, 49, 50, 51, 52, 53, 54, 55, 56, 57, 48, 49, 50, 51, 52, 53, 54, 55, 56, 57, 48, 49, 50, 51, 52, 53, 54, 55, 56, 57, 48, 49, 50, 51, 52, 53, 54, 55, 56, 57, 48, 49, 50, 51, 52, 53, 54, 55, 56, 57, 48, 49, 50, 51, 52, 53, 54, 55, 56, 57, 48, 49, 50, 51, 52, 53, 54, 55, 56, 57, 48, 49, 50, 51, 52, 53, 54, 55, 56, 57]
theorem flOa : FLs[12]? = some (Cond.arrayOf (.static "java/lang/Integer" "DigitOnes" "[B") .byte) := by decide +kernel
theorem flOl : FLs[13]? = some (Cond.eq (.length (.static "java/lang/Integer" "DigitOnes" "[B")) (.int (Int32.ofNat ysO.length))) := by decide +kernel
theorem flOe : ∀ j, j < ysO.length → FLs[14 + j]? = some (Cond.eq (.elem (.static "java/lang/Integer" "DigitOnes" "[B") (.int (Int32.ofNat j))) (.int (ysO.getD j 0))) := by decide +kernel
def ysT : List Int32 := [48, 48, 48, 48, 48, 48, 48, 48, 48, 48, 49, 49, 49, 49, 49, 49, 49, 49, 49, 49, 50, 50, 50, 50, 50, 50, 50, 50, 50, 50, 51, 51, 51, 51, 51, 51, 51, 51, 51, 51, 52, 52, 52, 52, 52, 52, 52, 52, 52, 52, 53, 53, 53, 53, 53, 53, 53, 53, 53, 53, 54, 54, 54, 54, 54, 54, 54, 54, 54, 54, 55, 55, 55, 55, 55, 55, 55, 55, 55, 55, 56, 56, 56, 56, 56, 56, 56, 56, 56, 56, 57, 57, 57, 57, 57, 57, 57, 57, 57, 57]
theorem flTa : FLs[115]? = some (Cond.arrayOf (.static "java/lang/Integer" "DigitTens" "[B") .byte) := by decide +kernel
theorem flTl : FLs[116]? = some (Cond.eq (.length (.static "java/lang/Integer" "DigitTens" "[B")) (.int (Int32.ofNat ysT.length))) := by decide +kernel
theorem flTe : ∀ j, j < ysT.length → FLs[117 + j]? = some (Cond.eq (.elem (.static "java/lang/Integer" "DigitTens" "[B") (.int (Int32.ofNat j))) (.int (ysT.getD j 0))) := by decide +kernel
def bs144 : List Int32 := []
theorem fs144x : FLs[352]? = some (Cond.exactly (.string "SwaphouseModel" 144) "java/lang/String") := by decide +kernel
theorem fs144c : FLs[353]? = some (Cond.eq (.field (.string "SwaphouseModel" 144) "java/lang/String" "coder" "B") (.int 0)) := by decide +kernel
theorem fs144a : FLs[354]? = some (Cond.arrayOf (.field (.string "SwaphouseModel" 144) "java/lang/String" "value" "[B") .byte) := by decide +kernel
theorem fs144l : FLs[355]? = some (Cond.eq (.length (.field (.string "SwaphouseModel" 144) "java/lang/String" "value" "[B")) (.int (Int32.ofNat bs144.length))) := by decide +kernel
theorem fs144e : ∀ j, j < bs144.length → FLs[0 + j]? = some (Cond.eq (.elem (.field (.string "SwaphouseModel" 144) "java/lang/String" "value" "[B") (.int (Int32.ofNat j))) (.int (bs144.getD j 0))) := fun j hj => absurd hj (Nat.not_lt_zero j)
theorem fs144f : jFitB bs144 := by
  intro y hy
  have h : ∀ y ∈ bs144, fits .byte (.int y) = true := by decide +kernel
  exact h y hy
def bs149 : List Int32 := [32]
theorem fs149x : FLs[360]? = some (Cond.exactly (.string "SwaphouseModel" 149) "java/lang/String") := by decide +kernel
theorem fs149c : FLs[361]? = some (Cond.eq (.field (.string "SwaphouseModel" 149) "java/lang/String" "coder" "B") (.int 0)) := by decide +kernel
theorem fs149a : FLs[362]? = some (Cond.arrayOf (.field (.string "SwaphouseModel" 149) "java/lang/String" "value" "[B") .byte) := by decide +kernel
theorem fs149l : FLs[363]? = some (Cond.eq (.length (.field (.string "SwaphouseModel" 149) "java/lang/String" "value" "[B")) (.int (Int32.ofNat bs149.length))) := by decide +kernel
theorem fs149e : ∀ j, j < bs149.length → FLs[364 + j]? = some (Cond.eq (.elem (.field (.string "SwaphouseModel" 149) "java/lang/String" "value" "[B") (.int (Int32.ofNat j))) (.int (bs149.getD j 0))) := by decide +kernel
theorem fs149f : jFitB bs149 := by
  intro y hy
  have h : ∀ y ∈ bs149, fits .byte (.int y) = true := by decide +kernel
  exact h y hy
def bs289 : List Int32 := [116, 104, 101, 114, 101, 32, 105, 115, 32, 110, 111, 32, 115, 117, 99, 104, 32, 99, 101, 108, 108]
theorem fs289x : FLs[239]? = some (Cond.exactly (.string "Swaphouse" 289) "java/lang/String") := by decide +kernel
theorem fs289c : FLs[240]? = some (Cond.eq (.field (.string "Swaphouse" 289) "java/lang/String" "coder" "B") (.int 0)) := by decide +kernel
theorem fs289a : FLs[241]? = some (Cond.arrayOf (.field (.string "Swaphouse" 289) "java/lang/String" "value" "[B") .byte) := by decide +kernel
theorem fs289l : FLs[242]? = some (Cond.eq (.length (.field (.string "Swaphouse" 289) "java/lang/String" "value" "[B")) (.int (Int32.ofNat bs289.length))) := by decide +kernel
theorem fs289e : ∀ j, j < bs289.length → FLs[243 + j]? = some (Cond.eq (.elem (.field (.string "Swaphouse" 289) "java/lang/String" "value" "[B") (.int (Int32.ofNat j))) (.int (bs289.getD j 0))) := by decide +kernel
theorem fs289f : jFitB bs289 := by
  intro y hy
  have h : ∀ y ∈ bs289, fits .byte (.int y) = true := by decide +kernel
  exact h y hy
def bs294 : List Int32 := [116, 104, 101, 114, 101, 32, 105, 115, 32, 110, 111, 32, 115, 117, 99, 104, 32, 112, 111, 105, 110, 116]
theorem fs294x : FLs[323]? = some (Cond.exactly (.string "Swaphouse" 294) "java/lang/String") := by decide +kernel
theorem fs294c : FLs[324]? = some (Cond.eq (.field (.string "Swaphouse" 294) "java/lang/String" "coder" "B") (.int 0)) := by decide +kernel
theorem fs294a : FLs[325]? = some (Cond.arrayOf (.field (.string "Swaphouse" 294) "java/lang/String" "value" "[B") .byte) := by decide +kernel
theorem fs294l : FLs[326]? = some (Cond.eq (.length (.field (.string "Swaphouse" 294) "java/lang/String" "value" "[B")) (.int (Int32.ofNat bs294.length))) := by decide +kernel
theorem fs294e : ∀ j, j < bs294.length → FLs[327 + j]? = some (Cond.eq (.elem (.field (.string "Swaphouse" 294) "java/lang/String" "value" "[B") (.int (Int32.ofNat j))) (.int (bs294.getD j 0))) := by decide +kernel
theorem fs294f : jFitB bs294 := by
  intro y hy
  have h : ∀ y ∈ bs294, fits .byte (.int y) = true := by decide +kernel
  exact h y hy
def bs298 : List Int32 := [97, 110, 32, 97, 114, 103, 117, 109, 101, 110, 116, 32, 105, 115, 32, 111, 117, 116, 115, 105, 100, 101, 32, 119, 104, 97, 116, 32, 116, 104, 101, 32, 100, 111, 99, 117, 109, 101, 110, 116, 32, 108, 101, 116, 115]
theorem fs298x : FLs[272]? = some (Cond.exactly (.string "Swaphouse" 298) "java/lang/String") := by decide +kernel
theorem fs298c : FLs[273]? = some (Cond.eq (.field (.string "Swaphouse" 298) "java/lang/String" "coder" "B") (.int 0)) := by decide +kernel
theorem fs298a : FLs[274]? = some (Cond.arrayOf (.field (.string "Swaphouse" 298) "java/lang/String" "value" "[B") .byte) := by decide +kernel
theorem fs298l : FLs[275]? = some (Cond.eq (.length (.field (.string "Swaphouse" 298) "java/lang/String" "value" "[B")) (.int (Int32.ofNat bs298.length))) := by decide +kernel
theorem fs298e : ∀ j, j < bs298.length → FLs[276 + j]? = some (Cond.eq (.elem (.field (.string "Swaphouse" 298) "java/lang/String" "value" "[B") (.int (Int32.ofNat j))) (.int (bs298.getD j 0))) := by decide +kernel
theorem fs298f : jFitB bs298 := by
  intro y hy
  have h : ∀ y ∈ bs298, fits .byte (.int y) = true := by decide +kernel
  exact h y hy
theorem flC : FLs[6]? = some (Cond.eq (.static "java/lang/String" "COMPACT_STRINGS" "Z") (.int 1)) := by decide +kernel
theorem flU : FLs[4]? = some (Cond.isRef (.static Bundle.tN "UNASSIGNED_STACK" Bundle.steD)) := by decide +kernel
theorem flV : FLs[5]? = some (Cond.isRef (.static Bundle.tN "SUPPRESSED_SENTINEL" Bundle.listD)) := by decide +kernel
theorem flN : FLs[236]? = some (Cond.not (.castable "java/lang/IllegalArgumentException" "java/lang/IndexOutOfBoundsException")) := by decide +kernel
theorem lt_U : lw_tbl[498]? = some (Cond.laysStatic Bundle.tN "UNASSIGNED_STACK" Bundle.steD) := by decide +kernel
theorem lt_V : lw_tbl[500]? = some (Cond.laysStatic Bundle.tN "SUPPRESSED_SENTINEL" Bundle.listD) := by decide +kernel
theorem lt_C : lw_tbl[567]? = some (Cond.laysStatic "java/lang/String" "COMPACT_STRINGS" "Z") := by decide +kernel
theorem lt_O : lw_tbl[709]? = some (Cond.laysStatic "java/lang/Integer" "DigitOnes" "[B") := by decide +kernel
theorem lt_T : lw_tbl[711]? = some (Cond.laysStatic "java/lang/Integer" "DigitTens" "[B") := by decide +kernel
theorem lt_144 : lw_tbl[1476]? = some (Cond.stringRef "SwaphouseModel" 144 "") := by decide +kernel
theorem lt_149 : lw_tbl[1479]? = some (Cond.stringRef "SwaphouseModel" 149 " ") := by decide +kernel
theorem lt_289 : lw_tbl[511]? = some (Cond.stringRef "Swaphouse" 289 "there is no such cell") := by decide +kernel
theorem lt_294 : lw_tbl[937]? = some (Cond.stringRef "Swaphouse" 294 "there is no such point") := by decide +kernel
theorem lt_298 : lw_tbl[855]? = some (Cond.stringRef "Swaphouse" 298 "an argument is outside what the document lets") := by decide +kernel
theorem lt_W : lw_tbl[79]? = some (Cond.initialized Bundle.tN) := by decide +kernel
theorem lt_S : lw_tbl[89]? = some (Cond.initialized "java/lang/String") := by decide +kernel
theorem lt_I : lw_tbl[86]? = some (Cond.initialized "java/lang/Integer") := by decide +kernel
