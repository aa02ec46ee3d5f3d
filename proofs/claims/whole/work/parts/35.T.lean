/-! the desk's own methods where they throw -/
theorem tgI : tg_ 134 138 xI_ := by
  refine ⟨by decide +kernel, by decide +kernel, by decide +kernel, by decide +kernel, by decide +kernel⟩
theorem tgA : tg_ 52 56 xA_ := by
  refine ⟨by decide +kernel, by decide +kernel, by decide +kernel, by decide +kernel, by decide +kernel⟩
theorem tgM : tg_ 65 69 xM_ := by
  refine ⟨by decide +kernel, by decide +kernel, by decide +kernel, by decide +kernel, by decide +kernel⟩
theorem tgU : tg_ 159 163 xU_ := by
  refine ⟨by decide +kernel, by decide +kernel, by decide +kernel, by decide +kernel, by decide +kernel⟩
theorem tx_183 : (183, "a register is 0 .. 5") ∈ txt_ := by decide +kernel
theorem tx_54 : (54, "a register holds no number below 0") ∈ txt_ := by decide +kernel
theorem tx_67 : (67, "the number has more than 128 bits") ∈ txt_ := by decide +kernel
theorem tx_80 : (80, "the sum has more than 128 bits") ∈ txt_ := by decide +kernel
theorem tx_89 : (89, "the difference is less than 0") ∈ txt_ := by decide +kernel
theorem tx_99 : (99, "the product has more than 128 bits") ∈ txt_ := by decide +kernel
theorem tx_101 : (101, "quotient and remainder need a register each") ∈ txt_ := by decide +kernel
theorem tx_107 : (107, "division by 0") ∈ txt_ := by decide +kernel
theorem tx_122 : (122, "remainder by 0") ∈ txt_ := by decide +kernel
theorem tx_136 : (136, "a word is 0 .. 3") ∈ txt_ := by decide +kernel
theorem tx_142 : (142, "m is 2 .. 1000") ∈ txt_ := by decide +kernel
theorem tx_154 : (154, "the number and m have a common divisor") ∈ txt_ := by decide +kernel
theorem tx_161 : (161, "the number is not 2 .. 511") ∈ txt_ := by decide +kernel
theorem tx_167 : (167, "m is 1 .. 64") ∈ txt_ := by decide +kernel
theorem tx_169 : (169, "c is 0 .. 4095") ∈ txt_ := by decide +kernel
theorem tx_171 : (171, "the number is not 2 .. 4095") ∈ txt_ := by decide +kernel
theorem tx_177 : (177, "the number is greater than 511") ∈ txt_ := by decide +kernel
