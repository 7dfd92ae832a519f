/-! the words of the law's own got -/
theorem lg_w1 : Cond.code yX10_got cX10_got 4 (some .int) ∈ sa_EX.2.1 := by
  rw [sa_e1]; decide +kernel
theorem lg_w2 : Cond.methodLink RL 7 yX10_got ∈ sa_EX.2.1 ∧ Cond.instanceMethod yX10_got ∈ sa_EX.2.1 ∧ Cond.selects RX10 yX10_got yX10_got ∈ sa_EX.2.1 ∧ Cond.classLink RL 13 IO ∈ sa_EX.2.1 := by
  rw [sa_e1]; decide +kernel
theorem lg_w3 : Cond.codeWith yL_got cL_got 5 (some .int) [(0, 10, 13, 13)] ∈ sa_EX.2.1 ∧ Cond.initialized RL ∈ sa_EX.2.1 ∧ Cond.methodLink RL 78 yL_got ∈ sa_EX.2.1 ∧ Cond.static yL_got ∈ sa_EX.2.1 := by
  rw [sa_e1]; decide +kernel
