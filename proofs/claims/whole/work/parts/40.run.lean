/-! what running needs: small truths -/
theorem sc_in {l : List Nat} {k : Nat} (h : k ∈ l) : (l.contains k = true) = True := by simp [h]
theorem sf_i (x : Int32) : sa_fit 0 (.inl x) = True := by simp [sa_fit]
theorem sf_r (r : Option Nat ⊕ Nat) : sa_fit 1 (.inr r) = True := by simp [sa_fit]
theorem sf_0 : sa_fit 2 (.inl 0) = True := by simp [sa_fit]
theorem sf_1 : sa_fit 2 (.inl 1) = True := by simp [sa_fit]
theorem sc_0 : ([0].contains 0 = true) = True := by decide
theorem sc_1 : ([1].contains 1 = true) = True := by decide
theorem sc_2 : ([2].contains 2 = true) = True := by decide
theorem sc_3 : ([3].contains 3 = true) = True := by decide
theorem sc_4 : ([4].contains 4 = true) = True := by decide
theorem sc_7 : ([7].contains 7 = true) = True := by decide
theorem sc_8 : ([8].contains 8 = true) = True := by decide
theorem sc_9 : ([9].contains 9 = true) = True := by decide
theorem sc_22 : ([2, 3].contains 2 = true) = True := by decide
theorem sc_23 : ([2, 3].contains 3 = true) = True := by decide
theorem z10 : ((1 : Int32) = 0) = False := by decide
theorem z00 : ((0 : Int32) = 0) = True := by decide
