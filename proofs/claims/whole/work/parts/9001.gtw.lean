/-! the words of the throw -/
def IO : String := "java/lang/IndexOutOfBoundsException"
def gtW : List Cond := vx_atS RX10 190 "java/lang/IndexOutOfBoundsException" ["java/lang/RuntimeException", "java/lang/Exception"]
theorem gt_or : ∀ w ∈ gtW, vx_ot w = true ∧ w ∈ lw_tbl ∧ (goodWord w = true ∨ sa_nwok w = true ∨ w = Cond.castable IO IO) := by decide +kernel
theorem gt_link : Cond.classLink RX10 186 IO ∈ sa_EX.2.1 ∧ Cond.initialized IO ∈ sa_EX.2.1 := by
  rw [sa_e1]; decide +kernel
