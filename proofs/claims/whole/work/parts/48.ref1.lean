/-! THE REFERENCE'S CALLS ON FILES AND ON THE ROW -/
theorem k_X11_in {h : sa_H} {Q : sa_Q} (v a b : Int32) (h1 : a ≤ v → v ≤ b → Q (some (.inl 1)) h) (h0 : ¬ (a ≤ v ∧ v ≤ b) → Q (some (.inl 0)) h) : ct_X11_in 0 0 [.inl v, .inl a, .inl b] h Q := by
  simp only [e_X11_in, u_X11_in_0, u_X11_in_1, u_X11_in_2, u_X11_in_5, u_X11_in_6, u_X11_in_7, u_X11_in_10, u_X11_in_11, u_X11_in_14, u_X11_in_15, so_cmp, so_goto, so_iload, so_push, so_zret, sa_nth, or_true, true_or, z10, z00, true_imp_iff, false_imp_iff, not_false_eq_true, not_true_eq_false, true_and, and_true, Nat.zero_le, Nat.sub_zero, List.length_cons, List.length_nil, Nat.reduceAdd, Nat.reduceLT, Nat.reduceLeDiff]
  refine ⟨fun q => h0 (fun c => ?_), fun q => ⟨fun q1 => h0 (fun c => ?_), fun q1 => h1 ?_ ?_⟩⟩
  · have := c.1; rw [← i32_nlt] at this; exact this q
  · have := c.2; rw [← i32_nlt] at this; exact this q1
  · rw [← i32_nlt]; exact q
  · rw [← i32_nlt]; exact q1
theorem k_X11_isLetter {h : sa_H} {Q : sa_Q} (v : Int32) (h1 : isL v → Q (some (.inl 1)) h) (h0 : ¬ isL v → Q (some (.inl 0)) h) : ct_X11_isLetter 0 0 [.inl v] h Q := by
  simp only [e_X11_isLetter, u_X11_isLetter_0, u_X11_isLetter_1, u_X11_isLetter_3, u_X11_isLetter_5, u_X11_isLetter_11, u_X11_isLetter_12, u_X11_isLetter_14, u_X11_isLetter_17, u_X11_isLetter_18, u_X11_isLetter_21, u_X11_isLetter_22, sa_split, so_cmp, so_goto, so_iload, so_push, so_stat, so_zret, sa_nth, List.cons_append, List.nil_append, Option.toList_none, Option.toList_some, or_true, true_or, z10, z00, true_imp_iff, false_imp_iff, not_false_eq_true, not_true_eq_false, true_and, and_true, Nat.zero_le, Nat.sub_zero, List.length_cons, List.length_nil, Nat.reduceAdd, Nat.reduceLT, Nat.reduceLeDiff]
  refine k_X11_in v 33 126 (fun q1 q2 => ?_) (fun q => ?_)
  · simp only [u_X11_isLetter_0, u_X11_isLetter_1, u_X11_isLetter_3, u_X11_isLetter_5, u_X11_isLetter_8, u_X11_isLetter_11, u_X11_isLetter_12, u_X11_isLetter_14, u_X11_isLetter_17, u_X11_isLetter_18, u_X11_isLetter_21, u_X11_isLetter_22, sa_split, so_cmp, so_goto, so_if, so_iload, so_push, so_stat, so_zret, sa_nth, List.cons_append, List.nil_append, Option.toList_none, Option.toList_some, or_true, true_or, z10, z00, true_imp_iff, false_imp_iff, not_false_eq_true, not_true_eq_false, true_and, and_true, Nat.zero_le, Nat.sub_zero, List.length_cons, List.length_nil, Nat.reduceAdd, Nat.reduceLT, Nat.reduceLeDiff]
    exact ⟨fun q => h0 (fun b => b.2.2 q), fun q => h1 ⟨q1, q2, q⟩⟩
  · simp only [u_X11_isLetter_0, u_X11_isLetter_1, u_X11_isLetter_3, u_X11_isLetter_5, u_X11_isLetter_8, u_X11_isLetter_11, u_X11_isLetter_12, u_X11_isLetter_14, u_X11_isLetter_17, u_X11_isLetter_18, u_X11_isLetter_21, u_X11_isLetter_22, sa_split, so_cmp, so_goto, so_if, so_iload, so_push, so_stat, so_zret, sa_nth, List.cons_append, List.nil_append, Option.toList_none, Option.toList_some, or_true, true_or, z10, z00, true_imp_iff, false_imp_iff, not_false_eq_true, not_true_eq_false, true_and, and_true, Nat.zero_le, Nat.sub_zero, List.length_cons, List.length_nil, Nat.reduceAdd, Nat.reduceLT, Nat.reduceLeDiff]
    exact h0 (fun b => q ⟨b.1, b.2.1⟩)
def sMF (t : gI) (A : gA) (N D : List (List Int32)) (T : List Int32) : Prop :=
  N.length ≤ 12 ∧ D.length = N.length ∧ T.length = N.length ∧ i_files t = nI N.length ∧ ∀ i, i < N.length → a_nameSize A i = nI (N.getD i []).length ∧ a_dataSize A i = nI (D.getD i []).length ∧ T[i]? = some (a_linkTo A i) ∧ (∀ k, k < (N.getD i []).length → (N.getD i [])[k]? = some (a_name A (20 * i + k))) ∧ ∀ k, k < (D.getD i []).length → (D.getD i [])[k]? = some (a_data A (60 * i + k))
def sMR (t : gI) (A : gA) (l : List Int32) : Prop := l.length ≤ 1500 ∧ i_size t = nI l.length ∧ ∀ j, j < l.length → l[j]? = some (a_row A j)
def sIF (N D : List (List Int32)) (T : List Int32) : Prop :=
  (∀ l ∈ N, l.length ≤ 20) ∧ (∀ l ∈ N, ∀ c ∈ l, isL c) ∧ (∀ l ∈ D, l.length ≤ 60) ∧ (∀ l ∈ D, ∀ v ∈ l, isB v) ∧ (∀ i v, T[i]? = some v → v = -1 ∨ (∃ j, j < i ∧ v = nI j ∧ T[j]? = some (-1) ∧ D.getD i [] = [])) ∧ ∀ i, i + 1 < N.length → N.getD i [] ≠ []
/-- what stays -/
def sfF (t : gI) (A : gA) (t' : gI) (A' : gA) : Prop := i_files t' = i_files t ∧ a_nameSize A' = a_nameSize A ∧ a_name A' = a_name A ∧ a_linkTo A' = a_linkTo A ∧ a_dataSize A' = a_dataSize A ∧ a_data A' = a_data A
def sfR (t : gI) (A : gA) (t' : gI) (A' : gA) : Prop := i_size t' = i_size t ∧ a_row A' = a_row A
def sfE (t : gI) (A : gA) (t' : gI) (A' : gA) : Prop := i_entries t' = i_entries t ∧ i_form t' = i_form t ∧ i_place t' = i_place t ∧ a_eNameSize A' = a_eNameSize A ∧ a_eName A' = a_eName A ∧ a_eSize A' = a_eSize A ∧ a_eData A' = a_eData A ∧ a_eAt A' = a_eAt A ∧ a_eNumber A' = a_eNumber A ∧ a_eLinks A' = a_eLinks A
theorem getD_app_l {α : Type} (L : List α) (x d : α) (i : Nat) (h : i < L.length) : (L ++ [x]).getD i d = L.getD i d := by
  rw [List.getD_eq_getElem?_getD, List.getD_eq_getElem?_getD, List.getElem?_append_left h]
theorem getD_app_r {α : Type} (L : List α) (x d : α) : (L ++ [x]).getD L.length d = x := by
  rw [List.getD_eq_getElem?_getD, List.getElem?_append_right (Nat.le_refl _)]; simp
theorem getD_mem_le (N : List (List Int32)) (b i : Nat) (h : ∀ l ∈ N, l.length ≤ b) : (N.getD i []).length ≤ b := by
  rw [List.getD_eq_getElem?_getD]
  cases hq : N[i]? with
  | none => simp
  | some l => exact h l (List.mem_of_getElem? hq)
section RF1
variable {C : gI → gA → sa_H} {t : gI} {A : gA} {N D : List (List Int32)} {T : List Int32} {l : List Int32} {Q : sa_Q}
theorem k_X11_file (hL : sM_L C) (hM : sMF t A N D T) (hI : sIF N D T) (h3 : N ≠ [] → N.getLastD [] = [] → Q (some (.inl (-3))) (C t A)) (h4 : (N = [] ∨ N.getLastD [] ≠ []) → N.length = 12 → Q (some (.inl (-4))) (C t A)) (h : (N = [] ∨ N.getLastD [] ≠ []) → N.length < 12 → ∀ t' A', sMF t' A' (N ++ [[]]) (D ++ [[]]) (T ++ [-1]) → sfR t A t' A' → sfE t A t' A' → Q (some (.inl (nI N.length))) (C t' A')) : ct_X11_file 0 0 [.inr (.inl (some 28))] (C t A) Q := by
  have l1 := m_o hL
  have l2 := m_po hL
  have l3 := m_nameSize hL
  have l4 := m_pnameSize hL
  have l5 := m_linkTo hL
  have l6 := m_plinkTo hL
  have l7 := m_dataSize hL
  have l8 := m_pdataSize hL
  obtain ⟨b1, b2, b3, e1, e2⟩ := hM
  dsimp only [i_files] at e1
  have rest : (N = [] ∨ N.getLastD [] ≠ []) → sa_w tb_X11_file (24, [some (.inr (.inl (some 28)))], [], C t A, 0, 0) Q := by
    intro hc
    simp only [u_X11_file_0, u_X11_file_1, u_X11_file_4, u_X11_file_7, u_X11_file_8, u_X11_file_11, u_X11_file_12, u_X11_file_15, u_X11_file_16, u_X11_file_17, u_X11_file_18, u_X11_file_21, u_X11_file_23, u_X11_file_24, u_X11_file_25, u_X11_file_28, u_X11_file_30, u_X11_file_33, u_X11_file_35, u_X11_file_36, u_X11_file_37, u_X11_file_40, u_X11_file_41, u_X11_file_44, u_X11_file_45, u_X11_file_46, u_X11_file_47, u_X11_file_50, u_X11_file_51, u_X11_file_54, u_X11_file_55, u_X11_file_56, u_X11_file_57, u_X11_file_60, u_X11_file_61, u_X11_file_64, u_X11_file_65, u_X11_file_66, u_X11_file_67, u_X11_file_68, u_X11_file_71, u_X11_file_72, u_X11_file_73, u_X11_file_76, u_X11_file_77, u_X11_file_80, u_X11_file_81, u_X11_file_82, sa_put, so_aload, so_bin, so_cmp, so_dup, so_get, so_iald, so_iast, so_if, so_iret, so_push, so_put, sa_nth, mo, l1, l2, l3, l4, l5, l6, l7, l8, sc_9, sf_0, sf_1, sf_i, sf_r, or_true, true_or, z10, z00, true_imp_iff, false_imp_iff, not_false_eq_true, not_true_eq_false, true_and, and_true, Nat.zero_le, Nat.sub_zero, List.length_cons, List.length_nil, Nat.reduceAdd, Nat.reduceLT, Nat.reduceLeDiff]
    rw [e1]
    refine ⟨fun q => h4 hc ((nI_eq (b := 12) (by omega) (by omega)).mp q), fun q => ?_⟩
    have hlt : N.length < 12 := by
      rcases Nat.lt_or_ge N.length 12 with q1 | q1
      · exact q1
      · exact absurd (show nI N.length = nI 12 by rw [show N.length = 12 by omega]) q
    refine ⟨vp_in_nI hlt (by omega), vp_in_nI hlt (by omega), vp_in_nI hlt (by omega), ?_⟩
    rw [nI_1, nI_pred, nI_clamp (by omega)]
    refine h hc hlt _ _ ⟨by simp; omega, by simp [b2], by simp [b3], by simp, fun i hi => ?_⟩ ⟨rfl, rfl⟩ ⟨rfl, rfl, rfl, rfl, rfl, rfl, rfl, rfl, rfl, rfl⟩
    simp at hi
    dsimp only [a_nameSize, a_dataSize, a_linkTo, a_name, a_data]
    by_cases hq : i = N.length
    · subst hq
      rw [pk_us, pk_us, pk_us, getD_app_r, ← b2, getD_app_r, b2, ← b3]
      refine ⟨rfl, rfl, by simp, fun k hk => by simp at hk, fun k hk => by simp at hk⟩
    · rw [pk_un hq, pk_un hq, pk_un hq, getD_app_l _ _ _ _ (by omega), getD_app_l _ _ _ _ (by omega), List.getElem?_append_left (by omega)]
      exact e2 i (by omega)
  simp only [e_X11_file, u_X11_file_0, u_X11_file_1, u_X11_file_4, u_X11_file_7, u_X11_file_8, u_X11_file_11, u_X11_file_12, u_X11_file_15, u_X11_file_16, u_X11_file_17, u_X11_file_18, u_X11_file_21, u_X11_file_23, u_X11_file_25, u_X11_file_28, u_X11_file_30, u_X11_file_33, u_X11_file_35, u_X11_file_36, u_X11_file_37, u_X11_file_40, u_X11_file_41, u_X11_file_44, u_X11_file_45, u_X11_file_46, u_X11_file_47, u_X11_file_50, u_X11_file_51, u_X11_file_54, u_X11_file_55, u_X11_file_56, u_X11_file_57, u_X11_file_60, u_X11_file_61, u_X11_file_64, u_X11_file_65, u_X11_file_66, u_X11_file_67, u_X11_file_68, u_X11_file_71, u_X11_file_72, u_X11_file_73, u_X11_file_76, u_X11_file_77, u_X11_file_80, u_X11_file_81, u_X11_file_82, sa_put, so_aload, so_bin, so_cmp, so_dup, so_get, so_iald, so_iast, so_if, so_iret, so_push, so_put, sa_nth, mo, l1, l2, l3, l4, l5, l6, l7, l8, sc_9, sf_0, sf_1, sf_i, sf_r, or_true, true_or, z10, z00, true_imp_iff, false_imp_iff, not_false_eq_true, not_true_eq_false, true_and, and_true, Nat.zero_le, Nat.sub_zero, List.length_cons, List.length_nil, Nat.reduceAdd, Nat.reduceLT, Nat.reduceLeDiff]
  rw [e1]
  rcases Nat.eq_zero_or_pos N.length with hz | hp
  · refine ⟨fun _ => rest (Or.inl (List.length_eq_zero_iff.mp hz)), fun q => absurd ?_ q⟩
    rw [hz]; decide
  · have hne : N ≠ [] := List.length_pos_iff.mp hp
    refine ⟨fun q => absurd q (nI_nle hp (by omega)), fun _ => ⟨?_, ?_⟩⟩
    · rw [nI_m1 _ hp]; exact vp_in_nI (by omega) (by omega)
    · rw [nI_m1 _ hp, nI_clamp (by omega)]
      have e3 := (e2 (N.length - 1) (by omega)).1
      have hl := getD_mem_le N 20 (N.length - 1) hI.1
      rw [lastD_eq] at e3 hl
      dsimp only [a_nameSize] at e3
      rw [e3]
      refine ⟨fun q => h3 hne ?_, fun q => rest (Or.inr (fun e => q ?_))⟩
      · exact List.length_eq_zero_iff.mp ((nI_eq (b := 0) (by omega) (by omega)).mp q)
      · rw [e]; rfl
theorem k_X11_clear (hL : sM_L C) (hM : sMF t A N D T) (h : ∀ t' A', sMF t' A' [] [] [] → sfR t A t' A' → sfE t A t' A' → Q (some (.inl (nI N.length))) (C t' A')) : ct_X11_clear 0 0 [.inr (.inl (some 28))] (C t A) Q := by
  have l1 := m_o hL
  have l2 := m_po hL
  obtain ⟨b1, b2, b3, e1, e2⟩ := hM
  simp only [e_X11_clear, u_X11_clear_0, u_X11_clear_1, u_X11_clear_4, u_X11_clear_5, u_X11_clear_6, u_X11_clear_7, u_X11_clear_10, u_X11_clear_11, sa_put, so_aload, so_get, so_iload, so_iret, so_istore, so_push, so_put, sa_nth, mo, l1, l2, sc_9, sf_0, sf_1, sf_i, sf_r, or_true, true_or, z10, z00, true_imp_iff, false_imp_iff, not_false_eq_true, not_true_eq_false, true_and, and_true, Nat.zero_le, Nat.sub_zero, List.length_cons, List.length_nil, Nat.reduceAdd, Nat.reduceLT, Nat.reduceLeDiff]
  dsimp only [i_files] at e1
  rw [e1]
  exact h _ _ ⟨by simp, rfl, rfl, rfl, fun i hi => by simp at hi⟩ ⟨rfl, rfl⟩ ⟨rfl, rfl, rfl, rfl, rfl, rfl, rfl, rfl, rfl, rfl⟩
theorem k_X11_put (hL : sM_L C) (hM : sMR t A l) (v : Int32) (h2 : ¬ isB v → Q (some (.inl (-2))) (C t A)) (h4 : isB v → l.length = 1500 → Q (some (.inl (-4))) (C t A)) (h : isB v → l.length < 1500 → ∀ t' A', sMR t' A' (l ++ [v]) → sfF t A t' A' → sfE t A t' A' → Q (some (.inl (nI (l.length + 1)))) (C t' A')) : ct_X11_put 0 0 [.inr (.inl (some 28)), .inl v] (C t A) Q := by
  have l1 := m_o hL
  have l2 := m_po hL
  have l3 := m_row hL
  have l4 := m_prow hL
  obtain ⟨b1, e1, e2⟩ := hM
  dsimp only [i_size] at e1
  simp only [e_X11_put, u_X11_put_0, u_X11_put_1, u_X11_put_2, u_X11_put_5, u_X11_put_11, u_X11_put_13, u_X11_put_14, u_X11_put_15, u_X11_put_18, u_X11_put_21, u_X11_put_24, u_X11_put_26, u_X11_put_27, u_X11_put_28, u_X11_put_31, u_X11_put_32, u_X11_put_35, u_X11_put_36, u_X11_put_37, u_X11_put_38, u_X11_put_39, u_X11_put_42, u_X11_put_43, u_X11_put_44, u_X11_put_47, u_X11_put_48, u_X11_put_51, sa_put, sa_split, so_aload, so_bin, so_cmp, so_dup, so_get, so_iast, so_iload, so_iret, so_push, so_put, so_stat, sa_nth, List.cons_append, List.nil_append, Option.toList_none, Option.toList_some, sc_9, sf_0, sf_1, sf_i, sf_r, or_true, true_or, z10, z00, true_imp_iff, false_imp_iff, not_false_eq_true, not_true_eq_false, true_and, and_true, Nat.zero_le, Nat.sub_zero, List.length_cons, List.length_nil, Nat.reduceAdd, Nat.reduceLT, Nat.reduceLeDiff]
  refine k_X11_in v 0 255 (fun q1 q2 => ?_) (fun q => ?_)
  · simp only [u_X11_put_0, u_X11_put_1, u_X11_put_2, u_X11_put_5, u_X11_put_8, u_X11_put_11, u_X11_put_13, u_X11_put_14, u_X11_put_15, u_X11_put_18, u_X11_put_21, u_X11_put_24, u_X11_put_26, u_X11_put_27, u_X11_put_28, u_X11_put_31, u_X11_put_32, u_X11_put_35, u_X11_put_36, u_X11_put_37, u_X11_put_38, u_X11_put_39, u_X11_put_42, u_X11_put_43, u_X11_put_44, u_X11_put_47, u_X11_put_48, u_X11_put_51, sa_put, sa_split, so_aload, so_bin, so_cmp, so_dup, so_get, so_iast, so_if, so_iload, so_iret, so_push, so_put, so_stat, sa_nth, mo, l1, l2, l3, l4, List.cons_append, List.nil_append, Option.toList_none, Option.toList_some, sc_9, sf_0, sf_1, sf_i, sf_r, or_true, true_or, z10, z00, true_imp_iff, false_imp_iff, not_false_eq_true, not_true_eq_false, true_and, and_true, Nat.zero_le, Nat.sub_zero, List.length_cons, List.length_nil, Nat.reduceAdd, Nat.reduceLT, Nat.reduceLeDiff]
    rw [e1]
    refine ⟨fun q => h4 ⟨q1, q2⟩ ((nI_eq (b := 1500) (by omega) (by omega)).mp q), fun q => ?_⟩
    have hlt : l.length < 1500 := by
      rcases Nat.lt_or_ge l.length 1500 with q3 | q3
      · exact q3
      · exact absurd (show nI l.length = nI 1500 by rw [show l.length = 1500 by omega]) q
    refine ⟨vp_in_nI hlt (by omega), ?_⟩
    rw [nI_1, nI_clamp (by omega)]
    refine h ⟨q1, q2⟩ hlt _ _ ⟨by simp; omega, by simp, fun j hj => ?_⟩ ⟨rfl, rfl, rfl, rfl, rfl, rfl⟩ ⟨rfl, rfl, rfl, rfl, rfl, rfl, rfl, rfl, rfl, rfl⟩
    simp at hj
    dsimp only [a_row]
    by_cases hq : j = l.length
    · subst hq
      rw [pk_us]; simp
    · rw [pk_un hq, List.getElem?_append_left (by omega)]
      exact e2 j (by omega)
  · simp only [u_X11_put_0, u_X11_put_1, u_X11_put_2, u_X11_put_5, u_X11_put_8, u_X11_put_11, u_X11_put_13, u_X11_put_14, u_X11_put_15, u_X11_put_18, u_X11_put_21, u_X11_put_24, u_X11_put_26, u_X11_put_27, u_X11_put_28, u_X11_put_31, u_X11_put_32, u_X11_put_35, u_X11_put_36, u_X11_put_37, u_X11_put_38, u_X11_put_39, u_X11_put_42, u_X11_put_43, u_X11_put_44, u_X11_put_47, u_X11_put_48, u_X11_put_51, sa_put, sa_split, so_aload, so_bin, so_cmp, so_dup, so_get, so_iast, so_if, so_iload, so_iret, so_push, so_put, so_stat, sa_nth, List.cons_append, List.nil_append, Option.toList_none, Option.toList_some, sc_9, sf_0, sf_1, sf_i, sf_r, or_true, true_or, z10, z00, true_imp_iff, false_imp_iff, not_false_eq_true, not_true_eq_false, true_and, and_true, Nat.zero_le, Nat.sub_zero, List.length_cons, List.length_nil, Nat.reduceAdd, Nat.reduceLT, Nat.reduceLeDiff]
    exact h2 q
end RF1
/-! data, link of the class; name, data, link, row, poke, cut of the reference -/
theorem T_last (T : List Int32) (d : Int32) : T.getD (T.length - 1) d = T.getLastD d := by
  rw [List.getD_eq_getElem?_getD, List.getLastD_eq_getLast?, List.getLast?_eq_getElem?]
theorem sF_h_nI {T : List Int32} {j : Nat} {v : Int32} (hj : j < 2 ^ 31) (h : T[j]? = some v) : sF_h T (nI j) = if v = -1 then nI j else v := by
  unfold sF_h
  rw [if_neg (nI_pos hj), nI_clamp hj, h]
theorem sF_link {N D : List (List Int32)} {T : List Int32} (hI : sIF N D T) {j : Nat} {v : Int32} (hj : j < 2 ^ 30) (h : T[j]? = some v) : sF_h T (nI j) ≠ nI j ↔ v ≠ -1 := by
  rw [sF_h_nI (by omega) h]
  constructor
  · intro q e
    rw [if_pos e] at q
    exact q rfl
  · intro q
    rw [if_neg q]
    rcases hI.2.2.2.2.1 j v h with e | ⟨i, hi, e, -⟩
    · exact absurd e q
    · rw [e]
      intro e2
      have := (nI_eq (by omega) (by omega)).mp e2
      omega
section OPC
variable {C : gF → sa_H} {F : gF} {N D : List (List Int32)} {T : List Int32} {Q : sa_Q}
theorem k_X10_data (hL : sF_L C) (hx : ∀ F, sa_nth (C F) 0 = some (.inr (8, xo))) (hR : sF_R F N D T) (hI : sIF N D T) (c : Int32) (h2 : (N = [] ∨ ¬ isB c) → Q (some (.inl (-2))) (C F)) (h3 : N ≠ [] → isB c → T.getLastD (-1) ≠ -1 → Q (some (.inl (-3))) (C F)) (h4 : N ≠ [] → isB c → T.getLastD (-1) = -1 → (D.getLastD []).length = 60 → Q (some (.inl (-4))) (C F)) (h : N ≠ [] → isB c → T.getLastD (-1) = -1 → (D.getLastD []).length < 60 → ∀ F', sF_R F' N (sS_app D c) T → Q (some (.inl (nI ((D.getLastD []).length + 1)))) (C F')) : ct_X10_data 0 0 [.inr (.inl (some 0)), .inl c] (C F) Q := by
  have g1 : ∀ F, sa_nth (C F) 1 = some (.inr (3, [.inr (.inl (some 2)), .inr (.inl (some 5)), .inr (.inl (some 8))])) := fun F => (hL.1 F.2.2).2.1 F.1 F.2.1
  obtain ⟨hN, hD, hl1, hl2, hT⟩ := id hR
  have hb := hN.2.2.1
  simp only [e_X10_data, u_X10_data_0, u_X10_data_1, u_X10_data_4, u_X10_data_8, u_X10_data_9, u_X10_data_12, u_X10_data_13, u_X10_data_19, u_X10_data_20, u_X10_data_26, u_X10_data_28, u_X10_data_29, u_X10_data_30, u_X10_data_33, u_X10_data_34, u_X10_data_40, u_X10_data_42, u_X10_data_43, u_X10_data_44, u_X10_data_47, u_X10_data_48, u_X10_data_53, u_X10_data_56, u_X10_data_58, u_X10_data_59, u_X10_data_60, u_X10_data_63, u_X10_data_64, u_X10_data_68, u_X10_data_71, u_X10_data_72, sa_sel, sa_split, so_aload, so_cmp, so_get, so_iload, so_iret, so_push, so_stat, so_virt, sa_nth, hx, g1, List.cons_append, List.nil_append, Nat.reduceEqDiff, Option.toList_none, Option.toList_some, if_false, if_true, reduceIte, sc_8, or_true, true_or, z10, z00, true_imp_iff, false_imp_iff, not_false_eq_true, not_true_eq_false, true_and, and_true, Nat.zero_le, Nat.sub_zero, List.length_cons, List.length_nil, Nat.reduceAdd, Nat.reduceLT, Nat.reduceLeDiff]
  refine k_X8_last (hL.1 F.2.2) hN ?_
  simp only [u_X10_data_0, u_X10_data_1, u_X10_data_4, u_X10_data_7, u_X10_data_8, u_X10_data_9, u_X10_data_12, u_X10_data_13, u_X10_data_19, u_X10_data_20, u_X10_data_26, u_X10_data_28, u_X10_data_29, u_X10_data_30, u_X10_data_33, u_X10_data_34, u_X10_data_40, u_X10_data_42, u_X10_data_43, u_X10_data_44, u_X10_data_47, u_X10_data_48, u_X10_data_53, u_X10_data_56, u_X10_data_58, u_X10_data_59, u_X10_data_60, u_X10_data_63, u_X10_data_64, u_X10_data_68, u_X10_data_71, u_X10_data_72, sa_put, sa_sel, sa_split, so_aload, so_cmp, so_get, so_iload, so_iret, so_istore, so_push, so_stat, so_virt, sa_nth, hx, g1, List.cons_append, List.nil_append, Nat.reduceEqDiff, Option.toList_none, Option.toList_some, if_false, if_true, reduceIte, sc_8, or_true, true_or, z10, z00, true_imp_iff, false_imp_iff, not_false_eq_true, not_true_eq_false, true_and, and_true, Nat.zero_le, Nat.sub_zero, List.length_cons, List.length_nil, Nat.reduceAdd, Nat.reduceLT, Nat.reduceLeDiff]
  refine k_X8_has (hL.1 F.2.2) hN _ (fun j hj e => ?_) (fun q => ?_)
  · have hp : 0 < N.length := by omega
    have hne : N ≠ [] := List.length_pos_iff.mp hp
    have hneD : D ≠ [] := List.length_pos_iff.mp (by omega)
    rw [nI_m1 _ hp] at e ⊢
    have hTl : T[N.length - 1]? = some (T.getLastD (-1)) := by
      rw [← T_last, hl2, List.getD_eq_getElem?_getD, List.getElem?_eq_getElem (by omega)]; rfl
    simp only [u_X10_data_0, u_X10_data_1, u_X10_data_4, u_X10_data_8, u_X10_data_9, u_X10_data_12, u_X10_data_13, u_X10_data_16, u_X10_data_19, u_X10_data_20, u_X10_data_26, u_X10_data_28, u_X10_data_29, u_X10_data_30, u_X10_data_33, u_X10_data_34, u_X10_data_40, u_X10_data_42, u_X10_data_43, u_X10_data_44, u_X10_data_47, u_X10_data_48, u_X10_data_53, u_X10_data_56, u_X10_data_58, u_X10_data_59, u_X10_data_60, u_X10_data_63, u_X10_data_64, u_X10_data_68, u_X10_data_71, u_X10_data_72, sa_sel, sa_split, so_aload, so_cmp, so_get, so_if, so_iload, so_iret, so_push, so_stat, so_virt, sa_nth, hx, g1, List.cons_append, List.nil_append, Nat.reduceEqDiff, Option.toList_none, Option.toList_some, if_false, if_true, reduceIte, sc_8, or_true, true_or, z10, z00, true_imp_iff, false_imp_iff, not_false_eq_true, not_true_eq_false, true_and, and_true, Nat.zero_le, Nat.sub_zero, List.length_cons, List.length_nil, Nat.reduceAdd, Nat.reduceLT, Nat.reduceLeDiff]
    refine k_X10_isByte c (fun q => ?_) (fun q => ?_)
    · simp only [u_X10_data_0, u_X10_data_1, u_X10_data_4, u_X10_data_8, u_X10_data_9, u_X10_data_12, u_X10_data_13, u_X10_data_19, u_X10_data_20, u_X10_data_23, u_X10_data_26, u_X10_data_28, u_X10_data_29, u_X10_data_30, u_X10_data_33, u_X10_data_34, u_X10_data_40, u_X10_data_42, u_X10_data_43, u_X10_data_44, u_X10_data_47, u_X10_data_48, u_X10_data_53, u_X10_data_56, u_X10_data_58, u_X10_data_59, u_X10_data_60, u_X10_data_63, u_X10_data_64, u_X10_data_68, u_X10_data_71, u_X10_data_72, sa_sel, sa_split, so_aload, so_cmp, so_get, so_if, so_iload, so_iret, so_push, so_stat, so_virt, sa_nth, hx, g1, List.cons_append, List.nil_append, Nat.reduceEqDiff, Option.toList_none, Option.toList_some, if_false, if_true, reduceIte, sc_8, or_true, true_or, z10, z00, true_imp_iff, false_imp_iff, not_false_eq_true, not_true_eq_false, true_and, and_true, Nat.zero_le, Nat.sub_zero, List.length_cons, List.length_nil, Nat.reduceAdd, Nat.reduceLT, Nat.reduceLeDiff]
      refine k_X3_isLink hL hR _ (fun q1 => ?_) (fun q1 => ?_)
      · simp only [u_X10_data_0, u_X10_data_1, u_X10_data_4, u_X10_data_8, u_X10_data_9, u_X10_data_12, u_X10_data_13, u_X10_data_19, u_X10_data_20, u_X10_data_26, u_X10_data_28, u_X10_data_29, u_X10_data_30, u_X10_data_33, u_X10_data_34, u_X10_data_37, u_X10_data_40, u_X10_data_42, u_X10_data_43, u_X10_data_44, u_X10_data_47, u_X10_data_48, u_X10_data_53, u_X10_data_56, u_X10_data_58, u_X10_data_59, u_X10_data_60, u_X10_data_63, u_X10_data_64, u_X10_data_68, u_X10_data_71, u_X10_data_72, sa_sel, sa_split, so_aload, so_cmp, so_get, so_if, so_iload, so_iret, so_push, so_stat, so_virt, sa_nth, List.cons_append, List.nil_append, Nat.reduceEqDiff, Option.toList_none, Option.toList_some, if_false, if_true, reduceIte, sc_8, or_true, true_or, z10, z00, true_imp_iff, false_imp_iff, not_false_eq_true, not_true_eq_false, true_and, and_true, Nat.zero_le, Nat.sub_zero, List.length_cons, List.length_nil, Nat.reduceAdd, Nat.reduceLT, Nat.reduceLeDiff]
        exact h3 hne q ((sF_link hI (by omega) hTl).mp q1)
      · have hm : T.getLastD (-1) = -1 := by
          rcases Decidable.em (T.getLastD (-1) = -1) with q2 | q2
          · exact q2
          · exact absurd q1 ((sF_link hI (by omega) hTl).mpr q2)
        simp only [u_X10_data_0, u_X10_data_1, u_X10_data_4, u_X10_data_8, u_X10_data_9, u_X10_data_12, u_X10_data_13, u_X10_data_19, u_X10_data_20, u_X10_data_26, u_X10_data_28, u_X10_data_29, u_X10_data_30, u_X10_data_33, u_X10_data_34, u_X10_data_37, u_X10_data_40, u_X10_data_42, u_X10_data_43, u_X10_data_44, u_X10_data_47, u_X10_data_48, u_X10_data_53, u_X10_data_56, u_X10_data_58, u_X10_data_59, u_X10_data_60, u_X10_data_63, u_X10_data_64, u_X10_data_68, u_X10_data_71, u_X10_data_72, sa_sel, sa_split, so_aload, so_cmp, so_get, so_if, so_iload, so_iret, so_push, so_stat, so_virt, sa_nth, hx, g1, List.cons_append, List.nil_append, Nat.reduceEqDiff, Option.toList_none, Option.toList_some, if_false, if_true, reduceIte, sc_8, or_true, true_or, z10, z00, true_imp_iff, false_imp_iff, not_false_eq_true, not_true_eq_false, true_and, and_true, Nat.zero_le, Nat.sub_zero, List.length_cons, List.length_nil, Nat.reduceAdd, Nat.reduceLT, Nat.reduceLeDiff]
        refine kF_contentsLength hL hR _ ?_
        rw [q1, sS_row_nI (by omega), ← hl1, lastD_eq]
        have hll : (D.getLastD []).length ≤ 60 := by rw [← lastD_eq]; exact getD_mem_le D 60 _ hI.2.2.1
        simp only [u_X10_data_0, u_X10_data_1, u_X10_data_4, u_X10_data_8, u_X10_data_9, u_X10_data_12, u_X10_data_13, u_X10_data_19, u_X10_data_20, u_X10_data_26, u_X10_data_28, u_X10_data_29, u_X10_data_30, u_X10_data_33, u_X10_data_34, u_X10_data_40, u_X10_data_42, u_X10_data_43, u_X10_data_44, u_X10_data_47, u_X10_data_48, u_X10_data_51, u_X10_data_53, u_X10_data_56, u_X10_data_58, u_X10_data_59, u_X10_data_60, u_X10_data_63, u_X10_data_64, u_X10_data_68, u_X10_data_71, u_X10_data_72, sa_sel, sa_split, so_aload, so_cmp, so_get, so_iload, so_iret, so_push, so_stat, so_virt, sa_nth, hx, g1, List.cons_append, List.nil_append, Nat.reduceEqDiff, Option.toList_none, Option.toList_some, if_false, if_true, reduceIte, sc_8, or_true, true_or, z10, z00, true_imp_iff, false_imp_iff, not_false_eq_true, not_true_eq_false, true_and, and_true, Nat.zero_le, Nat.sub_zero, List.length_cons, List.length_nil, Nat.reduceAdd, Nat.reduceLT, Nat.reduceLeDiff]
        refine ⟨fun q2 => ?_, fun q2 => h4 hne q hm ?_⟩
        · have hlt : (D.getLastD []).length < 60 := (nI_ltI (b := 60) (by omega) (by omega)).mp q2
          refine k_X8_addContentsByte (hL.1 F.2.2) hD c hneD (flat_lt D 60 12 hI.2.2.1 (by omega) hneD hlt) (fun b hb2 => ?_)
          have hR' : sF_R (F.1, b, F.2.2) N (sS_app D c) T := ⟨hN, hb2, (sS_app_flat D c hneD).2.trans hl1, hl2, hT⟩
          simp only [u_X10_data_0, u_X10_data_1, u_X10_data_4, u_X10_data_8, u_X10_data_9, u_X10_data_12, u_X10_data_13, u_X10_data_19, u_X10_data_20, u_X10_data_26, u_X10_data_28, u_X10_data_29, u_X10_data_30, u_X10_data_33, u_X10_data_34, u_X10_data_40, u_X10_data_42, u_X10_data_43, u_X10_data_44, u_X10_data_47, u_X10_data_48, u_X10_data_53, u_X10_data_56, u_X10_data_58, u_X10_data_59, u_X10_data_60, u_X10_data_63, u_X10_data_64, u_X10_data_67, u_X10_data_68, u_X10_data_71, u_X10_data_72, sa_sel, sa_split, so_aload, so_cmp, so_get, so_iload, so_iret, so_push, so_stat, so_virt, sa_nth, hx, g1, List.cons_append, List.nil_append, Nat.reduceEqDiff, Option.toList_none, Option.toList_some, if_false, if_true, reduceIte, sc_8, or_true, true_or, z10, z00, true_imp_iff, false_imp_iff, not_false_eq_true, not_true_eq_false, true_and, and_true, Nat.zero_le, Nat.sub_zero, List.length_cons, List.length_nil, Nat.reduceAdd, Nat.reduceLT, Nat.reduceLeDiff]
          refine kF_contentsLength hL (F := (F.1, b, F.2.2)) hR' _ ?_
          have e1 : sS_row (sS_app D c) (nI (D.length - 1)) = D.getLastD [] ++ [c] := by
            rw [sS_row_nI (by omega)]
            unfold sS_app
            rw [List.getD_eq_getElem?_getD, List.getElem?_append_right (by simp)]
            simp
          have q3 : sF_h T (nI (D.length - 1)) = nI (D.length - 1) := by rw [hl1]; exact q1
          rw [q3, e1, List.length_append, List.length_cons, List.length_nil, Nat.zero_add]
          simp only [u_X10_data_0, u_X10_data_1, u_X10_data_4, u_X10_data_8, u_X10_data_9, u_X10_data_12, u_X10_data_13, u_X10_data_19, u_X10_data_20, u_X10_data_26, u_X10_data_28, u_X10_data_29, u_X10_data_30, u_X10_data_33, u_X10_data_34, u_X10_data_40, u_X10_data_42, u_X10_data_43, u_X10_data_44, u_X10_data_47, u_X10_data_48, u_X10_data_53, u_X10_data_56, u_X10_data_58, u_X10_data_59, u_X10_data_60, u_X10_data_63, u_X10_data_64, u_X10_data_68, u_X10_data_71, u_X10_data_72, u_X10_data_75, sa_sel, sa_split, so_aload, so_cmp, so_get, so_iload, so_iret, so_push, so_stat, so_virt, sa_nth, List.cons_append, List.nil_append, Nat.reduceEqDiff, Option.toList_none, Option.toList_some, if_false, if_true, reduceIte, sc_8, or_true, true_or, z10, z00, true_imp_iff, false_imp_iff, not_false_eq_true, not_true_eq_false, true_and, and_true, Nat.zero_le, Nat.sub_zero, List.length_cons, List.length_nil, Nat.reduceAdd, Nat.reduceLT, Nat.reduceLeDiff]
          exact h hne q hm hlt _ hR'
        · rcases Nat.lt_or_ge (D.getLastD []).length 60 with q3 | q3
          · exact absurd (nI_lt (b := 60) q3 (by omega)) q2
          · omega
    · simp only [u_X10_data_0, u_X10_data_1, u_X10_data_4, u_X10_data_8, u_X10_data_9, u_X10_data_12, u_X10_data_13, u_X10_data_19, u_X10_data_20, u_X10_data_23, u_X10_data_26, u_X10_data_28, u_X10_data_29, u_X10_data_30, u_X10_data_33, u_X10_data_34, u_X10_data_40, u_X10_data_42, u_X10_data_43, u_X10_data_44, u_X10_data_47, u_X10_data_48, u_X10_data_53, u_X10_data_56, u_X10_data_58, u_X10_data_59, u_X10_data_60, u_X10_data_63, u_X10_data_64, u_X10_data_68, u_X10_data_71, u_X10_data_72, sa_sel, sa_split, so_aload, so_cmp, so_get, so_if, so_iload, so_iret, so_push, so_stat, so_virt, sa_nth, List.cons_append, List.nil_append, Nat.reduceEqDiff, Option.toList_none, Option.toList_some, if_false, if_true, reduceIte, sc_8, or_true, true_or, z10, z00, true_imp_iff, false_imp_iff, not_false_eq_true, not_true_eq_false, true_and, and_true, Nat.zero_le, Nat.sub_zero, List.length_cons, List.length_nil, Nat.reduceAdd, Nat.reduceLT, Nat.reduceLeDiff]
      exact h2 (Or.inr q)
  · simp only [u_X10_data_0, u_X10_data_1, u_X10_data_4, u_X10_data_8, u_X10_data_9, u_X10_data_12, u_X10_data_13, u_X10_data_16, u_X10_data_19, u_X10_data_20, u_X10_data_26, u_X10_data_28, u_X10_data_29, u_X10_data_30, u_X10_data_33, u_X10_data_34, u_X10_data_40, u_X10_data_42, u_X10_data_43, u_X10_data_44, u_X10_data_47, u_X10_data_48, u_X10_data_53, u_X10_data_56, u_X10_data_58, u_X10_data_59, u_X10_data_60, u_X10_data_63, u_X10_data_64, u_X10_data_68, u_X10_data_71, u_X10_data_72, sa_sel, sa_split, so_aload, so_cmp, so_get, so_if, so_iload, so_iret, so_push, so_stat, so_virt, sa_nth, List.cons_append, List.nil_append, Nat.reduceEqDiff, Option.toList_none, Option.toList_some, if_false, if_true, reduceIte, sc_8, or_true, true_or, z10, z00, true_imp_iff, false_imp_iff, not_false_eq_true, not_true_eq_false, true_and, and_true, Nat.zero_le, Nat.sub_zero, List.length_cons, List.length_nil, Nat.reduceAdd, Nat.reduceLT, Nat.reduceLeDiff]
    refine h2 (Or.inl ?_)
    rcases Nat.eq_zero_or_pos N.length with hz | hp
    · exact List.length_eq_zero_iff.mp hz
    · rw [nI_m1 _ hp] at q
      rcases q with q | q
      · exact absurd q (nI_pos (by omega))
      · exact absurd q (nI_ge (by omega) (by omega))
/-- link: to below the last -/
def lk_ok (N : List (List Int32)) (to : Int32) (j : Nat) : Prop := to = nI j ∧ j + 1 < N.length
theorem k_X10_link (hL : sF_L C) (hx : ∀ F, sa_nth (C F) 0 = some (.inr (8, xo))) (hR : sF_R F N D T) (hI : sIF N D T) (to : Int32) (h2 : (∀ j, ¬ lk_ok N to j) → Q (some (.inl (-2))) (C F)) (h3 : ∀ j, lk_ok N to j → (T.getD j (-1) ≠ -1 ∨ T.getLastD (-1) ≠ -1 ∨ D.getLastD [] ≠ []) → Q (some (.inl (-3))) (C F)) (h : ∀ j, lk_ok N to j → T.getD j (-1) = -1 → T.getLastD (-1) = -1 → D.getLastD [] = [] → ∀ F', sF_R F' N D (T.set (N.length - 1) to) → Q (some (.inl 1)) (C F')) : ct_X10_link 0 0 [.inr (.inl (some 0)), .inl to] (C F) Q := by
  have g1 : ∀ F, sa_nth (C F) 1 = some (.inr (3, [.inr (.inl (some 2)), .inr (.inl (some 5)), .inr (.inl (some 8))])) := fun F => (hL.1 F.2.2).2.1 F.1 F.2.1
  obtain ⟨hN, hD, hl1, hl2, hT⟩ := id hR
  have hb := hN.2.2.1
  simp only [e_X10_link, u_X10_link_0, u_X10_link_1, u_X10_link_4, u_X10_link_8, u_X10_link_9, u_X10_link_12, u_X10_link_13, u_X10_link_14, u_X10_link_17, u_X10_link_19, u_X10_link_20, u_X10_link_21, u_X10_link_24, u_X10_link_25, u_X10_link_31, u_X10_link_32, u_X10_link_35, u_X10_link_36, u_X10_link_42, u_X10_link_43, u_X10_link_46, u_X10_link_47, u_X10_link_53, u_X10_link_55, u_X10_link_56, u_X10_link_57, u_X10_link_60, u_X10_link_61, u_X10_link_65, sa_sel, sa_split, so_aload, so_cmp, so_get, so_if, so_iload, so_iret, so_push, so_virt, sa_nth, hx, g1, List.cons_append, List.nil_append, Nat.reduceEqDiff, Option.toList_none, Option.toList_some, if_false, if_true, reduceIte, sc_8, or_true, true_or, z10, z00, true_imp_iff, false_imp_iff, not_false_eq_true, not_true_eq_false, true_and, and_true, Nat.zero_le, Nat.sub_zero, List.length_cons, List.length_nil, Nat.reduceAdd, Nat.reduceLT, Nat.reduceLeDiff]
  refine k_X8_last (hL.1 F.2.2) hN ?_
  simp only [u_X10_link_0, u_X10_link_1, u_X10_link_4, u_X10_link_7, u_X10_link_8, u_X10_link_9, u_X10_link_12, u_X10_link_13, u_X10_link_14, u_X10_link_17, u_X10_link_19, u_X10_link_20, u_X10_link_21, u_X10_link_24, u_X10_link_25, u_X10_link_31, u_X10_link_32, u_X10_link_35, u_X10_link_36, u_X10_link_42, u_X10_link_43, u_X10_link_46, u_X10_link_47, u_X10_link_53, u_X10_link_55, u_X10_link_56, u_X10_link_57, u_X10_link_60, u_X10_link_61, u_X10_link_65, sa_put, sa_sel, sa_split, so_aload, so_cmp, so_get, so_if, so_iload, so_iret, so_istore, so_push, so_virt, sa_nth, hx, g1, List.cons_append, List.nil_append, Nat.reduceEqDiff, Option.toList_none, Option.toList_some, if_false, if_true, reduceIte, sc_8, or_true, true_or, z10, z00, true_imp_iff, false_imp_iff, not_false_eq_true, not_true_eq_false, true_and, and_true, Nat.zero_le, Nat.sub_zero, List.length_cons, List.length_nil, Nat.reduceAdd, Nat.reduceLT, Nat.reduceLeDiff]
  refine ⟨fun q => h2 (fun j hj => ?_), fun q => ?_⟩
  · rw [hj.1] at q; exact absurd q (nI_pos (by have := hj.2; omega))
  obtain ⟨j, hj, rfl⟩ := nI_of q
  rcases Nat.eq_zero_or_pos N.length with hz | hp
  · refine ⟨fun q1 => ?_, fun _ => h2 (fun i hi => by have := hi.2; omega)⟩
    rw [hz, show nI 0 - 1 = -1 by decide] at q1
    exact absurd q1 (by rw [i32_nlt]; exact Int32.le_of_lt (by rw [Int32.lt_iff_toInt_lt, nI_toInt hj]; show (-1 : Int) < _; omega))
  have hne : N ≠ [] := List.length_pos_iff.mp hp
  have hTl : T[N.length - 1]? = some (T.getLastD (-1)) := by
    rw [← T_last, hl2, List.getD_eq_getElem?_getD, List.getElem?_eq_getElem (by omega)]; rfl
  rw [nI_m1 _ hp, nI_ltI hj (by omega)]
  refine ⟨fun q1 => ?_, fun q1 => h2 (fun i hi => ?_)⟩
  · have hok : lk_ok N (nI j) j := ⟨rfl, by omega⟩
    have hTj : T[j]? = some (T.getD j (-1)) := by
      rw [List.getD_eq_getElem?_getD, List.getElem?_eq_getElem (by omega)]; rfl
    refine k_X3_isLink hL hR _ (fun q2 => ?_) (fun q2 => ?_)
    · simp only [u_X10_link_0, u_X10_link_1, u_X10_link_4, u_X10_link_8, u_X10_link_9, u_X10_link_12, u_X10_link_13, u_X10_link_14, u_X10_link_17, u_X10_link_19, u_X10_link_20, u_X10_link_21, u_X10_link_24, u_X10_link_25, u_X10_link_28, u_X10_link_31, u_X10_link_32, u_X10_link_35, u_X10_link_36, u_X10_link_42, u_X10_link_43, u_X10_link_46, u_X10_link_47, u_X10_link_53, u_X10_link_55, u_X10_link_56, u_X10_link_57, u_X10_link_60, u_X10_link_61, u_X10_link_65, sa_sel, sa_split, so_aload, so_cmp, so_get, so_if, so_iload, so_iret, so_push, so_virt, sa_nth, List.cons_append, List.nil_append, Nat.reduceEqDiff, Option.toList_none, Option.toList_some, if_false, if_true, reduceIte, sc_8, or_true, true_or, z10, z00, true_imp_iff, false_imp_iff, not_false_eq_true, not_true_eq_false, true_and, and_true, Nat.zero_le, Nat.sub_zero, List.length_cons, List.length_nil, Nat.reduceAdd, Nat.reduceLT, Nat.reduceLeDiff]
      exact h3 j hok (Or.inl ((sF_link hI (by omega) hTj).mp q2))
    · have e2 : T.getD j (-1) = -1 := by
        rcases Decidable.em (T.getD j (-1) = -1) with q3 | q3
        · exact q3
        · exact absurd q2 ((sF_link hI (by omega) hTj).mpr q3)
      simp only [u_X10_link_0, u_X10_link_1, u_X10_link_4, u_X10_link_8, u_X10_link_9, u_X10_link_12, u_X10_link_13, u_X10_link_14, u_X10_link_17, u_X10_link_19, u_X10_link_20, u_X10_link_21, u_X10_link_24, u_X10_link_25, u_X10_link_28, u_X10_link_31, u_X10_link_32, u_X10_link_35, u_X10_link_36, u_X10_link_42, u_X10_link_43, u_X10_link_46, u_X10_link_47, u_X10_link_53, u_X10_link_55, u_X10_link_56, u_X10_link_57, u_X10_link_60, u_X10_link_61, u_X10_link_65, sa_sel, sa_split, so_aload, so_cmp, so_get, so_if, so_iload, so_iret, so_push, so_virt, sa_nth, hx, g1, List.cons_append, List.nil_append, Nat.reduceEqDiff, Option.toList_none, Option.toList_some, if_false, if_true, reduceIte, sc_8, or_true, true_or, z10, z00, true_imp_iff, false_imp_iff, not_false_eq_true, not_true_eq_false, true_and, and_true, Nat.zero_le, Nat.sub_zero, List.length_cons, List.length_nil, Nat.reduceAdd, Nat.reduceLT, Nat.reduceLeDiff]
      refine k_X3_isLink hL hR _ (fun q3 => ?_) (fun q3 => ?_)
      · simp only [u_X10_link_0, u_X10_link_1, u_X10_link_4, u_X10_link_8, u_X10_link_9, u_X10_link_12, u_X10_link_13, u_X10_link_14, u_X10_link_17, u_X10_link_19, u_X10_link_20, u_X10_link_21, u_X10_link_24, u_X10_link_25, u_X10_link_31, u_X10_link_32, u_X10_link_35, u_X10_link_36, u_X10_link_39, u_X10_link_42, u_X10_link_43, u_X10_link_46, u_X10_link_47, u_X10_link_53, u_X10_link_55, u_X10_link_56, u_X10_link_57, u_X10_link_60, u_X10_link_61, u_X10_link_65, sa_sel, sa_split, so_aload, so_cmp, so_get, so_if, so_iload, so_iret, so_push, so_virt, sa_nth, List.cons_append, List.nil_append, Nat.reduceEqDiff, Option.toList_none, Option.toList_some, if_false, if_true, reduceIte, sc_8, or_true, true_or, z10, z00, true_imp_iff, false_imp_iff, not_false_eq_true, not_true_eq_false, true_and, and_true, Nat.zero_le, Nat.sub_zero, List.length_cons, List.length_nil, Nat.reduceAdd, Nat.reduceLT, Nat.reduceLeDiff]
        exact h3 j hok (Or.inr (Or.inl ((sF_link hI (by omega) hTl).mp q3)))
      · have e3 : T.getLastD (-1) = -1 := by
          rcases Decidable.em (T.getLastD (-1) = -1) with q4 | q4
          · exact q4
          · exact absurd q3 ((sF_link hI (by omega) hTl).mpr q4)
        simp only [u_X10_link_0, u_X10_link_1, u_X10_link_4, u_X10_link_8, u_X10_link_9, u_X10_link_12, u_X10_link_13, u_X10_link_14, u_X10_link_17, u_X10_link_19, u_X10_link_20, u_X10_link_21, u_X10_link_24, u_X10_link_25, u_X10_link_31, u_X10_link_32, u_X10_link_35, u_X10_link_36, u_X10_link_39, u_X10_link_42, u_X10_link_43, u_X10_link_46, u_X10_link_47, u_X10_link_53, u_X10_link_55, u_X10_link_56, u_X10_link_57, u_X10_link_60, u_X10_link_61, u_X10_link_65, sa_sel, sa_split, so_aload, so_cmp, so_get, so_if, so_iload, so_iret, so_push, so_virt, sa_nth, hx, g1, List.cons_append, List.nil_append, Nat.reduceEqDiff, Option.toList_none, Option.toList_some, if_false, if_true, reduceIte, sc_8, or_true, true_or, z10, z00, true_imp_iff, false_imp_iff, not_false_eq_true, not_true_eq_false, true_and, and_true, Nat.zero_le, Nat.sub_zero, List.length_cons, List.length_nil, Nat.reduceAdd, Nat.reduceLT, Nat.reduceLeDiff]
        refine kF_contentsLength hL hR _ ?_
        rw [q3, sS_row_nI (by omega), ← hl1, lastD_eq]
        have hll : (D.getLastD []).length ≤ 60 := by rw [← lastD_eq]; exact getD_mem_le D 60 _ hI.2.2.1
        simp only [u_X10_link_0, u_X10_link_1, u_X10_link_4, u_X10_link_8, u_X10_link_9, u_X10_link_12, u_X10_link_13, u_X10_link_14, u_X10_link_17, u_X10_link_19, u_X10_link_20, u_X10_link_21, u_X10_link_24, u_X10_link_25, u_X10_link_31, u_X10_link_32, u_X10_link_35, u_X10_link_36, u_X10_link_42, u_X10_link_43, u_X10_link_46, u_X10_link_47, u_X10_link_50, u_X10_link_53, u_X10_link_55, u_X10_link_56, u_X10_link_57, u_X10_link_60, u_X10_link_61, u_X10_link_65, sa_sel, sa_split, so_aload, so_cmp, so_get, so_if, so_iload, so_iret, so_push, so_virt, sa_nth, hx, g1, List.cons_append, List.nil_append, Nat.reduceEqDiff, Option.toList_none, Option.toList_some, if_false, if_true, reduceIte, sc_8, or_true, true_or, z10, z00, true_imp_iff, false_imp_iff, not_false_eq_true, not_true_eq_false, true_and, and_true, Nat.zero_le, Nat.sub_zero, List.length_cons, List.length_nil, Nat.reduceAdd, Nat.reduceLT, Nat.reduceLeDiff]
        refine ⟨fun q4 => ?_, fun q4 => h3 j hok (Or.inr (Or.inr (fun e => q4 ?_)))⟩
        · have e4 : D.getLastD [] = [] := by
            rcases Nat.eq_zero_or_pos (D.getLastD []).length with z | z
            · exact List.length_eq_zero_iff.mp z
            · exact absurd q4 (nI_nle z (by omega))
          refine k_X3_linkLast hL hR hne _ (fun F' hR' => ?_)
          simp only [u_X10_link_0, u_X10_link_1, u_X10_link_4, u_X10_link_8, u_X10_link_9, u_X10_link_12, u_X10_link_13, u_X10_link_14, u_X10_link_17, u_X10_link_19, u_X10_link_20, u_X10_link_21, u_X10_link_24, u_X10_link_25, u_X10_link_31, u_X10_link_32, u_X10_link_35, u_X10_link_36, u_X10_link_42, u_X10_link_43, u_X10_link_46, u_X10_link_47, u_X10_link_53, u_X10_link_55, u_X10_link_56, u_X10_link_57, u_X10_link_60, u_X10_link_61, u_X10_link_64, u_X10_link_65, sa_sel, sa_split, so_aload, so_cmp, so_get, so_if, so_iload, so_iret, so_push, so_virt, sa_nth, List.cons_append, List.nil_append, Nat.reduceEqDiff, Option.toList_none, Option.toList_some, if_false, if_true, reduceIte, sc_8, or_true, true_or, z10, z00, true_imp_iff, false_imp_iff, not_false_eq_true, not_true_eq_false, true_and, and_true, Nat.zero_le, Nat.sub_zero, List.length_cons, List.length_nil, Nat.reduceAdd, Nat.reduceLT, Nat.reduceLeDiff]
          exact h j hok e2 e3 e4 F' hR'
        · rw [e]; decide
  · obtain ⟨hi1, hi2⟩ := hi
    have := (nI_eq hj (by omega)).mp hi1
    omega
end OPC
/-! name, data, link, row, poke, cut of the reference -/
theorem app_getD (L : List (List Int32)) (c : Int32) (i : Nat) (hne : L ≠ []) (hi : i < L.length) : (sS_app L c).getD i [] = if i = L.length - 1 then L.getLastD [] ++ [c] else L.getD i [] := by
  have hp : 0 < L.length := List.length_pos_iff.mpr hne
  unfold sS_app
  split
  · next h =>
    rw [List.getD_eq_getElem?_getD, List.getElem?_append_right (by simp; omega)]
    simp [h]
  · next h =>
    rw [List.getD_eq_getElem?_getD, List.getElem?_append_left (by simp; omega), List.getElem?_dropLast, if_pos (by omega), List.getD_eq_getElem?_getD]
section RF2
variable {C : gI → gA → sa_H} {t : gI} {A : gA} {N D : List (List Int32)} {T : List Int32} {l : List Int32} {Q : sa_Q}
theorem k_X11_name (hL : sM_L C) (hM : sMF t A N D T) (hI : sIF N D T) (c : Int32) (h2 : (N = [] ∨ ¬ isL c) → Q (some (.inl (-2))) (C t A)) (h4 : N ≠ [] → isL c → (N.getLastD []).length = 20 → Q (some (.inl (-4))) (C t A)) (h : N ≠ [] → isL c → (N.getLastD []).length < 20 → ∀ t' A', sMF t' A' (sS_app N c) D T → sfR t A t' A' → sfE t A t' A' → Q (some (.inl (nI ((N.getLastD []).length + 1)))) (C t' A')) : ct_X11_name 0 0 [.inr (.inl (some 28)), .inl c] (C t A) Q := by
  have l1 := m_o hL
  have l3 := m_nameSize hL
  have l4 := m_pnameSize hL
  have l5 := m_name hL
  have l6 := m_pname hL
  obtain ⟨b1, b2, b3, e1, e2⟩ := hM
  dsimp only [i_files] at e1
  simp only [e_X11_name, u_X11_name_0, u_X11_name_1, u_X11_name_4, u_X11_name_7, u_X11_name_8, u_X11_name_14, u_X11_name_16, u_X11_name_17, u_X11_name_18, u_X11_name_21, u_X11_name_22, u_X11_name_23, u_X11_name_24, u_X11_name_25, u_X11_name_28, u_X11_name_29, u_X11_name_30, u_X11_name_32, u_X11_name_35, u_X11_name_37, u_X11_name_38, u_X11_name_39, u_X11_name_42, u_X11_name_44, u_X11_name_45, u_X11_name_46, u_X11_name_47, u_X11_name_50, u_X11_name_51, u_X11_name_52, u_X11_name_53, u_X11_name_54, u_X11_name_55, u_X11_name_56, u_X11_name_59, u_X11_name_60, u_X11_name_61, u_X11_name_62, u_X11_name_63, u_X11_name_64, u_X11_name_65, u_X11_name_66, u_X11_name_69, u_X11_name_70, u_X11_name_71, sa_put, sa_split, so_aload, so_bin, so_cmp, so_dup2, so_get, so_iald, so_iast, so_if, so_iload, so_iret, so_istore, so_push, so_stat, sa_nth, mo, l1, List.cons_append, List.nil_append, Option.toList_none, Option.toList_some, sc_9, or_true, true_or, z10, z00, true_imp_iff, false_imp_iff, not_false_eq_true, not_true_eq_false, true_and, and_true, Nat.zero_le, Nat.sub_zero, List.length_cons, List.length_nil, Nat.reduceAdd, Nat.reduceLT, Nat.reduceLeDiff]
  rw [e1]
  refine ⟨fun q => h2 (Or.inl (List.length_eq_zero_iff.mp ((nI_eq (b := 0) (by omega) (by omega)).mp q))), fun q => ?_⟩
  have hp : 0 < N.length := by
    rcases Nat.eq_zero_or_pos N.length with z | z
    · rw [z] at q; exact absurd rfl q
    · exact z
  have hne : N ≠ [] := List.length_pos_iff.mp hp
  refine k_X11_isLetter c (fun q1 => ?_) (fun q1 => ?_)
  · simp only [u_X11_name_0, u_X11_name_1, u_X11_name_4, u_X11_name_7, u_X11_name_8, u_X11_name_11, u_X11_name_14, u_X11_name_16, u_X11_name_17, u_X11_name_18, u_X11_name_21, u_X11_name_22, u_X11_name_23, u_X11_name_24, u_X11_name_25, u_X11_name_28, u_X11_name_29, u_X11_name_30, u_X11_name_32, u_X11_name_35, u_X11_name_37, u_X11_name_38, u_X11_name_39, u_X11_name_42, u_X11_name_44, u_X11_name_45, u_X11_name_46, u_X11_name_47, u_X11_name_50, u_X11_name_51, u_X11_name_52, u_X11_name_53, u_X11_name_54, u_X11_name_55, u_X11_name_56, u_X11_name_59, u_X11_name_60, u_X11_name_61, u_X11_name_62, u_X11_name_63, u_X11_name_64, u_X11_name_65, u_X11_name_66, u_X11_name_69, u_X11_name_70, u_X11_name_71, sa_put, sa_split, so_aload, so_bin, so_cmp, so_dup2, so_get, so_iald, so_iast, so_if, so_iload, so_iret, so_istore, so_push, so_stat, sa_nth, mo, l1, l3, l4, l5, l6, List.cons_append, List.nil_append, Option.toList_none, Option.toList_some, sc_9, or_true, true_or, z10, z00, true_imp_iff, false_imp_iff, not_false_eq_true, not_true_eq_false, true_and, and_true, Nat.zero_le, Nat.sub_zero, List.length_cons, List.length_nil, Nat.reduceAdd, Nat.reduceLT, Nat.reduceLeDiff]
    obtain ⟨s1, s2, s3, s4, s5⟩ := e2 (N.length - 1) (by omega)
    rw [lastD_eq] at s1 s4
    have hll : (N.getLastD []).length ≤ 20 := by rw [← lastD_eq]; exact getD_mem_le N 20 _ hI.1
    dsimp only [a_nameSize] at s1
    rw [e1, nI_m1 _ hp, nI_clamp (by omega), s1]
    refine ⟨vp_in_nI (by omega) (by omega), fun q2 => h4 hne q1 ((nI_eq (b := 20) (by omega) (by omega)).mp q2), fun q2 => ?_⟩
    have hlt : (N.getLastD []).length < 20 := by
      rcases Nat.lt_or_ge (N.getLastD []).length 20 with q3 | q3
      · exact q3
      · exact absurd (show nI (N.getLastD []).length = nI 20 by rw [show (N.getLastD []).length = 20 by omega]) q2
    rw [show (20 : Int32) = nI 20 from rfl, pk_mul, nI_add, nI_clamp (by omega), pk_us, nI_1]
    refine ⟨vp_in_nI (by omega) (by omega), vp_in_nI (by omega) (by omega), vp_in_nI (by omega) (by omega), vp_in_nI (by omega) (by omega), vp_in_nI (by omega) (by omega), ?_⟩
    obtain ⟨f1, f2⟩ := sS_app_flat N c hne
    refine h hne q1 hlt _ _ ⟨by omega, by omega, by omega, by rw [f2]; exact e1, fun i hi => ?_⟩ ⟨rfl, rfl⟩ ⟨rfl, rfl, rfl, rfl, rfl, rfl, rfl, rfl, rfl, rfl⟩
    rw [f2] at hi
    dsimp only [a_nameSize, a_dataSize, a_linkTo, a_name, a_data]
    rw [app_getD N c i hne hi]
    obtain ⟨w1, w2, w3, w4, w5⟩ := e2 i hi
    by_cases hq : i = N.length - 1
    · subst hq
      rw [if_pos rfl, pk_us]
      refine ⟨by simp, w2, w3, fun k hk => ?_, w5⟩
      rw [List.length_append] at hk
      simp only [List.length_cons, List.length_nil] at hk
      by_cases hk2 : k = (N.getLastD []).length
      · subst hk2
        rw [pk_us]; simp
      · rw [pk_un (by omega), List.getElem?_append_left (by omega)]
        exact s4 k (by omega)
    · rw [if_neg hq, pk_un hq]
      refine ⟨w1, w2, w3, fun k hk => ?_, w5⟩
      have hlk := getD_mem_le N 20 i hI.1
      rw [pk_un (by omega)]
      exact w4 k hk
  · simp only [u_X11_name_0, u_X11_name_1, u_X11_name_4, u_X11_name_7, u_X11_name_8, u_X11_name_11, u_X11_name_14, u_X11_name_16, u_X11_name_17, u_X11_name_18, u_X11_name_21, u_X11_name_22, u_X11_name_23, u_X11_name_24, u_X11_name_25, u_X11_name_28, u_X11_name_29, u_X11_name_30, u_X11_name_32, u_X11_name_35, u_X11_name_37, u_X11_name_38, u_X11_name_39, u_X11_name_42, u_X11_name_44, u_X11_name_45, u_X11_name_46, u_X11_name_47, u_X11_name_50, u_X11_name_51, u_X11_name_52, u_X11_name_53, u_X11_name_54, u_X11_name_55, u_X11_name_56, u_X11_name_59, u_X11_name_60, u_X11_name_61, u_X11_name_62, u_X11_name_63, u_X11_name_64, u_X11_name_65, u_X11_name_66, u_X11_name_69, u_X11_name_70, u_X11_name_71, sa_put, sa_split, so_aload, so_bin, so_cmp, so_dup2, so_get, so_iald, so_iast, so_if, so_iload, so_iret, so_istore, so_push, so_stat, sa_nth, List.cons_append, List.nil_append, Option.toList_none, Option.toList_some, sc_9, or_true, true_or, z10, z00, true_imp_iff, false_imp_iff, not_false_eq_true, not_true_eq_false, true_and, and_true, Nat.zero_le, Nat.sub_zero, List.length_cons, List.length_nil, Nat.reduceAdd, Nat.reduceLT, Nat.reduceLeDiff]
    exact h2 (Or.inr q1)
theorem k_X11_data (hL : sM_L C) (hM : sMF t A N D T) (hI : sIF N D T) (c : Int32) (h2 : (N = [] ∨ ¬ isB c) → Q (some (.inl (-2))) (C t A)) (h3 : N ≠ [] → isB c → T.getLastD (-1) ≠ -1 → Q (some (.inl (-3))) (C t A)) (h4 : N ≠ [] → isB c → T.getLastD (-1) = -1 → (D.getLastD []).length = 60 → Q (some (.inl (-4))) (C t A)) (h : N ≠ [] → isB c → T.getLastD (-1) = -1 → (D.getLastD []).length < 60 → ∀ t' A', sMF t' A' N (sS_app D c) T → sfR t A t' A' → sfE t A t' A' → Q (some (.inl (nI ((D.getLastD []).length + 1)))) (C t' A')) : ct_X11_data 0 0 [.inr (.inl (some 28)), .inl c] (C t A) Q := by
  have l1 := m_o hL
  have l3 := m_dataSize hL
  have l4 := m_pdataSize hL
  have l5 := m_data hL
  have l6 := m_pdata hL
  have l7 := m_linkTo hL
  obtain ⟨b1, b2, b3, e1, e2⟩ := hM
  dsimp only [i_files] at e1
  simp only [e_X11_data, u_X11_data_0, u_X11_data_1, u_X11_data_4, u_X11_data_7, u_X11_data_8, u_X11_data_9, u_X11_data_12, u_X11_data_18, u_X11_data_20, u_X11_data_21, u_X11_data_22, u_X11_data_25, u_X11_data_26, u_X11_data_27, u_X11_data_28, u_X11_data_29, u_X11_data_32, u_X11_data_33, u_X11_data_34, u_X11_data_35, u_X11_data_38, u_X11_data_40, u_X11_data_41, u_X11_data_42, u_X11_data_45, u_X11_data_46, u_X11_data_47, u_X11_data_49, u_X11_data_52, u_X11_data_54, u_X11_data_55, u_X11_data_56, u_X11_data_59, u_X11_data_61, u_X11_data_62, u_X11_data_63, u_X11_data_64, u_X11_data_67, u_X11_data_68, u_X11_data_69, u_X11_data_70, u_X11_data_71, u_X11_data_72, u_X11_data_73, u_X11_data_76, u_X11_data_77, u_X11_data_78, u_X11_data_79, u_X11_data_80, u_X11_data_81, u_X11_data_82, u_X11_data_83, u_X11_data_86, u_X11_data_87, u_X11_data_88, sa_put, sa_split, so_aload, so_bin, so_cmp, so_dup2, so_get, so_iald, so_iast, so_if, so_iload, so_iret, so_istore, so_push, so_stat, sa_nth, mo, l1, List.cons_append, List.nil_append, Option.toList_none, Option.toList_some, sc_9, or_true, true_or, z10, z00, true_imp_iff, false_imp_iff, not_false_eq_true, not_true_eq_false, true_and, and_true, Nat.zero_le, Nat.sub_zero, List.length_cons, List.length_nil, Nat.reduceAdd, Nat.reduceLT, Nat.reduceLeDiff]
  rw [e1]
  refine ⟨fun q => h2 (Or.inl (List.length_eq_zero_iff.mp ((nI_eq (b := 0) (by omega) (by omega)).mp q))), fun q => ?_⟩
  have hp : 0 < N.length := by
    rcases Nat.eq_zero_or_pos N.length with z | z
    · rw [z] at q; exact absurd rfl q
    · exact z
  have hne : N ≠ [] := List.length_pos_iff.mp hp
  have hneD : D ≠ [] := List.length_pos_iff.mp (by omega)
  refine k_X11_in c 0 255 (fun q1 q1b => ?_) (fun q1 => ?_)
  · simp only [u_X11_data_0, u_X11_data_1, u_X11_data_4, u_X11_data_7, u_X11_data_8, u_X11_data_9, u_X11_data_12, u_X11_data_15, u_X11_data_18, u_X11_data_20, u_X11_data_21, u_X11_data_22, u_X11_data_25, u_X11_data_26, u_X11_data_27, u_X11_data_28, u_X11_data_29, u_X11_data_32, u_X11_data_33, u_X11_data_34, u_X11_data_35, u_X11_data_38, u_X11_data_40, u_X11_data_41, u_X11_data_42, u_X11_data_45, u_X11_data_46, u_X11_data_47, u_X11_data_49, u_X11_data_52, u_X11_data_54, u_X11_data_55, u_X11_data_56, u_X11_data_59, u_X11_data_61, u_X11_data_62, u_X11_data_63, u_X11_data_64, u_X11_data_67, u_X11_data_68, u_X11_data_69, u_X11_data_70, u_X11_data_71, u_X11_data_72, u_X11_data_73, u_X11_data_76, u_X11_data_77, u_X11_data_78, u_X11_data_79, u_X11_data_80, u_X11_data_81, u_X11_data_82, u_X11_data_83, u_X11_data_86, u_X11_data_87, u_X11_data_88, sa_put, sa_split, so_aload, so_bin, so_cmp, so_dup2, so_get, so_iald, so_iast, so_if, so_iload, so_iret, so_istore, so_push, so_stat, sa_nth, mo, l1, l3, l4, l5, l6, l7, List.cons_append, List.nil_append, Option.toList_none, Option.toList_some, sc_9, or_true, true_or, z10, z00, true_imp_iff, false_imp_iff, not_false_eq_true, not_true_eq_false, true_and, and_true, Nat.zero_le, Nat.sub_zero, List.length_cons, List.length_nil, Nat.reduceAdd, Nat.reduceLT, Nat.reduceLeDiff]
    obtain ⟨s1, s2, s3, s4, s5⟩ := e2 (N.length - 1) (by omega)
    have hTl : T[N.length - 1]? = some (T.getLastD (-1)) := by
      rw [← T_last, b3, List.getD_eq_getElem?_getD, List.getElem?_eq_getElem (by omega)]; rfl
    have s6 : D.getD (N.length - 1) [] = D.getLastD [] := by rw [← b2]; exact lastD_eq D
    rw [s6] at s2 s5
    have hll : (D.getLastD []).length ≤ 60 := by rw [← lastD_eq]; exact getD_mem_le D 60 _ hI.2.2.1
    dsimp only [a_dataSize] at s2
    dsimp only [a_linkTo] at s3
    have s7 := Option.some.inj (hTl.symm.trans s3)
    rw [e1, nI_m1 _ hp, nI_clamp (by omega), s2, ← s7]
    refine ⟨vp_in_nI (by omega) (by omega), fun hm => ?_, fun q2 => h3 hne ⟨q1, q1b⟩ q2⟩
    refine ⟨vp_in_nI (by omega) (by omega), fun q2 => h4 hne ⟨q1, q1b⟩ hm ((nI_eq (b := 60) (by omega) (by omega)).mp q2), fun q2 => ?_⟩
    have hlt : (D.getLastD []).length < 60 := by
      rcases Nat.lt_or_ge (D.getLastD []).length 60 with q3 | q3
      · exact q3
      · exact absurd (show nI (D.getLastD []).length = nI 60 by rw [show (D.getLastD []).length = 60 by omega]) q2
    rw [show (60 : Int32) = nI 60 from rfl, pk_mul, nI_add, nI_clamp (by omega), pk_us, nI_1]
    refine ⟨vp_in_nI (by omega) (by omega), vp_in_nI (by omega) (by omega), vp_in_nI (by omega) (by omega), vp_in_nI (by omega) (by omega), vp_in_nI (by omega) (by omega), ?_⟩
    obtain ⟨f1, f2⟩ := sS_app_flat D c hneD
    refine h hne ⟨q1, q1b⟩ hm hlt _ _ ⟨by omega, by omega, by omega, e1, fun i hi => ?_⟩ ⟨rfl, rfl⟩ ⟨rfl, rfl, rfl, rfl, rfl, rfl, rfl, rfl, rfl, rfl⟩
    dsimp only [a_nameSize, a_dataSize, a_linkTo, a_name, a_data]
    rw [app_getD D c i hneD (by omega), b2]
    obtain ⟨w1, w2, w3, w4, w5⟩ := e2 i hi
    by_cases hq : i = N.length - 1
    · subst hq
      rw [if_pos rfl, pk_us]
      refine ⟨w1, by simp, w3, w4, fun k hk => ?_⟩
      rw [List.length_append] at hk
      simp only [List.length_cons, List.length_nil] at hk
      by_cases hk2 : k = (D.getLastD []).length
      · subst hk2
        rw [pk_us]; simp
      · rw [pk_un (by omega), List.getElem?_append_left (by omega)]
        exact s5 k (by omega)
    · rw [if_neg hq, pk_un hq]
      refine ⟨w1, w2, w3, w4, fun k hk => ?_⟩
      have hlk := getD_mem_le D 60 i hI.2.2.1
      rw [pk_un (by omega)]
      exact w5 k hk
  · simp only [u_X11_data_0, u_X11_data_1, u_X11_data_4, u_X11_data_7, u_X11_data_8, u_X11_data_9, u_X11_data_12, u_X11_data_15, u_X11_data_18, u_X11_data_20, u_X11_data_21, u_X11_data_22, u_X11_data_25, u_X11_data_26, u_X11_data_27, u_X11_data_28, u_X11_data_29, u_X11_data_32, u_X11_data_33, u_X11_data_34, u_X11_data_35, u_X11_data_38, u_X11_data_40, u_X11_data_41, u_X11_data_42, u_X11_data_45, u_X11_data_46, u_X11_data_47, u_X11_data_49, u_X11_data_52, u_X11_data_54, u_X11_data_55, u_X11_data_56, u_X11_data_59, u_X11_data_61, u_X11_data_62, u_X11_data_63, u_X11_data_64, u_X11_data_67, u_X11_data_68, u_X11_data_69, u_X11_data_70, u_X11_data_71, u_X11_data_72, u_X11_data_73, u_X11_data_76, u_X11_data_77, u_X11_data_78, u_X11_data_79, u_X11_data_80, u_X11_data_81, u_X11_data_82, u_X11_data_83, u_X11_data_86, u_X11_data_87, u_X11_data_88, sa_put, sa_split, so_aload, so_bin, so_cmp, so_dup2, so_get, so_iald, so_iast, so_if, so_iload, so_iret, so_istore, so_push, so_stat, sa_nth, List.cons_append, List.nil_append, Option.toList_none, Option.toList_some, sc_9, or_true, true_or, z10, z00, true_imp_iff, false_imp_iff, not_false_eq_true, not_true_eq_false, true_and, and_true, Nat.zero_le, Nat.sub_zero, List.length_cons, List.length_nil, Nat.reduceAdd, Nat.reduceLT, Nat.reduceLeDiff]
    exact h2 (Or.inr q1)
theorem k_X11_link (hL : sM_L C) (hM : sMF t A N D T) (hI : sIF N D T) (to : Int32) (h2 : (∀ j, ¬ lk_ok N to j) → Q (some (.inl (-2))) (C t A)) (h3 : ∀ j, lk_ok N to j → (T.getD j (-1) ≠ -1 ∨ T.getLastD (-1) ≠ -1 ∨ D.getLastD [] ≠ []) → Q (some (.inl (-3))) (C t A)) (h : ∀ j, lk_ok N to j → T.getD j (-1) = -1 → T.getLastD (-1) = -1 → D.getLastD [] = [] → ∀ t' A', sMF t' A' N D (T.set (N.length - 1) to) → sfR t A t' A' → sfE t A t' A' → Q (some (.inl 1)) (C t' A')) : ct_X11_link 0 0 [.inr (.inl (some 28)), .inl to] (C t A) Q := by
  have l1 := m_o hL
  have l3 := m_dataSize hL
  have l7 := m_linkTo hL
  have l8 := m_plinkTo hL
  obtain ⟨b1, b2, b3, e1, e2⟩ := hM
  dsimp only [i_files] at e1
  simp only [e_X11_link, u_X11_link_0, u_X11_link_1, u_X11_link_2, u_X11_link_3, u_X11_link_6, u_X11_link_7, u_X11_link_8, u_X11_link_14, u_X11_link_16, u_X11_link_17, u_X11_link_18, u_X11_link_21, u_X11_link_22, u_X11_link_23, u_X11_link_24, u_X11_link_25, u_X11_link_28, u_X11_link_29, u_X11_link_30, u_X11_link_31, u_X11_link_34, u_X11_link_35, u_X11_link_38, u_X11_link_39, u_X11_link_40, u_X11_link_43, u_X11_link_44, u_X11_link_47, u_X11_link_48, u_X11_link_49, u_X11_link_50, u_X11_link_53, u_X11_link_55, u_X11_link_56, u_X11_link_57, u_X11_link_60, u_X11_link_61, u_X11_link_62, u_X11_link_63, u_X11_link_64, sa_put, sa_split, so_aload, so_bin, so_cmp, so_get, so_iald, so_iast, so_if, so_iload, so_iret, so_istore, so_push, so_stat, sa_nth, mo, l1, List.cons_append, List.nil_append, Option.toList_none, Option.toList_some, sc_9, or_true, true_or, z10, z00, true_imp_iff, false_imp_iff, not_false_eq_true, not_true_eq_false, true_and, and_true, Nat.zero_le, Nat.sub_zero, List.length_cons, List.length_nil, Nat.reduceAdd, Nat.reduceLT, Nat.reduceLeDiff]
  rw [e1]
  have hle : ∀ j : Nat, j < 2 ^ 31 → (nI j ≤ nI N.length - 2 ↔ j + 1 < N.length) := by
    intro j hj
    rw [Int32.le_iff_toInt_le, nI_toInt hj]
    have : (nI N.length - 2).toInt = (N.length : Int) - 2 := pk_sub_toInt (a := N.length) (b := 2) (by omega) (by omega)
    rw [this]
    omega
  refine k_X11_in to 0 _ (fun q1 q2 => ?_) (fun q => ?_)
  · obtain ⟨j, hj, rfl⟩ := nI_of (by rw [i32_nlt]; exact q1)
    have hjn := (hle j hj).mp q2
    have hp : 0 < N.length := by omega
    have hok : lk_ok N (nI j) j := ⟨rfl, hjn⟩
    simp only [u_X11_link_0, u_X11_link_1, u_X11_link_2, u_X11_link_3, u_X11_link_6, u_X11_link_7, u_X11_link_8, u_X11_link_11, u_X11_link_14, u_X11_link_16, u_X11_link_17, u_X11_link_18, u_X11_link_21, u_X11_link_22, u_X11_link_23, u_X11_link_24, u_X11_link_25, u_X11_link_28, u_X11_link_29, u_X11_link_30, u_X11_link_31, u_X11_link_34, u_X11_link_35, u_X11_link_38, u_X11_link_39, u_X11_link_40, u_X11_link_43, u_X11_link_44, u_X11_link_47, u_X11_link_48, u_X11_link_49, u_X11_link_50, u_X11_link_53, u_X11_link_55, u_X11_link_56, u_X11_link_57, u_X11_link_60, u_X11_link_61, u_X11_link_62, u_X11_link_63, u_X11_link_64, sa_put, sa_split, so_aload, so_bin, so_cmp, so_get, so_iald, so_iast, so_if, so_iload, so_iret, so_istore, so_push, so_stat, sa_nth, mo, l1, l3, l7, l8, List.cons_append, List.nil_append, Option.toList_none, Option.toList_some, sc_9, or_true, true_or, z10, z00, true_imp_iff, false_imp_iff, not_false_eq_true, not_true_eq_false, true_and, and_true, Nat.zero_le, Nat.sub_zero, List.length_cons, List.length_nil, Nat.reduceAdd, Nat.reduceLT, Nat.reduceLeDiff]
    obtain ⟨s1, s2, s3, s4, s5⟩ := e2 (N.length - 1) (by omega)
    obtain ⟨w1, w2, w3, w4, w5⟩ := e2 j (by omega)
    have hTl : T[N.length - 1]? = some (T.getLastD (-1)) := by
      rw [← T_last, b3, List.getD_eq_getElem?_getD, List.getElem?_eq_getElem (by omega)]; rfl
    have hTj : T[j]? = some (T.getD j (-1)) := by
      rw [List.getD_eq_getElem?_getD, List.getElem?_eq_getElem (by omega)]; rfl
    have s6 : D.getD (N.length - 1) [] = D.getLastD [] := by rw [← b2]; exact lastD_eq D
    rw [s6] at s2
    have hll : (D.getLastD []).length ≤ 60 := by rw [← lastD_eq]; exact getD_mem_le D 60 _ hI.2.2.1
    dsimp only [a_dataSize] at s2
    dsimp only [a_linkTo] at s3 w3
    have s7 := Option.some.inj (hTl.symm.trans s3)
    have w7 := Option.some.inj (hTj.symm.trans w3)
    rw [e1, nI_m1 _ hp, nI_clamp hj, nI_clamp (show N.length - 1 < 2 ^ 31 by omega), s2, ← s7, ← w7]
    refine ⟨vp_in_nI (by omega) (by omega), fun q3 => ⟨vp_in_nI (by omega) (by omega), fun q4 => ?_, fun q4 => ⟨vp_in_nI (by omega) (by omega), fun q5 => ⟨vp_in_nI (by omega) (by omega), ?_⟩, fun q5 => ?_⟩⟩, fun q3 => ?_⟩
    · refine h3 j hok (Or.inr (Or.inr (fun e => ?_)))
      rw [e] at q4; exact absurd q4 (by decide)
    · have e4 : D.getLastD [] = [] := by
        rcases Nat.eq_zero_or_pos (D.getLastD []).length with z | z
        · exact List.length_eq_zero_iff.mp z
        · exact absurd (nI_lt (a := 0) z (by omega)) q4
      refine h j hok q3 q5 e4 _ _ ⟨b1, b2, by simpa using b3, e1, fun i hi => ?_⟩ ⟨rfl, rfl⟩ ⟨rfl, rfl, rfl, rfl, rfl, rfl, rfl, rfl, rfl, rfl⟩
      dsimp only [a_nameSize, a_dataSize, a_linkTo, a_name, a_data]
      obtain ⟨v1, v2, v3, v4, v5⟩ := e2 i hi
      refine ⟨v1, v2, ?_, v4, v5⟩
      rw [List.getElem?_set]
      by_cases hq : N.length - 1 = i
      · subst hq
        rw [if_pos rfl, pk_us, if_pos (by omega)]
      · rw [if_neg hq, pk_un (Ne.symm hq)]
        exact v3
    · exact h3 j hok (Or.inr (Or.inl q5))
    · exact h3 j hok (Or.inl q3)
  · simp only [u_X11_link_0, u_X11_link_1, u_X11_link_2, u_X11_link_3, u_X11_link_6, u_X11_link_7, u_X11_link_8, u_X11_link_11, u_X11_link_14, u_X11_link_16, u_X11_link_17, u_X11_link_18, u_X11_link_21, u_X11_link_22, u_X11_link_23, u_X11_link_24, u_X11_link_25, u_X11_link_28, u_X11_link_29, u_X11_link_30, u_X11_link_31, u_X11_link_34, u_X11_link_35, u_X11_link_38, u_X11_link_39, u_X11_link_40, u_X11_link_43, u_X11_link_44, u_X11_link_47, u_X11_link_48, u_X11_link_49, u_X11_link_50, u_X11_link_53, u_X11_link_55, u_X11_link_56, u_X11_link_57, u_X11_link_60, u_X11_link_61, u_X11_link_62, u_X11_link_63, u_X11_link_64, sa_put, sa_split, so_aload, so_bin, so_cmp, so_get, so_iald, so_iast, so_if, so_iload, so_iret, so_istore, so_push, so_stat, sa_nth, List.cons_append, List.nil_append, Option.toList_none, Option.toList_some, sc_9, or_true, true_or, z10, z00, true_imp_iff, false_imp_iff, not_false_eq_true, not_true_eq_false, true_and, and_true, Nat.zero_le, Nat.sub_zero, List.length_cons, List.length_nil, Nat.reduceAdd, Nat.reduceLT, Nat.reduceLeDiff]
    refine h2 (fun j hj => q ⟨?_, ?_⟩)
    · rw [hj.1]; exact nI_pos' (by have := hj.2; omega)
    · rw [hj.1]; exact (hle j (by have := hj.2; omega)).mpr hj.2
theorem in_row {l : List Int32} (hl : l.length ≤ 1500) (i : Int32) : (0 ≤ i ∧ i ≤ nI l.length - 1) ↔ ∃ j, j < l.length ∧ i = nI j := by
  constructor
  · rintro ⟨q1, q2⟩
    obtain ⟨j, hj, rfl⟩ := nI_of (by rw [i32_nlt]; exact q1)
    refine ⟨j, ?_, rfl⟩
    rw [Int32.le_iff_toInt_le, nI_toInt hj, show (nI l.length - 1).toInt = (l.length : Int) - 1 from pk_sub_toInt (a := l.length) (b := 1) (by omega) (by omega)] at q2
    omega
  · rintro ⟨j, hj, rfl⟩
    refine ⟨nI_pos' (by omega), ?_⟩
    rw [Int32.le_iff_toInt_le, nI_toInt (by omega), show (nI l.length - 1).toInt = (l.length : Int) - 1 from pk_sub_toInt (a := l.length) (b := 1) (by omega) (by omega)]
    omega
theorem k_X11_row (hL : sM_L C) (hM : sMR t A l) (i : Int32) (h1 : i = -1 → Q (some (.inl (nI l.length))) (C t A)) (h2 : ¬ i = -1 → (¬ ∃ j, j < l.length ∧ i = nI j) → Q (some (.inl (-2))) (C t A)) (h : ∀ (j : Nat) (v : Int32), i = nI j → l[j]? = some v → Q (some (.inl v)) (C t A)) : ct_X11_row 0 0 [.inr (.inl (some 28)), .inl i] (C t A) Q := by
  have l1 := m_o hL
  have l3 := m_row hL
  obtain ⟨b1, e1, e2⟩ := hM
  dsimp only [i_size] at e1
  dsimp only [a_row] at e2
  simp only [e_X11_row, u_X11_row_0, u_X11_row_1, u_X11_row_2, u_X11_row_5, u_X11_row_6, u_X11_row_9, u_X11_row_12, u_X11_row_13, u_X11_row_14, u_X11_row_15, u_X11_row_18, u_X11_row_19, u_X11_row_20, u_X11_row_26, u_X11_row_27, u_X11_row_30, u_X11_row_31, u_X11_row_32, u_X11_row_35, u_X11_row_37, sa_split, so_aload, so_bin, so_cmp, so_get, so_goto, so_iald, so_iload, so_iret, so_push, so_stat, sa_nth, mo, l1, List.cons_append, List.nil_append, Option.toList_none, Option.toList_some, sc_9, or_true, true_or, z10, z00, true_imp_iff, false_imp_iff, not_false_eq_true, not_true_eq_false, true_and, and_true, Nat.zero_le, Nat.sub_zero, List.length_cons, List.length_nil, Nat.reduceAdd, Nat.reduceLT, Nat.reduceLeDiff]
  rw [e1]
  refine ⟨h1, fun q => ?_⟩
  refine k_X11_in i 0 _ (fun q1 q2 => ?_) (fun q1 => ?_)
  · obtain ⟨j, hj, rfl⟩ := (in_row b1 i).mp ⟨q1, q2⟩
    simp only [u_X11_row_0, u_X11_row_1, u_X11_row_2, u_X11_row_5, u_X11_row_6, u_X11_row_9, u_X11_row_12, u_X11_row_13, u_X11_row_14, u_X11_row_15, u_X11_row_18, u_X11_row_19, u_X11_row_20, u_X11_row_23, u_X11_row_26, u_X11_row_27, u_X11_row_30, u_X11_row_31, u_X11_row_32, u_X11_row_35, u_X11_row_37, sa_split, so_aload, so_bin, so_cmp, so_get, so_goto, so_iald, so_if, so_iload, so_iret, so_push, so_stat, sa_nth, mo, l1, l3, List.cons_append, List.nil_append, Option.toList_none, Option.toList_some, sc_9, or_true, true_or, z10, z00, true_imp_iff, false_imp_iff, not_false_eq_true, not_true_eq_false, true_and, and_true, Nat.zero_le, Nat.sub_zero, List.length_cons, List.length_nil, Nat.reduceAdd, Nat.reduceLT, Nat.reduceLeDiff]
    rw [nI_clamp (by omega)]
    exact ⟨vp_in_nI (by omega) (by omega), h j _ rfl (e2 j hj)⟩
  · simp only [u_X11_row_0, u_X11_row_1, u_X11_row_2, u_X11_row_5, u_X11_row_6, u_X11_row_9, u_X11_row_12, u_X11_row_13, u_X11_row_14, u_X11_row_15, u_X11_row_18, u_X11_row_19, u_X11_row_20, u_X11_row_23, u_X11_row_26, u_X11_row_27, u_X11_row_30, u_X11_row_31, u_X11_row_32, u_X11_row_35, u_X11_row_37, sa_split, so_aload, so_bin, so_cmp, so_get, so_goto, so_iald, so_if, so_iload, so_iret, so_push, so_stat, sa_nth, List.cons_append, List.nil_append, Option.toList_none, Option.toList_some, sc_9, or_true, true_or, z10, z00, true_imp_iff, false_imp_iff, not_false_eq_true, not_true_eq_false, true_and, and_true, Nat.zero_le, Nat.sub_zero, List.length_cons, List.length_nil, Nat.reduceAdd, Nat.reduceLT, Nat.reduceLeDiff]
    exact h2 q (fun q2 => q1 ((in_row b1 i).mpr q2))
theorem k_X11_poke (hL : sM_L C) (hM : sMR t A l) (i v : Int32) (h2 : (¬ ∃ j, j < l.length ∧ i = nI j) ∨ ¬ isB v → Q (some (.inl (-2))) (C t A)) (h : ∀ (j : Nat) (w : Int32), i = nI j → l[j]? = some w → isB v → ∀ t' A', sMR t' A' (l.set j v) → sfF t A t' A' → sfE t A t' A' → Q (some (.inl w)) (C t' A')) : ct_X11_poke 0 0 [.inr (.inl (some 28)), .inl i, .inl v] (C t A) Q := by
  have l1 := m_o hL
  have l3 := m_row hL
  have l4 := m_prow hL
  obtain ⟨b1, e1, e2⟩ := hM
  dsimp only [i_size] at e1
  dsimp only [a_row] at e2
  simp only [e_X11_poke, u_X11_poke_0, u_X11_poke_1, u_X11_poke_2, u_X11_poke_3, u_X11_poke_6, u_X11_poke_7, u_X11_poke_8, u_X11_poke_14, u_X11_poke_15, u_X11_poke_16, u_X11_poke_19, u_X11_poke_25, u_X11_poke_27, u_X11_poke_28, u_X11_poke_29, u_X11_poke_32, u_X11_poke_33, u_X11_poke_34, u_X11_poke_35, u_X11_poke_36, u_X11_poke_39, u_X11_poke_40, u_X11_poke_41, u_X11_poke_42, u_X11_poke_43, sa_put, sa_split, so_aload, so_bin, so_get, so_iald, so_iast, so_iload, so_iret, so_istore, so_push, so_stat, sa_nth, mo, l1, List.cons_append, List.nil_append, Option.toList_none, Option.toList_some, sc_9, or_true, true_or, z10, z00, true_imp_iff, false_imp_iff, not_false_eq_true, not_true_eq_false, true_and, and_true, Nat.zero_le, Nat.sub_zero, List.length_cons, List.length_nil, Nat.reduceAdd, Nat.reduceLT, Nat.reduceLeDiff]
  rw [e1]
  refine k_X11_in i 0 _ (fun q1 q2 => ?_) (fun q1 => ?_)
  · obtain ⟨j, hj, rfl⟩ := (in_row b1 i).mp ⟨q1, q2⟩
    simp only [u_X11_poke_0, u_X11_poke_1, u_X11_poke_2, u_X11_poke_3, u_X11_poke_6, u_X11_poke_7, u_X11_poke_8, u_X11_poke_11, u_X11_poke_14, u_X11_poke_15, u_X11_poke_16, u_X11_poke_19, u_X11_poke_25, u_X11_poke_27, u_X11_poke_28, u_X11_poke_29, u_X11_poke_32, u_X11_poke_33, u_X11_poke_34, u_X11_poke_35, u_X11_poke_36, u_X11_poke_39, u_X11_poke_40, u_X11_poke_41, u_X11_poke_42, u_X11_poke_43, sa_put, sa_split, so_aload, so_bin, so_get, so_iald, so_iast, so_if, so_iload, so_iret, so_istore, so_push, so_stat, sa_nth, List.cons_append, List.nil_append, Option.toList_none, Option.toList_some, sc_9, or_true, true_or, z10, z00, true_imp_iff, false_imp_iff, not_false_eq_true, not_true_eq_false, true_and, and_true, Nat.zero_le, Nat.sub_zero, List.length_cons, List.length_nil, Nat.reduceAdd, Nat.reduceLT, Nat.reduceLeDiff]
    refine k_X11_in v 0 255 (fun q3 q4 => ?_) (fun q3 => ?_)
    · simp only [u_X11_poke_0, u_X11_poke_1, u_X11_poke_2, u_X11_poke_3, u_X11_poke_6, u_X11_poke_7, u_X11_poke_8, u_X11_poke_14, u_X11_poke_15, u_X11_poke_16, u_X11_poke_19, u_X11_poke_22, u_X11_poke_25, u_X11_poke_27, u_X11_poke_28, u_X11_poke_29, u_X11_poke_32, u_X11_poke_33, u_X11_poke_34, u_X11_poke_35, u_X11_poke_36, u_X11_poke_39, u_X11_poke_40, u_X11_poke_41, u_X11_poke_42, u_X11_poke_43, sa_put, sa_split, so_aload, so_bin, so_get, so_iald, so_iast, so_if, so_iload, so_iret, so_istore, so_push, so_stat, sa_nth, mo, l1, l3, l4, List.cons_append, List.nil_append, Option.toList_none, Option.toList_some, sc_9, or_true, true_or, z10, z00, true_imp_iff, false_imp_iff, not_false_eq_true, not_true_eq_false, true_and, and_true, Nat.zero_le, Nat.sub_zero, List.length_cons, List.length_nil, Nat.reduceAdd, Nat.reduceLT, Nat.reduceLeDiff]
      rw [nI_clamp (by omega)]
      refine ⟨vp_in_nI (by omega) (by omega), vp_in_nI (by omega) (by omega), ?_⟩
      refine h j _ rfl (e2 j hj) ⟨q3, q4⟩ _ _ ⟨by simpa using b1, by simpa using e1, fun k hk => ?_⟩ ⟨rfl, rfl, rfl, rfl, rfl, rfl⟩ ⟨rfl, rfl, rfl, rfl, rfl, rfl, rfl, rfl, rfl, rfl⟩
      simp at hk
      dsimp only [a_row]
      rw [List.getElem?_set]
      by_cases hq : j = k
      · subst hq
        rw [if_pos rfl, pk_us, if_pos hj]
      · rw [if_neg hq, pk_un (Ne.symm hq)]
        exact e2 k hk
    · simp only [u_X11_poke_0, u_X11_poke_1, u_X11_poke_2, u_X11_poke_3, u_X11_poke_6, u_X11_poke_7, u_X11_poke_8, u_X11_poke_14, u_X11_poke_15, u_X11_poke_16, u_X11_poke_19, u_X11_poke_22, u_X11_poke_25, u_X11_poke_27, u_X11_poke_28, u_X11_poke_29, u_X11_poke_32, u_X11_poke_33, u_X11_poke_34, u_X11_poke_35, u_X11_poke_36, u_X11_poke_39, u_X11_poke_40, u_X11_poke_41, u_X11_poke_42, u_X11_poke_43, sa_put, sa_split, so_aload, so_bin, so_get, so_iald, so_iast, so_if, so_iload, so_iret, so_istore, so_push, so_stat, sa_nth, List.cons_append, List.nil_append, Option.toList_none, Option.toList_some, sc_9, or_true, true_or, z10, z00, true_imp_iff, false_imp_iff, not_false_eq_true, not_true_eq_false, true_and, and_true, Nat.zero_le, Nat.sub_zero, List.length_cons, List.length_nil, Nat.reduceAdd, Nat.reduceLT, Nat.reduceLeDiff]
      exact h2 (Or.inr q3)
  · simp only [u_X11_poke_0, u_X11_poke_1, u_X11_poke_2, u_X11_poke_3, u_X11_poke_6, u_X11_poke_7, u_X11_poke_8, u_X11_poke_11, u_X11_poke_14, u_X11_poke_15, u_X11_poke_16, u_X11_poke_19, u_X11_poke_25, u_X11_poke_27, u_X11_poke_28, u_X11_poke_29, u_X11_poke_32, u_X11_poke_33, u_X11_poke_34, u_X11_poke_35, u_X11_poke_36, u_X11_poke_39, u_X11_poke_40, u_X11_poke_41, u_X11_poke_42, u_X11_poke_43, sa_put, sa_split, so_aload, so_bin, so_get, so_iald, so_iast, so_if, so_iload, so_iret, so_istore, so_push, so_stat, sa_nth, List.cons_append, List.nil_append, Option.toList_none, Option.toList_some, sc_9, or_true, true_or, z10, z00, true_imp_iff, false_imp_iff, not_false_eq_true, not_true_eq_false, true_and, and_true, Nat.zero_le, Nat.sub_zero, List.length_cons, List.length_nil, Nat.reduceAdd, Nat.reduceLT, Nat.reduceLeDiff]
    exact h2 (Or.inl (fun q2 => q1 ((in_row b1 i).mpr q2)))
theorem k_X11_cut (hL : sM_L C) (hM : sMR t A l) (i : Int32) (h2 : (¬ ∃ j, j ≤ l.length ∧ i = nI j) → Q (some (.inl (-2))) (C t A)) (h : ∀ j : Nat, i = nI j → j ≤ l.length → ∀ t' A', sMR t' A' (l.take j) → sfF t A t' A' → sfE t A t' A' → Q (some (.inl (nI (l.length - j)))) (C t' A')) : ct_X11_cut 0 0 [.inr (.inl (some 28)), .inl i] (C t A) Q := by
  have l1 := m_o hL
  have l2 := m_po hL
  obtain ⟨b1, e1, e2⟩ := hM
  dsimp only [i_size] at e1
  dsimp only [a_row] at e2
  simp only [e_X11_cut, u_X11_cut_0, u_X11_cut_1, u_X11_cut_2, u_X11_cut_3, u_X11_cut_6, u_X11_cut_12, u_X11_cut_14, u_X11_cut_15, u_X11_cut_16, u_X11_cut_19, u_X11_cut_20, u_X11_cut_21, u_X11_cut_22, u_X11_cut_23, u_X11_cut_24, u_X11_cut_27, u_X11_cut_28, sa_put, sa_split, so_aload, so_bin, so_get, so_iload, so_iret, so_istore, so_push, so_put, so_stat, sa_nth, mo, l1, List.cons_append, List.nil_append, Option.toList_none, Option.toList_some, sc_9, sf_0, sf_1, sf_i, sf_r, or_true, true_or, z10, z00, true_imp_iff, false_imp_iff, not_false_eq_true, not_true_eq_false, true_and, and_true, Nat.zero_le, Nat.sub_zero, List.length_cons, List.length_nil, Nat.reduceAdd, Nat.reduceLT, Nat.reduceLeDiff]
  rw [e1]
  refine k_X11_in i 0 _ (fun q1 q2 => ?_) (fun q1 => ?_)
  · obtain ⟨j, hj, rfl⟩ := nI_of (by rw [i32_nlt]; exact q1)
    rw [nI_leI hj (by omega)] at q2
    simp only [u_X11_cut_0, u_X11_cut_1, u_X11_cut_2, u_X11_cut_3, u_X11_cut_6, u_X11_cut_9, u_X11_cut_12, u_X11_cut_14, u_X11_cut_15, u_X11_cut_16, u_X11_cut_19, u_X11_cut_20, u_X11_cut_21, u_X11_cut_22, u_X11_cut_23, u_X11_cut_24, u_X11_cut_27, u_X11_cut_28, sa_put, sa_split, so_aload, so_bin, so_get, so_if, so_iload, so_iret, so_istore, so_push, so_put, so_stat, sa_nth, mo, l1, l2, List.cons_append, List.nil_append, Option.toList_none, Option.toList_some, sc_9, sf_0, sf_1, sf_i, sf_r, or_true, true_or, z10, z00, true_imp_iff, false_imp_iff, not_false_eq_true, not_true_eq_false, true_and, and_true, Nat.zero_le, Nat.sub_zero, List.length_cons, List.length_nil, Nat.reduceAdd, Nat.reduceLT, Nat.reduceLeDiff]
    rw [e1, pk_sub q2]
    refine h j rfl q2 _ _ ⟨by simp; omega, by simp [Nat.min_eq_left q2], fun k hk => ?_⟩ ⟨rfl, rfl, rfl, rfl, rfl, rfl⟩ ⟨rfl, rfl, rfl, rfl, rfl, rfl, rfl, rfl, rfl, rfl⟩
    rw [List.length_take] at hk
    dsimp only [a_row]
    rw [List.getElem?_take, if_pos (by omega)]
    exact e2 k (by omega)
  · simp only [u_X11_cut_0, u_X11_cut_1, u_X11_cut_2, u_X11_cut_3, u_X11_cut_6, u_X11_cut_9, u_X11_cut_12, u_X11_cut_14, u_X11_cut_15, u_X11_cut_16, u_X11_cut_19, u_X11_cut_20, u_X11_cut_21, u_X11_cut_22, u_X11_cut_23, u_X11_cut_24, u_X11_cut_27, u_X11_cut_28, sa_put, sa_split, so_aload, so_bin, so_get, so_if, so_iload, so_iret, so_istore, so_push, so_put, so_stat, sa_nth, List.cons_append, List.nil_append, Option.toList_none, Option.toList_some, sc_9, sf_0, sf_1, sf_i, sf_r, or_true, true_or, z10, z00, true_imp_iff, false_imp_iff, not_false_eq_true, not_true_eq_false, true_and, and_true, Nat.zero_le, Nat.sub_zero, List.length_cons, List.length_nil, Nat.reduceAdd, Nat.reduceLT, Nat.reduceLeDiff]
    refine h2 (fun q2 => q1 ?_)
    obtain ⟨j, hj, rfl⟩ := q2
    exact ⟨nI_pos' (by omega), (nI_leI (by omega) (by omega)).mpr hj⟩
end RF2
