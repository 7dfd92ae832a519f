/-! STRIPS: a row of rows of ints. Raw: starts, cells, used, count -/
abbrev sS_T : Type := (Nat → Int32) × (Nat → Int32) × Int32 × Int32
def sS_L (k ks kc ns nc : Nat) (C : sS_T → sa_H) : Prop :=
  (∀ r, sa_nth (C r) k = some (.inr (7, [.inr (.inl (some kc)), .inr (.inl (some ks)), .inl r.2.2.1, .inl r.2.2.2]))) ∧
  (∀ r, sa_nth (C r) kc = some (.inl (.inl (nc, r.2.1)))) ∧ (∀ r, sa_nth (C r) ks = some (.inl (.inl (ns, r.1)))) ∧
  (∀ r u c, sa_put (C r) k (.inr (7, [.inr (.inl (some kc)), .inr (.inl (some ks)), .inl u, .inl c])) = C (r.1, r.2.1, u, c)) ∧
  (∀ r g, sa_put (C r) kc (.inl (.inl (nc, g))) = C (r.1, g, r.2.2)) ∧ (∀ r f, sa_put (C r) ks (.inl (.inl (ns, f))) = C (f, r.2))
/-- raw rows stand for a list of lists -/
def sS_R (ns nc : Nat) (r : sS_T) (L : List (List Int32)) : Prop :=
  ns < 2 ^ 30 ∧ nc < 2 ^ 30 ∧ L.length ≤ ns ∧ L.flatten.length ≤ nc ∧ r.2.2.1 = nI L.flatten.length ∧ r.2.2.2 = nI L.length ∧
  (∀ i, i < L.length → r.1 i = nI (L.take i).flatten.length) ∧ ∀ j, j < L.flatten.length → L.flatten[j]? = some (r.2.1 j)
def sS_row (L : List (List Int32)) (i : Int32) : List Int32 := if i < 0 then [] else L.getD i.toNatClampNeg []
def sS_at (l : List Int32) (k : Int32) : Int32 := if k < 0 then -1 else (l[k.toNatClampNeg]?).getD (-1)
def sS_app (L : List (List Int32)) (v : Int32) : List (List Int32) := L.dropLast ++ [L.getLastD [] ++ [v]]
theorem sS_row_nI {L : List (List Int32)} {j : Nat} (h : j < 2 ^ 31) : sS_row L (nI j) = L.getD j [] := by
  unfold sS_row
  rw [if_neg (nI_pos h), nI_clamp h]
theorem sS_row_neg {L : List (List Int32)} {i : Int32} (h : i < 0) : sS_row L i = [] := by unfold sS_row; rw [if_pos h]
theorem sS_row_ge {L : List (List Int32)} {i : Int32} (hl : L.length < 2 ^ 30) (h : nI L.length ≤ i) : sS_row L i = [] := by
  unfold sS_row
  split
  · rfl
  · next h0 =>
    obtain ⟨j, hj, rfl⟩ := nI_of h0
    rw [nI_clamp hj]
    rw [nI_leI (by omega) hj] at h
    rw [List.getD_eq_getElem?_getD, List.getElem?_eq_none h]; rfl
theorem sS_at_nI {l : List Int32} {j : Nat} (h : j < 2 ^ 31) : sS_at l (nI j) = (l[j]?).getD (-1) := by
  unfold sS_at
  rw [if_neg (nI_pos h), nI_clamp h]
theorem sS_pre (L : List (List Int32)) (i : Nat) (h : i < L.length) : (L.take (i + 1)).flatten.length = (L.take i).flatten.length + (L.getD i []).length := by
  rw [List.take_succ, List.getElem?_eq_getElem h, List.flatten_append, List.length_append, List.getD_eq_getElem?_getD, List.getElem?_eq_getElem h]
  simp only [Option.toList_some, List.flatten_cons, List.flatten_nil, List.append_nil, Option.getD_some]
theorem sS_pre_le (L : List (List Int32)) (i : Nat) : (L.take i).flatten.length ≤ L.flatten.length := by
  conv => rhs; rw [← List.take_append_drop i L]
  rw [List.flatten_append, List.length_append]
  omega
theorem sS_cell (L : List (List Int32)) (i k : Nat) (h : i < L.length) (hk : k < (L.getD i []).length) : L.flatten[(L.take i).flatten.length + k]? = (L.getD i [])[k]? := by
  have key : ∀ A B : List (List Int32), (A ++ B).flatten[A.flatten.length + k]? = B.flatten[k]? := by
    intro A B
    rw [List.flatten_append, List.getElem?_append_right (Nat.le_add_right _ _), Nat.add_sub_cancel_left]
  have k1 := key (L.take i) (L.drop i)
  rw [List.take_append_drop] at k1
  rw [k1, List.drop_eq_getElem_cons h, List.flatten_cons]
  have e : L.getD i [] = L[i] := by simp [List.getD_eq_getElem?_getD, h]
  rw [e] at hk ⊢
  rw [List.getElem?_append_left hk]
theorem k_X9_count {k ks kc ns nc : Nat} {C : sS_T → sa_H} (hL : sS_L k ks kc ns nc C) {r : sS_T} {L : List (List Int32)} (hR : sS_R ns nc r L) {Q : sa_Q} (h : Q (some (.inl (nI L.length))) (C r)) : ct_X9_count 0 0 [.inr (.inl (some k))] (C r) Q := by
  obtain ⟨h1, h2, h3, h4, h5, h6⟩ := hL
  simp only [e_X9_count, u_X9_count_0, u_X9_count_1, u_X9_count_4, so_aload, so_get, so_iret, sa_nth, h1, sc_7, or_true, true_or, z10, z00, true_imp_iff, false_imp_iff, not_false_eq_true, not_true_eq_false, true_and, and_true, Nat.zero_le, Nat.sub_zero, List.length_cons, List.length_nil, Nat.reduceAdd, Nat.reduceLT, Nat.reduceLeDiff]
  rw [hR.2.2.2.2.2.1]
  exact h
theorem k_X9_length {k ks kc ns nc : Nat} {C : sS_T → sa_H} (hL : sS_L k ks kc ns nc C) {r : sS_T} {L : List (List Int32)} (hR : sS_R ns nc r L) (i : Int32) {Q : sa_Q} (h : Q (some (.inl (nI (sS_row L i).length))) (C r)) : ct_X9_length 0 0 [.inr (.inl (some k)), .inl i] (C r) Q := by
  obtain ⟨h1, h2, h3, h4, h5, h6⟩ := hL
  simp only [e_X9_length, u_X9_length_0, u_X9_length_1, u_X9_length_4, u_X9_length_5, u_X9_length_6, u_X9_length_9, u_X9_length_12, u_X9_length_13, u_X9_length_14, u_X9_length_15, u_X9_length_16, u_X9_length_17, u_X9_length_18, u_X9_length_21, u_X9_length_24, u_X9_length_25, u_X9_length_28, u_X9_length_29, u_X9_length_30, u_X9_length_31, u_X9_length_32, u_X9_length_35, u_X9_length_36, u_X9_length_39, u_X9_length_40, u_X9_length_41, u_X9_length_42, u_X9_length_45, u_X9_length_46, u_X9_length_47, u_X9_length_48, sa_put, so_aload, so_bin, so_cmp, so_get, so_goto, so_iald, so_if, so_iload, so_iret, so_istore, so_push, sa_nth, h1, h2, h3, sc_7, or_true, true_or, z10, z00, true_imp_iff, false_imp_iff, not_false_eq_true, not_true_eq_false, true_and, and_true, Nat.zero_le, Nat.sub_zero, List.length_cons, List.length_nil, Nat.reduceAdd, Nat.reduceLT, Nat.reduceLeDiff]
  obtain ⟨b1, b2, b3, b4, e1, e2, e3, e4⟩ := hR
  refine ⟨fun q => ?_, fun q => ⟨fun q1 => ?_, fun q1 => ?_⟩⟩
  · rw [sS_row_neg q] at h; exact h
  · obtain ⟨j, hj, rfl⟩ := nI_of q
    rw [e2, nI_ltI hj (by omega)] at q1
    rw [sS_row_nI hj] at h
    have p1 := sS_pre L j q1
    have p2 := sS_pre_le L (j + 1)
    rw [e2, nI_1, nI_leI (by omega) (by omega)]
    refine ⟨fun q2 => ⟨vp_in_nI (by omega) (by omega), ?_⟩, fun q2 => ⟨vp_in_nI (by omega) (by omega), vp_in_nI (by omega) (by omega), ?_⟩⟩
    · have p3 : L.take (j + 1) = L := List.take_of_length_le q2
      rw [p3] at p1
      rw [e1, nI_clamp hj, e3 j q1, pk_sub (by omega), show L.flatten.length - (L.take j).flatten.length = (L.getD j []).length by omega]
      exact h
    · rw [nI_clamp hj, nI_clamp (by omega), e3 j q1, e3 (j + 1) (by omega), pk_sub (by omega), show (L.take (j + 1)).flatten.length - (L.take j).flatten.length = (L.getD j []).length by omega]
      exact h
  · rw [e2] at q1
    have q2 : nI L.length ≤ i := by
      rcases pk_ix i (n := L.length) (by omega) with h0 | h0 | ⟨j, hj, rfl⟩
      · exact absurd h0 q
      · exact h0
      · exact absurd (nI_lt hj (by omega)) q1
    rw [sS_row_ge (by omega) q2] at h
    exact h
theorem k_X9_at {k ks kc ns nc : Nat} {C : sS_T → sa_H} (hL : sS_L k ks kc ns nc C) {r : sS_T} {L : List (List Int32)} (hR : sS_R ns nc r L) (i x : Int32) {Q : sa_Q} (h : Q (some (.inl (sS_at (sS_row L i) x))) (C r)) : ct_X9_at 0 0 [.inr (.inl (some k)), .inl i, .inl x] (C r) Q := by
  obtain ⟨h1, h2, h3, h4, h5, h6⟩ := id hL
  simp only [e_X9_at, u_X9_at_0, u_X9_at_1, u_X9_at_4, u_X9_at_5, u_X9_at_6, u_X9_at_7, u_X9_at_13, u_X9_at_14, u_X9_at_17, u_X9_at_18, u_X9_at_21, u_X9_at_22, u_X9_at_23, u_X9_at_24, u_X9_at_25, u_X9_at_26, u_X9_at_29, u_X9_at_30, sa_sel, sa_split, so_aload, so_bin, so_get, so_goto, so_iald, so_if, so_iload, so_iret, so_push, so_virt, sa_nth, h1, h2, h3, List.cons_append, List.nil_append, Nat.reduceEqDiff, Option.toList_none, Option.toList_some, if_false, if_true, reduceIte, sc_7, or_true, true_or, z10, z00, true_imp_iff, false_imp_iff, not_false_eq_true, not_true_eq_false, true_and, and_true, Nat.zero_le, Nat.sub_zero, List.length_cons, List.length_nil, Nat.reduceAdd, Nat.reduceLT, Nat.reduceLeDiff]
  refine ⟨fun q => ?_, fun q => ?_⟩
  · have e : sS_at (sS_row L i) x = -1 := by unfold sS_at; rw [if_pos q]
    rw [e] at h; exact h
  · refine k_X9_length hL hR i ?_
    simp only [u_X9_at_0, u_X9_at_1, u_X9_at_4, u_X9_at_5, u_X9_at_6, u_X9_at_7, u_X9_at_10, u_X9_at_13, u_X9_at_14, u_X9_at_17, u_X9_at_18, u_X9_at_21, u_X9_at_22, u_X9_at_23, u_X9_at_24, u_X9_at_25, u_X9_at_26, u_X9_at_29, u_X9_at_30, sa_sel, sa_split, so_aload, so_bin, so_cmp, so_get, so_goto, so_iald, so_if, so_iload, so_iret, so_push, so_virt, sa_nth, h1, h2, h3, List.cons_append, List.nil_append, Nat.reduceEqDiff, Option.toList_none, Option.toList_some, if_false, if_true, reduceIte, sc_7, or_true, true_or, z10, z00, true_imp_iff, false_imp_iff, not_false_eq_true, not_true_eq_false, true_and, and_true, Nat.zero_le, Nat.sub_zero, List.length_cons, List.length_nil, Nat.reduceAdd, Nat.reduceLT, Nat.reduceLeDiff]
    obtain ⟨b1, b2, b3, b4, e1, e2, e3, e4⟩ := hR
    obtain ⟨y, hy, rfl⟩ := nI_of q
    rw [sS_at_nI hy] at h
    have hle : (sS_row L i).length ≤ L.flatten.length := by
      unfold sS_row
      split
      · simp
      · by_cases hi : i.toNatClampNeg < L.length
        · have := sS_pre L _ hi
          have := sS_pre_le L (i.toNatClampNeg + 1)
          omega
        · rw [List.getD_eq_getElem?_getD, List.getElem?_eq_none (by omega)]; simp
    rw [nI_leI (by omega) hy]
    refine ⟨fun q2 => ?_, fun q2 => ?_⟩
    · rw [List.getElem?_eq_none q2] at h; exact h
    · have hlt : y < (sS_row L i).length := by omega
      by_cases hi : i < 0
      · rw [sS_row_neg hi] at hlt; simp at hlt
      · obtain ⟨j, hj, rfl⟩ := nI_of hi
        rw [sS_row_nI hj] at h hlt
        have hjl : j < L.length := by
          rcases Nat.lt_or_ge j L.length with q | q
          · exact q
          · rw [List.getD_eq_getElem?_getD, List.getElem?_eq_none q] at hlt; simp at hlt
        have p1 := sS_pre L j hjl
        have p2 := sS_pre_le L (j + 1)
        have p3 := sS_cell L j y hjl hlt
        rw [e4 _ (by omega)] at p3
        rw [nI_clamp hj, e3 j hjl, nI_add, nI_clamp (by omega)]
        rw [← p3] at h
        exact ⟨vp_in_nI (by omega) (by omega), vp_in_nI (by omega) (by omega), h⟩
theorem sS_app_flat (L : List (List Int32)) (v : Int32) (h : L ≠ []) : (sS_app L v).flatten = L.flatten ++ [v] ∧ (sS_app L v).length = L.length := by
  obtain ⟨A, l, rfl⟩ : ∃ A l, L = A ++ [l] := ⟨L.dropLast, L.getLast h, (List.dropLast_concat_getLast h).symm⟩
  unfold sS_app
  simp
theorem sS_app_take (L : List (List Int32)) (v : Int32) (i : Nat) (hi : i < L.length) : (sS_app L v).take i = L.take i := by
  have h : L ≠ [] := by intro e; subst e; simp at hi
  obtain ⟨A, l, rfl⟩ : ∃ A l, L = A ++ [l] := ⟨L.dropLast, L.getLast h, (List.dropLast_concat_getLast h).symm⟩
  unfold sS_app
  simp at hi
  simp
  rw [List.take_append_of_le_length (by omega), List.take_append_of_le_length (by omega)]
theorem k_X9_begin {k ks kc ns nc : Nat} {C : sS_T → sa_H} (hL : sS_L k ks kc ns nc C) {r : sS_T} {L : List (List Int32)} (hR : sS_R ns nc r L) (hlt : L.length < ns) {Q : sa_Q} (h : ∀ r', sS_R ns nc r' (L ++ [[]]) → Q none (C r')) : ct_X9_begin 0 0 [.inr (.inl (some k))] (C r) Q := by
  obtain ⟨h1, h2, h3, h4, h5, h6⟩ := id hL
  simp only [e_X9_begin, u_X9_begin_0, u_X9_begin_1, u_X9_begin_4, u_X9_begin_5, u_X9_begin_8, u_X9_begin_9, u_X9_begin_12, u_X9_begin_13, u_X9_begin_16, u_X9_begin_17, u_X9_begin_20, u_X9_begin_21, u_X9_begin_24, u_X9_begin_25, u_X9_begin_26, u_X9_begin_27, u_X9_begin_30, u_X9_begin_31, u_X9_begin_32, u_X9_begin_35, sa_put, so_alen, so_aload, so_bin, so_cmp, so_dup, so_get, so_iast, so_push, so_put, so_ret, sa_nth, h1, h2, h3, h4, h5, h6, sc_7, sf_0, sf_1, sf_i, sf_r, or_true, true_or, z10, z00, true_imp_iff, false_imp_iff, not_false_eq_true, not_true_eq_false, true_and, and_true, Nat.zero_le, Nat.sub_zero, List.length_cons, List.length_nil, Nat.reduceAdd, Nat.reduceLT, Nat.reduceLeDiff]
  obtain ⟨b1, b2, b3, b4, e1, e2, e3, e4⟩ := hR
  refine ⟨fun q => ?_, fun q => ⟨?_, ?_⟩⟩
  · rw [e2] at q
    exact absurd q (nI_ge hlt (by omega))
  · rw [e2]; exact vp_in_nI hlt (by omega)
  · refine h _ ⟨b1, b2, by simp; omega, by simpa using b4, by simpa using e1, by simp [e2, nI_1], fun i hi => ?_, fun j hj => ?_⟩
    · dsimp only
      rw [e2, nI_clamp (by omega)]
      simp at hi
      by_cases hq : i = L.length
      · subst hq
        rw [pk_us, List.take_left]; exact e1
      · rw [pk_un hq, e3 i (by omega), List.take_append_of_le_length (by omega)]
    · simp at hj ⊢
      exact e4 j (by simpa using hj)
theorem k_X9_add {k ks kc ns nc : Nat} {C : sS_T → sa_H} (hL : sS_L k ks kc ns nc C) {r : sS_T} {L : List (List Int32)} (hR : sS_R ns nc r L) (v : Int32) (hne : L ≠ []) (hlt : L.flatten.length < nc) {Q : sa_Q} (h : ∀ r', sS_R ns nc r' (sS_app L v) → Q none (C r')) : ct_X9_add 0 0 [.inr (.inl (some k)), .inl v] (C r) Q := by
  obtain ⟨h1, h2, h3, h4, h5, h6⟩ := id hL
  simp only [e_X9_add, u_X9_add_0, u_X9_add_1, u_X9_add_4, u_X9_add_7, u_X9_add_8, u_X9_add_11, u_X9_add_12, u_X9_add_15, u_X9_add_16, u_X9_add_19, u_X9_add_20, u_X9_add_23, u_X9_add_24, u_X9_add_27, u_X9_add_28, u_X9_add_29, u_X9_add_30, u_X9_add_31, u_X9_add_34, u_X9_add_35, u_X9_add_36, u_X9_add_39, sa_put, so_alen, so_aload, so_bin, so_cmp, so_dup, so_get, so_iast, so_if, so_iload, so_push, so_put, so_ret, sa_nth, h1, h2, h3, h4, h5, h6, sc_7, sf_0, sf_1, sf_i, sf_r, or_true, true_or, z10, z00, true_imp_iff, false_imp_iff, not_false_eq_true, not_true_eq_false, true_and, and_true, Nat.zero_le, Nat.sub_zero, List.length_cons, List.length_nil, Nat.reduceAdd, Nat.reduceLT, Nat.reduceLeDiff]
  obtain ⟨b1, b2, b3, b4, e1, e2, e3, e4⟩ := hR
  have hl0 : 0 < L.length := List.length_pos_iff.mpr hne
  obtain ⟨f1, f2⟩ := sS_app_flat L v hne
  refine ⟨fun q => ?_, fun q => ⟨fun q1 => ?_, fun q1 => ⟨?_, ?_⟩⟩⟩
  · rw [e2] at q
    exact absurd q (nI_nle hl0 (by omega))
  · rw [e1] at q1
    exact absurd q1 (nI_ge hlt (by omega))
  · rw [e1]; exact vp_in_nI hlt (by omega)
  · refine h _ ⟨b1, b2, by omega, by rw [f1, List.length_append]; simp only [List.length_cons, List.length_nil]; omega, ?_, ?_, fun i hi => ?_, fun j hj => ?_⟩
    · dsimp only
      rw [e1, nI_1, f1, List.length_append]; rfl
    · dsimp only
      rw [e2, f2]
    · rw [f2] at hi
      rw [sS_app_take L v i hi]
      exact e3 i hi
    · rw [f1, List.length_append] at hj
      simp only [List.length_cons, List.length_nil] at hj
      dsimp only
      rw [e1, nI_clamp (by omega), f1]
      by_cases hq : j = L.flatten.length
      · subst hq
        rw [pk_us, List.getElem?_append_right (Nat.le_refl _)]
        simp
      · rw [pk_un hq, List.getElem?_append_left (by omega)]
        exact e4 j (by omega)
theorem k_X9_restart {k ks kc ns nc : Nat} {C : sS_T → sa_H} (hL : sS_L k ks kc ns nc C) {r : sS_T} {L : List (List Int32)} (hR : sS_R ns nc r L) {Q : sa_Q} (h : ∀ r', sS_R ns nc r' [] → Q none (C r')) : ct_X9_restart 0 0 [.inr (.inl (some k))] (C r) Q := by
  obtain ⟨h1, h2, h3, h4, h5, h6⟩ := id hL
  simp only [e_X9_restart, u_X9_restart_0, u_X9_restart_1, u_X9_restart_2, u_X9_restart_5, u_X9_restart_6, u_X9_restart_7, u_X9_restart_10, sa_put, so_aload, so_push, so_put, so_ret, sa_nth, h1, h2, h3, h4, h5, h6, sc_7, sf_0, sf_1, sf_i, sf_r, or_true, true_or, z10, z00, true_imp_iff, false_imp_iff, not_false_eq_true, not_true_eq_false, true_and, and_true, Nat.zero_le, Nat.sub_zero, List.length_cons, List.length_nil, Nat.reduceAdd, Nat.reduceLT, Nat.reduceLeDiff]
  exact h _ ⟨hR.1, hR.2.1, by simp, by simp, rfl, rfl, fun i hi => by simp at hi, fun j hj => by simp at hj⟩
theorem k_X9_dropLast {k ks kc ns nc : Nat} {C : sS_T → sa_H} (hL : sS_L k ks kc ns nc C) {r : sS_T} {L : List (List Int32)} (hR : sS_R ns nc r L) {Q : sa_Q} (h : ∀ r', sS_R ns nc r' L.dropLast → Q none (C r')) : ct_X9_dropLast 0 0 [.inr (.inl (some k))] (C r) Q := by
  obtain ⟨h1, h2, h3, h4, h5, h6⟩ := id hL
  simp only [e_X9_dropLast, u_X9_dropLast_0, u_X9_dropLast_1, u_X9_dropLast_4, u_X9_dropLast_7, u_X9_dropLast_8, u_X9_dropLast_9, u_X9_dropLast_12, u_X9_dropLast_13, u_X9_dropLast_14, u_X9_dropLast_17, u_X9_dropLast_18, u_X9_dropLast_19, u_X9_dropLast_22, u_X9_dropLast_23, u_X9_dropLast_26, u_X9_dropLast_27, u_X9_dropLast_30, sa_put, so_aload, so_bin, so_dup, so_get, so_iald, so_if, so_push, so_put, so_ret, sa_nth, h1, h2, h3, h4, h5, h6, sc_7, sf_0, sf_1, sf_i, sf_r, or_true, true_or, z10, z00, true_imp_iff, false_imp_iff, not_false_eq_true, not_true_eq_false, true_and, and_true, Nat.zero_le, Nat.sub_zero, List.length_cons, List.length_nil, Nat.reduceAdd, Nat.reduceLT, Nat.reduceLeDiff]
  obtain ⟨b1, b2, b3, b4, e1, e2, e3, e4⟩ := hR
  refine ⟨fun q => ?_, fun q => ⟨?_, ?_⟩⟩
  · have hnil : L = [] := by
      rcases Nat.eq_zero_or_pos L.length with h0 | h0
      · exact List.length_eq_zero_iff.mp h0
      · rw [e2] at q; exact absurd q (nI_nle h0 (by omega))
    subst hnil
    exact h _ ⟨b1, b2, by simp, by simp, e1, e2, fun i hi => by simp at hi, fun j hj => by simp at hj⟩
  · have h0 : 0 < L.length := by
      rcases Nat.eq_zero_or_pos L.length with h0 | h0
      · rw [e2, h0] at q; exact absurd (by decide) q
      · exact h0
    rw [e2, show L.length = L.length - 1 + 1 by omega, nI_pred]
    exact vp_in_nI (by omega) (by omega)
  · have h0 : 0 < L.length := by
      rcases Nat.eq_zero_or_pos L.length with h0 | h0
      · rw [e2, h0] at q; exact absurd (by decide) q
      · exact h0
    have hd : L.dropLast = L.take (L.length - 1) := List.dropLast_eq_take
    have hp := sS_pre_le L (L.length - 1)
    have e9 : r.2.2.2 - 1 = nI (L.length - 1) := by rw [e2, show L.length = L.length - 1 + 1 by omega, nI_pred]; simp
    rw [e9, nI_clamp (by omega)]
    refine h _ ⟨b1, b2, by simp; omega, by rw [hd]; omega, ?_, ?_, fun i hi => ?_, fun j hj => ?_⟩
    · dsimp only
      rw [e3 _ (by omega), hd]
    · dsimp only
      rw [List.length_dropLast]
    · rw [List.length_dropLast] at hi
      dsimp only
      rw [e3 i (by omega), hd, List.take_take, Nat.min_eq_left (by omega)]
    · rw [hd] at hj ⊢
      have e8 := e4 j (by omega)
      dsimp only
      rw [← e8]
      conv => rhs; rw [← List.take_append_drop (L.length - 1) L]
      rw [List.flatten_append, List.getElem?_append_left hj]
