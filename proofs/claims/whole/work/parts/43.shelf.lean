/-! LOOPS OF BYTES -/
section BYL
variable {k ka n : Nat} {C : sB_T → sa_H} {r : sB_T} {l : List Int32} {Q : sa_Q}
theorem k_X0_addText (hL : sB_L k ka n C) (hR : sB_R n r l) {j : Nat} (hj : j < 8) (hlt : l.length + (sT j).length ≤ n) (h : ∀ r', r'.2.2 = r.2.2 → sB_R n r' (l ++ sT j) → Q none (C r')) : ct_X0_addText 0 0 [.inr (.inl (some k)), .inr (.inr j)] (C r) Q := by
  obtain ⟨g1, g2, g3, g4⟩ := id hL
  obtain ⟨-, t2, -⟩ := sT_all j hj
  have loop : ∀ (m i : Nat) (r1 : sB_T), i + m = (sT j).length → r1.2.2 = r.2.2 → sB_R n r1 (l ++ (sT j).take i) → sa_w tb_X0_addText (2, [some (.inr (.inl (some k))), some (.inr (.inr j)), some (.inl (nI i))], [], C r1, 0, 0) Q := by
    intro m
    induction m with
    | zero =>
      intro i r1 hi ho hR1
      simp only [u_X0_addText_0, u_X0_addText_1, u_X0_addText_2, u_X0_addText_3, u_X0_addText_4, u_X0_addText_10, u_X0_addText_11, u_X0_addText_12, u_X0_addText_13, u_X0_addText_22, u_X0_addText_25, sa_put, sa_split, so_aload, so_goto, so_iload, so_istore, so_push, so_ret, so_svirt, sa_nth, g1, sa_N8, hj, List.cons_append, List.nil_append, Option.toList_none, Option.toList_some, or_true, true_or, z10, z00, true_imp_iff, false_imp_iff, not_false_eq_true, not_true_eq_false, true_and, and_true, Nat.zero_le, Nat.sub_zero, List.length_cons, List.length_nil, Nat.reduceAdd, Nat.reduceLT, Nat.reduceLeDiff]
      refine k_slen hj _ ?_
      simp only [u_X0_addText_0, u_X0_addText_1, u_X0_addText_3, u_X0_addText_4, u_X0_addText_7, u_X0_addText_10, u_X0_addText_11, u_X0_addText_12, u_X0_addText_13, u_X0_addText_22, u_X0_addText_25, sa_put, sa_split, so_aload, so_cmp, so_goto, so_iload, so_istore, so_push, so_ret, so_svirt, sa_nth, g1, sa_N8, hj, List.cons_append, List.nil_append, Option.toList_none, Option.toList_some, or_true, true_or, z10, z00, true_imp_iff, false_imp_iff, not_false_eq_true, not_true_eq_false, true_and, and_true, Nat.zero_le, Nat.sub_zero, List.length_cons, List.length_nil, Nat.reduceAdd, Nat.reduceLT, Nat.reduceLeDiff]
      rw [nI_leI (by omega) (by omega)]
      refine ⟨fun q => h r1 ho ?_, fun q => absurd (by omega) q⟩
      rw [List.take_of_length_le (by omega)] at hR1
      exact hR1
    | succ m ih =>
      intro i r1 hi ho hR1
      simp only [u_X0_addText_0, u_X0_addText_1, u_X0_addText_2, u_X0_addText_3, u_X0_addText_4, u_X0_addText_10, u_X0_addText_11, u_X0_addText_12, u_X0_addText_13, u_X0_addText_22, u_X0_addText_25, sa_put, sa_split, so_aload, so_goto, so_iload, so_istore, so_push, so_ret, so_svirt, sa_nth, g1, sa_N8, hj, List.cons_append, List.nil_append, Option.toList_none, Option.toList_some, or_true, true_or, z10, z00, true_imp_iff, false_imp_iff, not_false_eq_true, not_true_eq_false, true_and, and_true, Nat.zero_le, Nat.sub_zero, List.length_cons, List.length_nil, Nat.reduceAdd, Nat.reduceLT, Nat.reduceLeDiff]
      refine k_slen hj _ ?_
      simp only [u_X0_addText_0, u_X0_addText_1, u_X0_addText_3, u_X0_addText_4, u_X0_addText_7, u_X0_addText_10, u_X0_addText_11, u_X0_addText_12, u_X0_addText_13, u_X0_addText_22, u_X0_addText_25, sa_put, sa_split, so_aload, so_cmp, so_goto, so_iload, so_istore, so_push, so_ret, so_svirt, sa_nth, g1, sa_N8, hj, List.cons_append, List.nil_append, Option.toList_none, Option.toList_some, or_true, true_or, z10, z00, true_imp_iff, false_imp_iff, not_false_eq_true, not_true_eq_false, true_and, and_true, Nat.zero_le, Nat.sub_zero, List.length_cons, List.length_nil, Nat.reduceAdd, Nat.reduceLT, Nat.reduceLeDiff]
      rw [nI_leI (by omega) (by omega)]
      refine ⟨fun q => absurd q (by omega), fun q => ?_⟩
      have hil : i < (sT j).length := by omega
      refine k_schar hj (List.getElem?_eq_getElem hil) _ ?_
      simp only [u_X0_addText_0, u_X0_addText_1, u_X0_addText_3, u_X0_addText_4, u_X0_addText_10, u_X0_addText_11, u_X0_addText_12, u_X0_addText_13, u_X0_addText_16, u_X0_addText_22, u_X0_addText_25, sa_put, sa_sel, sa_split, so_aload, so_goto, so_iload, so_istore, so_push, so_ret, so_svirt, so_virt, sa_nth, g1, sa_N8, hj, List.cons_append, List.nil_append, Nat.reduceEqDiff, Option.toList_none, Option.toList_some, if_false, if_true, reduceIte, or_true, true_or, z10, z00, true_imp_iff, false_imp_iff, not_false_eq_true, not_true_eq_false, true_and, and_true, Nat.zero_le, Nat.sub_zero, List.length_cons, List.length_nil, Nat.reduceAdd, Nat.reduceLT, Nat.reduceLeDiff]
      refine k_X0_add hL hR1 _ (by rw [List.length_append, List.length_take]; omega) (fun r2 o2 hR2 => ?_)
      simp only [u_X0_addText_0, u_X0_addText_1, u_X0_addText_3, u_X0_addText_4, u_X0_addText_10, u_X0_addText_11, u_X0_addText_12, u_X0_addText_13, u_X0_addText_19, u_X0_addText_22, u_X0_addText_25, sa_put, sa_split, so_aload, so_goto, so_iinc, so_iload, so_istore, so_push, so_ret, so_svirt, sa_nth, g1, sa_N8, hj, List.cons_append, List.nil_append, Option.toList_none, Option.toList_some, or_true, true_or, z10, z00, true_imp_iff, false_imp_iff, not_false_eq_true, not_true_eq_false, true_and, and_true, Nat.zero_le, Nat.sub_zero, List.length_cons, List.length_nil, Nat.reduceAdd, Nat.reduceLT, Nat.reduceLeDiff]
      rw [nI_1]
      refine ih (i + 1) r2 (by omega) (o2.trans ho) ?_
      rw [List.take_succ_eq_append_getElem hil, ← List.append_assoc]
      exact hR2
  simp only [e_X0_addText, u_X0_addText_0, u_X0_addText_1, u_X0_addText_3, u_X0_addText_4, u_X0_addText_10, u_X0_addText_11, u_X0_addText_12, u_X0_addText_13, u_X0_addText_22, u_X0_addText_25, sa_put, sa_split, so_aload, so_goto, so_iload, so_istore, so_push, so_ret, so_svirt, sa_nth, g1, sa_N8, hj, List.cons_append, List.nil_append, Option.toList_none, Option.toList_some, or_true, true_or, z10, z00, true_imp_iff, false_imp_iff, not_false_eq_true, not_true_eq_false, true_and, and_true, Nat.zero_le, Nat.sub_zero, List.length_cons, List.length_nil, Nat.reduceAdd, Nat.reduceLT, Nat.reduceLeDiff]
  exact loop (sT j).length 0 r (by omega) rfl (by simpa using hR)
theorem k_X0_addBlanksTo (hL : sB_L k ka n C) (hR : sB_R n r l) {s : Nat} (hs : s ≤ n) (h : ∀ r', r'.2.2 = r.2.2 → sB_R n r' (l ++ List.replicate (s - l.length) 32) → Q none (C r')) : ct_X0_addBlanksTo 0 0 [.inr (.inl (some k)), .inl (nI s)] (C r) Q := by
  obtain ⟨g1, g2, g3, g4⟩ := id hL
  obtain ⟨b1, b2, e1, -⟩ := id hR
  have loop : ∀ (m : Nat) (r1 : sB_T), l.length + m ≤ s ∨ m = 0 → r1.2.2 = r.2.2 → sB_R n r1 (l ++ List.replicate (s - l.length - m) 32) → sa_w tb_X0_addBlanksTo (7, [some (.inr (.inl (some k))), some (.inl (nI s)), some (.inl (nI m))], [], C r1, 0, 0) Q := by
    intro m
    induction m with
    | zero =>
      intro r1 hm ho hR1
      simp only [u_X0_addBlanksTo_0, u_X0_addBlanksTo_1, u_X0_addBlanksTo_2, u_X0_addBlanksTo_5, u_X0_addBlanksTo_6, u_X0_addBlanksTo_7, u_X0_addBlanksTo_8, u_X0_addBlanksTo_11, u_X0_addBlanksTo_12, u_X0_addBlanksTo_14, u_X0_addBlanksTo_20, u_X0_addBlanksTo_23, sa_put, sa_sel, sa_split, so_aload, so_bin, so_get, so_goto, so_if, so_iload, so_istore, so_push, so_ret, so_virt, sa_nth, g1, List.cons_append, List.nil_append, Nat.reduceEqDiff, Option.toList_none, Option.toList_some, if_false, if_true, reduceIte, sc_0, or_true, true_or, z10, z00, true_imp_iff, false_imp_iff, not_false_eq_true, not_true_eq_false, true_and, and_true, Nat.zero_le, Nat.sub_zero, List.length_cons, List.length_nil, Nat.reduceAdd, Nat.reduceLT, Nat.reduceLeDiff]
      refine ⟨fun q => h r1 ho hR1, fun q => absurd (by decide) q⟩
    | succ m ih =>
      intro r1 hm ho hR1
      have hm1 : l.length + (m + 1) ≤ s := by omega
      simp only [u_X0_addBlanksTo_0, u_X0_addBlanksTo_1, u_X0_addBlanksTo_2, u_X0_addBlanksTo_5, u_X0_addBlanksTo_6, u_X0_addBlanksTo_7, u_X0_addBlanksTo_8, u_X0_addBlanksTo_11, u_X0_addBlanksTo_12, u_X0_addBlanksTo_14, u_X0_addBlanksTo_20, u_X0_addBlanksTo_23, sa_put, sa_sel, sa_split, so_aload, so_bin, so_get, so_goto, so_if, so_iload, so_istore, so_push, so_ret, so_virt, sa_nth, g1, List.cons_append, List.nil_append, Nat.reduceEqDiff, Option.toList_none, Option.toList_some, if_false, if_true, reduceIte, sc_0, or_true, true_or, z10, z00, true_imp_iff, false_imp_iff, not_false_eq_true, not_true_eq_false, true_and, and_true, Nat.zero_le, Nat.sub_zero, List.length_cons, List.length_nil, Nat.reduceAdd, Nat.reduceLT, Nat.reduceLeDiff]
      refine ⟨fun q => absurd q (nI_nle (by omega) (by omega)), fun q => ?_⟩
      refine k_X0_add hL hR1 _ (by rw [List.length_append, List.length_replicate]; omega) (fun r2 o2 hR2 => ?_)
      simp only [u_X0_addBlanksTo_0, u_X0_addBlanksTo_1, u_X0_addBlanksTo_2, u_X0_addBlanksTo_5, u_X0_addBlanksTo_6, u_X0_addBlanksTo_8, u_X0_addBlanksTo_11, u_X0_addBlanksTo_12, u_X0_addBlanksTo_14, u_X0_addBlanksTo_17, u_X0_addBlanksTo_20, u_X0_addBlanksTo_23, sa_put, sa_sel, sa_split, so_aload, so_bin, so_get, so_goto, so_if, so_iinc, so_iload, so_istore, so_push, so_ret, so_virt, sa_nth, g1, List.cons_append, List.nil_append, Nat.reduceEqDiff, Option.toList_none, Option.toList_some, if_false, if_true, reduceIte, sc_0, or_true, true_or, z10, z00, true_imp_iff, false_imp_iff, not_false_eq_true, not_true_eq_false, true_and, and_true, Nat.zero_le, Nat.sub_zero, List.length_cons, List.length_nil, Nat.reduceAdd, Nat.reduceLT, Nat.reduceLeDiff]
      rw [pk_m1]
      refine ih r2 (by omega) (o2.trans ho) ?_
      rw [List.append_assoc, ← List.replicate_succ'] at hR2
      rw [show s - l.length - m = s - l.length - (m + 1) + 1 by omega]
      exact hR2
  simp only [e_X0_addBlanksTo, u_X0_addBlanksTo_0, u_X0_addBlanksTo_1, u_X0_addBlanksTo_2, u_X0_addBlanksTo_5, u_X0_addBlanksTo_6, u_X0_addBlanksTo_8, u_X0_addBlanksTo_11, u_X0_addBlanksTo_12, u_X0_addBlanksTo_14, u_X0_addBlanksTo_20, u_X0_addBlanksTo_23, sa_put, sa_sel, sa_split, so_aload, so_bin, so_get, so_goto, so_if, so_iload, so_istore, so_push, so_ret, so_virt, sa_nth, g1, List.cons_append, List.nil_append, Nat.reduceEqDiff, Option.toList_none, Option.toList_some, if_false, if_true, reduceIte, sc_0, or_true, true_or, z10, z00, true_imp_iff, false_imp_iff, not_false_eq_true, not_true_eq_false, true_and, and_true, Nat.zero_le, Nat.sub_zero, List.length_cons, List.length_nil, Nat.reduceAdd, Nat.reduceLT, Nat.reduceLeDiff]
  rw [e1]
  rcases Nat.lt_or_ge l.length s with q | q
  · rw [pk_sub (by omega)]
    refine loop (s - l.length) r (by omega) rfl ?_
    rw [show s - l.length - (s - l.length) = 0 by omega]
    simpa using hR
  · simp only [u_X0_addBlanksTo_0, u_X0_addBlanksTo_1, u_X0_addBlanksTo_2, u_X0_addBlanksTo_5, u_X0_addBlanksTo_6, u_X0_addBlanksTo_7, u_X0_addBlanksTo_8, u_X0_addBlanksTo_11, u_X0_addBlanksTo_12, u_X0_addBlanksTo_14, u_X0_addBlanksTo_20, u_X0_addBlanksTo_23, sa_put, sa_sel, sa_split, so_aload, so_bin, so_get, so_goto, so_if, so_iload, so_istore, so_push, so_ret, so_virt, sa_nth, g1, List.cons_append, List.nil_append, Nat.reduceEqDiff, Option.toList_none, Option.toList_some, if_false, if_true, reduceIte, sc_0, or_true, true_or, z10, z00, true_imp_iff, false_imp_iff, not_false_eq_true, not_true_eq_false, true_and, and_true, Nat.zero_le, Nat.sub_zero, List.length_cons, List.length_nil, Nat.reduceAdd, Nat.reduceLT, Nat.reduceLeDiff]
    refine ⟨fun _ => h r rfl ?_, fun q1 => ?_⟩
    · rw [show s - l.length = 0 by omega]; simpa using hR
    · exfalso
      apply q1
      rcases Nat.lt_or_ge s l.length with q2 | q2
      · exact Int32.le_of_lt (pk_sneg (by omega) q2)
      · rw [show l.length = s by omega, pk_sub (Nat.le_refl _)]; simp [nI_0]
end BYL
/-! SHELF: names and contents; the two classes below it have them first -/
def sH_L (ci k kn kns knc ns nnc kc kcs kcc nc ncc : Nat) (tl : List sa_V) (C : sS_T → sS_T → sa_H) : Prop :=
  (ci = 2 ∨ ci = 3) ∧ (∀ a b, sa_nth (C a b) k = some (.inr (ci, .inr (.inl (some kn)) :: .inr (.inl (some kc)) :: tl))) ∧ (∀ b, sS_L kn kns knc ns nnc (fun a => C a b)) ∧ (∀ a, sS_L kc kcs kcc nc ncc (fun b => C a b))
section SHE
variable {ci k kn kns knc ns nnc kc kcs kcc nc ncc : Nat} {tl : List sa_V} {C : sS_T → sS_T → sa_H} {a b : sS_T} {N D : List (List Int32)} {Q : sa_Q}
theorem k_X8_count (hL : sH_L ci k kn kns knc ns nnc kc kcs kcc nc ncc tl C) (hN : sS_R ns nnc a N) (h : Q (some (.inl (nI N.length))) (C a b)) : ct_X8_count 0 0 [.inr (.inl (some k))] (C a b) Q := by
  obtain ⟨hc, h1, h2, h3⟩ := hL
  have g1 := fun a b => (h2 b).1 a
  have g2 := fun a b => (h3 a).1 b
  dsimp only at g1 g2
  rcases hc with rfl | rfl
  all_goals
    simp only [e_X8_count, u_X8_count_0, u_X8_count_1, u_X8_count_4, sa_sel, sa_split, so_aload, so_get, so_virt, sa_nth, h1, g1, List.cons_append, List.nil_append, Nat.reduceEqDiff, Option.toList_none, Option.toList_some, if_false, if_true, reduceIte, sc_22, sc_23, or_true, true_or, z10, z00, true_imp_iff, false_imp_iff, not_false_eq_true, not_true_eq_false, true_and, and_true, Nat.zero_le, Nat.sub_zero, List.length_cons, List.length_nil, Nat.reduceAdd, Nat.reduceLT, Nat.reduceLeDiff]
    refine k_X9_count (h2 b) hN ?_
    simp only [u_X8_count_0, u_X8_count_1, u_X8_count_4, u_X8_count_7, sa_sel, sa_split, so_aload, so_get, so_iret, so_virt, sa_nth, List.cons_append, List.nil_append, Nat.reduceEqDiff, Option.toList_none, Option.toList_some, if_false, if_true, reduceIte, sc_22, sc_23, or_true, true_or, z10, z00, true_imp_iff, false_imp_iff, not_false_eq_true, not_true_eq_false, true_and, and_true, Nat.zero_le, Nat.sub_zero, List.length_cons, List.length_nil, Nat.reduceAdd, Nat.reduceLT, Nat.reduceLeDiff]
    exact h
theorem k_X8_last (hL : sH_L ci k kn kns knc ns nnc kc kcs kcc nc ncc tl C) (hN : sS_R ns nnc a N) (h : Q (some (.inl (nI N.length - 1))) (C a b)) : ct_X8_last 0 0 [.inr (.inl (some k))] (C a b) Q := by
  obtain ⟨hc, h1, h2, h3⟩ := hL
  have g1 := fun a b => (h2 b).1 a
  have g2 := fun a b => (h3 a).1 b
  dsimp only at g1 g2
  rcases hc with rfl | rfl
  all_goals
    simp only [e_X8_last, u_X8_last_0, u_X8_last_1, u_X8_last_4, u_X8_last_8, u_X8_last_9, sa_sel, sa_split, so_aload, so_bin, so_get, so_iret, so_virt, sa_nth, h1, g1, List.cons_append, List.nil_append, Nat.reduceEqDiff, Option.toList_none, Option.toList_some, if_false, if_true, reduceIte, sc_22, sc_23, or_true, true_or, z10, z00, true_imp_iff, false_imp_iff, not_false_eq_true, not_true_eq_false, true_and, and_true, Nat.zero_le, Nat.sub_zero, List.length_cons, List.length_nil, Nat.reduceAdd, Nat.reduceLT, Nat.reduceLeDiff]
    refine k_X9_count (h2 b) hN ?_
    simp only [u_X8_last_0, u_X8_last_1, u_X8_last_4, u_X8_last_7, u_X8_last_8, u_X8_last_9, sa_sel, sa_split, so_aload, so_bin, so_get, so_iret, so_push, so_virt, sa_nth, List.cons_append, List.nil_append, Nat.reduceEqDiff, Option.toList_none, Option.toList_some, if_false, if_true, reduceIte, sc_22, sc_23, or_true, true_or, z10, z00, true_imp_iff, false_imp_iff, not_false_eq_true, not_true_eq_false, true_and, and_true, Nat.zero_le, Nat.sub_zero, List.length_cons, List.length_nil, Nat.reduceAdd, Nat.reduceLT, Nat.reduceLeDiff]
    exact h
theorem k_X8_has (hL : sH_L ci k kn kns knc ns nnc kc kcs kcc nc ncc tl C) (hN : sS_R ns nnc a N) (i : Int32) (ht : ∀ j, j < N.length → i = nI j → Q (some (.inl 1)) (C a b)) (hf : (i < 0 ∨ nI N.length ≤ i) → Q (some (.inl 0)) (C a b)) : ct_X8_has 0 0 [.inr (.inl (some k)), .inl i] (C a b) Q := by
  obtain ⟨hc, h1, h2, h3⟩ := hL
  have g1 := fun a b => (h2 b).1 a
  have g2 := fun a b => (h3 a).1 b
  dsimp only at g1 g2
  rcases hc with rfl | rfl
  all_goals
    simp only [e_X8_has, u_X8_has_0, u_X8_has_1, u_X8_has_4, u_X8_has_5, u_X8_has_6, u_X8_has_9, u_X8_has_15, u_X8_has_16, u_X8_has_19, u_X8_has_20, sa_sel, sa_split, so_aload, so_get, so_goto, so_if, so_iload, so_push, so_virt, so_zret, sa_nth, h1, g1, List.cons_append, List.nil_append, Nat.reduceEqDiff, Option.toList_none, Option.toList_some, if_false, if_true, reduceIte, sc_22, sc_23, or_true, true_or, z10, z00, true_imp_iff, false_imp_iff, not_false_eq_true, not_true_eq_false, true_and, and_true, Nat.zero_le, Nat.sub_zero, List.length_cons, List.length_nil, Nat.reduceAdd, Nat.reduceLT, Nat.reduceLeDiff]
    refine ⟨fun q => hf (Or.inl q), fun q => ?_⟩
    refine k_X9_count (h2 b) hN ?_
    simp only [u_X8_has_0, u_X8_has_1, u_X8_has_4, u_X8_has_5, u_X8_has_6, u_X8_has_9, u_X8_has_12, u_X8_has_15, u_X8_has_16, u_X8_has_19, u_X8_has_20, sa_sel, sa_split, so_aload, so_cmp, so_get, so_goto, so_if, so_iload, so_push, so_virt, so_zret, sa_nth, List.cons_append, List.nil_append, Nat.reduceEqDiff, Option.toList_none, Option.toList_some, if_false, if_true, reduceIte, sc_22, sc_23, or_true, true_or, z10, z00, true_imp_iff, false_imp_iff, not_false_eq_true, not_true_eq_false, true_and, and_true, Nat.zero_le, Nat.sub_zero, List.length_cons, List.length_nil, Nat.reduceAdd, Nat.reduceLT, Nat.reduceLeDiff]
    refine ⟨fun q1 => hf (Or.inr q1), fun q1 => ?_⟩
    rcases pk_ix i (n := N.length) (by have := hN.1; have := hN.2.2.1; omega) with q2 | q2 | ⟨j, hj, e⟩
    · exact absurd q2 q
    · exact absurd q2 q1
    · exact ht j hj e
theorem k_X8_addThing (hL : sH_L ci k kn kns knc ns nnc kc kcs kcc nc ncc tl C) (hN : sS_R ns nnc a N) (hD : sS_R nc ncc b D) (hl1 : N.length < ns) (hl2 : D.length < nc) (h : ∀ a b, sS_R ns nnc a (N ++ [[]]) → sS_R nc ncc b (D ++ [[]]) → Q none (C a b)) : ct_X8_addThing 0 0 [.inr (.inl (some k))] (C a b) Q := by
  obtain ⟨hc, h1, h2, h3⟩ := hL
  have g1 := fun a b => (h2 b).1 a
  have g2 := fun a b => (h3 a).1 b
  dsimp only at g1 g2
  rcases hc with rfl | rfl
  all_goals
    simp only [e_X8_addThing, u_X8_addThing_0, u_X8_addThing_1, u_X8_addThing_4, u_X8_addThing_8, u_X8_addThing_11, sa_sel, sa_split, so_aload, so_get, so_virt, sa_nth, h1, g1, g2, List.cons_append, List.nil_append, Nat.reduceEqDiff, Option.toList_none, Option.toList_some, if_false, if_true, reduceIte, sc_22, sc_23, or_true, true_or, z10, z00, true_imp_iff, false_imp_iff, not_false_eq_true, not_true_eq_false, true_and, and_true, Nat.zero_le, Nat.sub_zero, List.length_cons, List.length_nil, Nat.reduceAdd, Nat.reduceLT, Nat.reduceLeDiff]
    refine k_X9_begin (h2 b) hN hl1 (fun a' hN' => ?_)
    simp only [u_X8_addThing_0, u_X8_addThing_1, u_X8_addThing_4, u_X8_addThing_7, u_X8_addThing_8, u_X8_addThing_11, sa_sel, sa_split, so_aload, so_get, so_virt, sa_nth, h1, g1, g2, List.cons_append, List.nil_append, Nat.reduceEqDiff, Option.toList_none, Option.toList_some, if_false, if_true, reduceIte, sc_22, sc_23, or_true, true_or, z10, z00, true_imp_iff, false_imp_iff, not_false_eq_true, not_true_eq_false, true_and, and_true, Nat.zero_le, Nat.sub_zero, List.length_cons, List.length_nil, Nat.reduceAdd, Nat.reduceLT, Nat.reduceLeDiff]
    refine k_X9_begin (h3 a') hD hl2 (fun b' hD' => ?_)
    simp only [u_X8_addThing_0, u_X8_addThing_1, u_X8_addThing_4, u_X8_addThing_8, u_X8_addThing_11, u_X8_addThing_14, sa_sel, sa_split, so_aload, so_get, so_ret, so_virt, sa_nth, List.cons_append, List.nil_append, Nat.reduceEqDiff, Option.toList_none, Option.toList_some, if_false, if_true, reduceIte, sc_22, sc_23, or_true, true_or, z10, z00, true_imp_iff, false_imp_iff, not_false_eq_true, not_true_eq_false, true_and, and_true, Nat.zero_le, Nat.sub_zero, List.length_cons, List.length_nil, Nat.reduceAdd, Nat.reduceLT, Nat.reduceLeDiff]
    exact h a' b' hN' hD'
theorem k_X8_dropLast (hL : sH_L ci k kn kns knc ns nnc kc kcs kcc nc ncc tl C) (hN : sS_R ns nnc a N) (hD : sS_R nc ncc b D) (h : ∀ a b, sS_R ns nnc a N.dropLast → sS_R nc ncc b D.dropLast → Q none (C a b)) : ct_X8_dropLast 0 0 [.inr (.inl (some k))] (C a b) Q := by
  obtain ⟨hc, h1, h2, h3⟩ := hL
  have g1 := fun a b => (h2 b).1 a
  have g2 := fun a b => (h3 a).1 b
  dsimp only at g1 g2
  rcases hc with rfl | rfl
  all_goals
    simp only [e_X8_dropLast, u_X8_dropLast_0, u_X8_dropLast_1, u_X8_dropLast_4, u_X8_dropLast_8, u_X8_dropLast_11, sa_sel, sa_split, so_aload, so_get, so_virt, sa_nth, h1, g1, g2, List.cons_append, List.nil_append, Nat.reduceEqDiff, Option.toList_none, Option.toList_some, if_false, if_true, reduceIte, sc_22, sc_23, or_true, true_or, z10, z00, true_imp_iff, false_imp_iff, not_false_eq_true, not_true_eq_false, true_and, and_true, Nat.zero_le, Nat.sub_zero, List.length_cons, List.length_nil, Nat.reduceAdd, Nat.reduceLT, Nat.reduceLeDiff]
    refine k_X9_dropLast (h2 b) hN (fun a' hN' => ?_)
    simp only [u_X8_dropLast_0, u_X8_dropLast_1, u_X8_dropLast_4, u_X8_dropLast_7, u_X8_dropLast_8, u_X8_dropLast_11, sa_sel, sa_split, so_aload, so_get, so_virt, sa_nth, h1, g1, g2, List.cons_append, List.nil_append, Nat.reduceEqDiff, Option.toList_none, Option.toList_some, if_false, if_true, reduceIte, sc_22, sc_23, or_true, true_or, z10, z00, true_imp_iff, false_imp_iff, not_false_eq_true, not_true_eq_false, true_and, and_true, Nat.zero_le, Nat.sub_zero, List.length_cons, List.length_nil, Nat.reduceAdd, Nat.reduceLT, Nat.reduceLeDiff]
    refine k_X9_dropLast (h3 a') hD (fun b' hD' => ?_)
    simp only [u_X8_dropLast_0, u_X8_dropLast_1, u_X8_dropLast_4, u_X8_dropLast_8, u_X8_dropLast_11, u_X8_dropLast_14, sa_sel, sa_split, so_aload, so_get, so_ret, so_virt, sa_nth, List.cons_append, List.nil_append, Nat.reduceEqDiff, Option.toList_none, Option.toList_some, if_false, if_true, reduceIte, sc_22, sc_23, or_true, true_or, z10, z00, true_imp_iff, false_imp_iff, not_false_eq_true, not_true_eq_false, true_and, and_true, Nat.zero_le, Nat.sub_zero, List.length_cons, List.length_nil, Nat.reduceAdd, Nat.reduceLT, Nat.reduceLeDiff]
    exact h a' b' hN' hD'
theorem k_X8_restart (hL : sH_L ci k kn kns knc ns nnc kc kcs kcc nc ncc tl C) (hN : sS_R ns nnc a N) (hD : sS_R nc ncc b D) (h : ∀ a b, sS_R ns nnc a [] → sS_R nc ncc b [] → Q none (C a b)) : ct_X8_restart 0 0 [.inr (.inl (some k))] (C a b) Q := by
  obtain ⟨hc, h1, h2, h3⟩ := hL
  have g1 := fun a b => (h2 b).1 a
  have g2 := fun a b => (h3 a).1 b
  dsimp only at g1 g2
  rcases hc with rfl | rfl
  all_goals
    simp only [e_X8_restart, u_X8_restart_0, u_X8_restart_1, u_X8_restart_4, u_X8_restart_8, u_X8_restart_11, sa_sel, sa_split, so_aload, so_get, so_virt, sa_nth, h1, g1, g2, List.cons_append, List.nil_append, Nat.reduceEqDiff, Option.toList_none, Option.toList_some, if_false, if_true, reduceIte, sc_22, sc_23, or_true, true_or, z10, z00, true_imp_iff, false_imp_iff, not_false_eq_true, not_true_eq_false, true_and, and_true, Nat.zero_le, Nat.sub_zero, List.length_cons, List.length_nil, Nat.reduceAdd, Nat.reduceLT, Nat.reduceLeDiff]
    refine k_X9_restart (h2 b) hN (fun a' hN' => ?_)
    simp only [u_X8_restart_0, u_X8_restart_1, u_X8_restart_4, u_X8_restart_7, u_X8_restart_8, u_X8_restart_11, sa_sel, sa_split, so_aload, so_get, so_virt, sa_nth, h1, g1, g2, List.cons_append, List.nil_append, Nat.reduceEqDiff, Option.toList_none, Option.toList_some, if_false, if_true, reduceIte, sc_22, sc_23, or_true, true_or, z10, z00, true_imp_iff, false_imp_iff, not_false_eq_true, not_true_eq_false, true_and, and_true, Nat.zero_le, Nat.sub_zero, List.length_cons, List.length_nil, Nat.reduceAdd, Nat.reduceLT, Nat.reduceLeDiff]
    refine k_X9_restart (h3 a') hD (fun b' hD' => ?_)
    simp only [u_X8_restart_0, u_X8_restart_1, u_X8_restart_4, u_X8_restart_8, u_X8_restart_11, u_X8_restart_14, sa_sel, sa_split, so_aload, so_get, so_ret, so_virt, sa_nth, List.cons_append, List.nil_append, Nat.reduceEqDiff, Option.toList_none, Option.toList_some, if_false, if_true, reduceIte, sc_22, sc_23, or_true, true_or, z10, z00, true_imp_iff, false_imp_iff, not_false_eq_true, not_true_eq_false, true_and, and_true, Nat.zero_le, Nat.sub_zero, List.length_cons, List.length_nil, Nat.reduceAdd, Nat.reduceLT, Nat.reduceLeDiff]
    exact h a' b' hN' hD'
theorem k_X8_addNameByte (hL : sH_L ci k kn kns knc ns nnc kc kcs kcc nc ncc tl C) (hN : sS_R ns nnc a N) (v : Int32) (hne : N ≠ []) (hlt : N.flatten.length < nnc) (h : ∀ a, sS_R ns nnc a (sS_app N v) → Q none (C a b)) : ct_X8_addNameByte 0 0 [.inr (.inl (some k)), .inl v] (C a b) Q := by
  obtain ⟨hc, h1, h2, h3⟩ := hL
  have g1 := fun a b => (h2 b).1 a
  have g2 := fun a b => (h3 a).1 b
  dsimp only at g1 g2
  rcases hc with rfl | rfl
  all_goals
    simp only [e_X8_addNameByte, u_X8_addNameByte_0, u_X8_addNameByte_1, u_X8_addNameByte_4, u_X8_addNameByte_5, sa_sel, sa_split, so_aload, so_get, so_iload, so_virt, sa_nth, h1, g1, g2, List.cons_append, List.nil_append, Nat.reduceEqDiff, Option.toList_none, Option.toList_some, if_false, if_true, reduceIte, sc_22, sc_23, or_true, true_or, z10, z00, true_imp_iff, false_imp_iff, not_false_eq_true, not_true_eq_false, true_and, and_true, Nat.zero_le, Nat.sub_zero, List.length_cons, List.length_nil, Nat.reduceAdd, Nat.reduceLT, Nat.reduceLeDiff]
    refine k_X9_add (h2 b) hN v hne hlt (fun a' hN' => ?_)
    simp only [u_X8_addNameByte_0, u_X8_addNameByte_1, u_X8_addNameByte_4, u_X8_addNameByte_5, u_X8_addNameByte_8, sa_sel, sa_split, so_aload, so_get, so_iload, so_ret, so_virt, sa_nth, List.cons_append, List.nil_append, Nat.reduceEqDiff, Option.toList_none, Option.toList_some, if_false, if_true, reduceIte, sc_22, sc_23, or_true, true_or, z10, z00, true_imp_iff, false_imp_iff, not_false_eq_true, not_true_eq_false, true_and, and_true, Nat.zero_le, Nat.sub_zero, List.length_cons, List.length_nil, Nat.reduceAdd, Nat.reduceLT, Nat.reduceLeDiff]
    exact h a' hN'
theorem k_X8_addContentsByte (hL : sH_L ci k kn kns knc ns nnc kc kcs kcc nc ncc tl C) (hD : sS_R nc ncc b D) (v : Int32) (hne : D ≠ []) (hlt : D.flatten.length < ncc) (h : ∀ b, sS_R nc ncc b (sS_app D v) → Q none (C a b)) : ct_X8_addContentsByte 0 0 [.inr (.inl (some k)), .inl v] (C a b) Q := by
  obtain ⟨hc, h1, h2, h3⟩ := hL
  have g1 := fun a b => (h2 b).1 a
  have g2 := fun a b => (h3 a).1 b
  dsimp only at g1 g2
  rcases hc with rfl | rfl
  all_goals
    simp only [e_X8_addContentsByte, u_X8_addContentsByte_0, u_X8_addContentsByte_1, u_X8_addContentsByte_4, u_X8_addContentsByte_5, sa_sel, sa_split, so_aload, so_get, so_iload, so_virt, sa_nth, h1, g1, g2, List.cons_append, List.nil_append, Nat.reduceEqDiff, Option.toList_none, Option.toList_some, if_false, if_true, reduceIte, sc_22, sc_23, or_true, true_or, z10, z00, true_imp_iff, false_imp_iff, not_false_eq_true, not_true_eq_false, true_and, and_true, Nat.zero_le, Nat.sub_zero, List.length_cons, List.length_nil, Nat.reduceAdd, Nat.reduceLT, Nat.reduceLeDiff]
    refine k_X9_add (h3 a) hD v hne hlt (fun b' hD' => ?_)
    simp only [u_X8_addContentsByte_0, u_X8_addContentsByte_1, u_X8_addContentsByte_4, u_X8_addContentsByte_5, u_X8_addContentsByte_8, sa_sel, sa_split, so_aload, so_get, so_iload, so_ret, so_virt, sa_nth, List.cons_append, List.nil_append, Nat.reduceEqDiff, Option.toList_none, Option.toList_some, if_false, if_true, reduceIte, sc_22, sc_23, or_true, true_or, z10, z00, true_imp_iff, false_imp_iff, not_false_eq_true, not_true_eq_false, true_and, and_true, Nat.zero_le, Nat.sub_zero, List.length_cons, List.length_nil, Nat.reduceAdd, Nat.reduceLT, Nat.reduceLeDiff]
    exact h b' hD'
theorem k_X8_nameLength (hL : sH_L ci k kn kns knc ns nnc kc kcs kcc nc ncc tl C) (hN : sS_R ns nnc a N) (i : Int32) (h : Q (some (.inl (nI (sS_row N i).length))) (C a b)) : ct_X8_nameLength 0 0 [.inr (.inl (some k)), .inl i] (C a b) Q := by
  obtain ⟨hc, h1, h2, h3⟩ := hL
  have g1 := fun a b => (h2 b).1 a
  have g2 := fun a b => (h3 a).1 b
  dsimp only at g1 g2
  rcases hc with rfl | rfl
  all_goals
    simp only [e_X8_nameLength, u_X8_nameLength_0, u_X8_nameLength_1, u_X8_nameLength_4, u_X8_nameLength_5, sa_sel, sa_split, so_aload, so_get, so_iload, so_virt, sa_nth, h1, g1, g2, List.cons_append, List.nil_append, Nat.reduceEqDiff, Option.toList_none, Option.toList_some, if_false, if_true, reduceIte, sc_22, sc_23, or_true, true_or, z10, z00, true_imp_iff, false_imp_iff, not_false_eq_true, not_true_eq_false, true_and, and_true, Nat.zero_le, Nat.sub_zero, List.length_cons, List.length_nil, Nat.reduceAdd, Nat.reduceLT, Nat.reduceLeDiff]
    refine k_X9_length (h2 b) hN i ?_
    simp only [u_X8_nameLength_0, u_X8_nameLength_1, u_X8_nameLength_4, u_X8_nameLength_5, u_X8_nameLength_8, sa_sel, sa_split, so_aload, so_get, so_iload, so_iret, so_virt, sa_nth, List.cons_append, List.nil_append, Nat.reduceEqDiff, Option.toList_none, Option.toList_some, if_false, if_true, reduceIte, sc_22, sc_23, or_true, true_or, z10, z00, true_imp_iff, false_imp_iff, not_false_eq_true, not_true_eq_false, true_and, and_true, Nat.zero_le, Nat.sub_zero, List.length_cons, List.length_nil, Nat.reduceAdd, Nat.reduceLT, Nat.reduceLeDiff]
    exact h
theorem k_X8_nameByte (hL : sH_L ci k kn kns knc ns nnc kc kcs kcc nc ncc tl C) (hN : sS_R ns nnc a N) (i x : Int32) (h : Q (some (.inl (sS_at (sS_row N i) x))) (C a b)) : ct_X8_nameByte 0 0 [.inr (.inl (some k)), .inl i, .inl x] (C a b) Q := by
  obtain ⟨hc, h1, h2, h3⟩ := hL
  have g1 := fun a b => (h2 b).1 a
  have g2 := fun a b => (h3 a).1 b
  dsimp only at g1 g2
  rcases hc with rfl | rfl
  all_goals
    simp only [e_X8_nameByte, u_X8_nameByte_0, u_X8_nameByte_1, u_X8_nameByte_4, u_X8_nameByte_5, u_X8_nameByte_6, sa_sel, sa_split, so_aload, so_get, so_iload, so_virt, sa_nth, h1, g1, g2, List.cons_append, List.nil_append, Nat.reduceEqDiff, Option.toList_none, Option.toList_some, if_false, if_true, reduceIte, sc_22, sc_23, or_true, true_or, z10, z00, true_imp_iff, false_imp_iff, not_false_eq_true, not_true_eq_false, true_and, and_true, Nat.zero_le, Nat.sub_zero, List.length_cons, List.length_nil, Nat.reduceAdd, Nat.reduceLT, Nat.reduceLeDiff]
    refine k_X9_at (h2 b) hN i x ?_
    simp only [u_X8_nameByte_0, u_X8_nameByte_1, u_X8_nameByte_4, u_X8_nameByte_5, u_X8_nameByte_6, u_X8_nameByte_9, sa_sel, sa_split, so_aload, so_get, so_iload, so_iret, so_virt, sa_nth, List.cons_append, List.nil_append, Nat.reduceEqDiff, Option.toList_none, Option.toList_some, if_false, if_true, reduceIte, sc_22, sc_23, or_true, true_or, z10, z00, true_imp_iff, false_imp_iff, not_false_eq_true, not_true_eq_false, true_and, and_true, Nat.zero_le, Nat.sub_zero, List.length_cons, List.length_nil, Nat.reduceAdd, Nat.reduceLT, Nat.reduceLeDiff]
    exact h
end SHE
