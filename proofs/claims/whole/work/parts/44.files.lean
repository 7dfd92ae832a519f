/-! FILES -/
theorem nI_m1 (n : Nat) (h : 0 < n) : nI n - 1 = nI (n - 1) := by
  rw [show n = n - 1 + 1 by omega, nI_pred]; simp
theorem nI_ne_m1 {n : Nat} (h : n < 2 ^ 31) : ¬ nI n = -1 := by
  intro e
  have h1 := nI_pos h
  rw [e] at h1
  exact h1 (by decide)
section SHN
variable {ci k kn kns knc ns nnc kc kcs kcc nc ncc : Nat} {tl : List sa_V} {C : sS_T → sS_T → sa_H} {a b : sS_T} {N D : List (List Int32)} {Q : sa_Q}
theorem k_X8_isNamed (hL : sH_L ci k kn kns knc ns nnc kc kcs kcc nc ncc tl C) (hN : sS_R ns nnc a N) (i : Int32) {j : Nat} (hj : j < 8) (ht : sS_row N i = sT j → Q (some (.inl 1)) (C a b)) (hf : sS_row N i ≠ sT j → Q (some (.inl 0)) (C a b)) : ct_X8_isNamed 0 0 [.inr (.inl (some k)), .inl i, .inr (.inr j)] (C a b) Q := by
  obtain ⟨-, t2, -⟩ := sT_all j hj
  have hrl : (sS_row N i).length < 2 ^ 30 := by
    have hb := hN.2.1
    have hb2 := hN.2.2.2.1
    unfold sS_row
    split
    · simp
    · by_cases hi : i.toNatClampNeg < N.length
      · have := sS_pre N _ hi
        have := sS_pre_le N (i.toNatClampNeg + 1)
        omega
      · rw [List.getD_eq_getElem?_getD, List.getElem?_eq_none (by omega)]; simp
  obtain ⟨hc, h1, h2, h3⟩ := hL
  have g1 := fun a b => (h2 b).1 a
  dsimp only at g1
  have loop : (sS_row N i).length = (sT j).length → ∀ (m x : Nat), x + m = (sT j).length → (sS_row N i).take x = (sT j).take x → sa_w tb_X8_isNamed (19, [some (.inr (.inl (some k))), some (.inl i), some (.inr (.inr j)), some (.inl (nI x))], [], C a b, 0, 0) Q := by
    intro hlen m
    induction m with
    | zero =>
      intro x hx he
      simp only [u_X8_isNamed_0, u_X8_isNamed_1, u_X8_isNamed_4, u_X8_isNamed_5, u_X8_isNamed_9, u_X8_isNamed_15, u_X8_isNamed_16, u_X8_isNamed_17, u_X8_isNamed_18, u_X8_isNamed_19, u_X8_isNamed_20, u_X8_isNamed_21, u_X8_isNamed_27, u_X8_isNamed_28, u_X8_isNamed_31, u_X8_isNamed_32, u_X8_isNamed_33, u_X8_isNamed_37, u_X8_isNamed_38, u_X8_isNamed_44, u_X8_isNamed_45, u_X8_isNamed_46, u_X8_isNamed_49, u_X8_isNamed_52, u_X8_isNamed_53, sa_put, sa_sel, sa_split, so_aload, so_get, so_goto, so_iinc, so_iload, so_istore, so_push, so_svirt, so_virt, so_zret, sa_nth, sa_N8, hj, List.cons_append, List.nil_append, Nat.reduceEqDiff, Option.toList_none, Option.toList_some, if_false, if_true, reduceIte, sc_22, sc_23, or_true, true_or, z10, z00, true_imp_iff, false_imp_iff, not_false_eq_true, not_true_eq_false, true_and, and_true, Nat.zero_le, Nat.sub_zero, List.length_cons, List.length_nil, Nat.reduceAdd, Nat.reduceLT, Nat.reduceLeDiff]
      refine k_slen hj _ ?_
      simp only [u_X8_isNamed_0, u_X8_isNamed_1, u_X8_isNamed_4, u_X8_isNamed_5, u_X8_isNamed_9, u_X8_isNamed_15, u_X8_isNamed_16, u_X8_isNamed_17, u_X8_isNamed_18, u_X8_isNamed_19, u_X8_isNamed_20, u_X8_isNamed_21, u_X8_isNamed_24, u_X8_isNamed_27, u_X8_isNamed_28, u_X8_isNamed_31, u_X8_isNamed_32, u_X8_isNamed_33, u_X8_isNamed_37, u_X8_isNamed_38, u_X8_isNamed_44, u_X8_isNamed_45, u_X8_isNamed_46, u_X8_isNamed_49, u_X8_isNamed_52, u_X8_isNamed_53, sa_put, sa_sel, sa_split, so_aload, so_cmp, so_get, so_goto, so_iinc, so_iload, so_istore, so_push, so_svirt, so_virt, so_zret, sa_nth, sa_N8, hj, List.cons_append, List.nil_append, Nat.reduceEqDiff, Option.toList_none, Option.toList_some, if_false, if_true, reduceIte, sc_22, sc_23, or_true, true_or, z10, z00, true_imp_iff, false_imp_iff, not_false_eq_true, not_true_eq_false, true_and, and_true, Nat.zero_le, Nat.sub_zero, List.length_cons, List.length_nil, Nat.reduceAdd, Nat.reduceLT, Nat.reduceLeDiff]
      rw [nI_leI (by omega) (by omega)]
      refine ⟨fun q => ht ?_, fun q => absurd (by omega) q⟩
      rw [List.take_of_length_le (by omega), List.take_of_length_le (by omega)] at he
      exact he
    | succ m ih =>
      intro x hx he
      simp only [u_X8_isNamed_0, u_X8_isNamed_1, u_X8_isNamed_4, u_X8_isNamed_5, u_X8_isNamed_9, u_X8_isNamed_15, u_X8_isNamed_16, u_X8_isNamed_17, u_X8_isNamed_18, u_X8_isNamed_19, u_X8_isNamed_20, u_X8_isNamed_21, u_X8_isNamed_27, u_X8_isNamed_28, u_X8_isNamed_31, u_X8_isNamed_32, u_X8_isNamed_33, u_X8_isNamed_37, u_X8_isNamed_38, u_X8_isNamed_44, u_X8_isNamed_45, u_X8_isNamed_46, u_X8_isNamed_49, u_X8_isNamed_52, u_X8_isNamed_53, sa_put, sa_sel, sa_split, so_aload, so_get, so_goto, so_iinc, so_iload, so_istore, so_push, so_svirt, so_virt, so_zret, sa_nth, sa_N8, hj, List.cons_append, List.nil_append, Nat.reduceEqDiff, Option.toList_none, Option.toList_some, if_false, if_true, reduceIte, sc_22, sc_23, or_true, true_or, z10, z00, true_imp_iff, false_imp_iff, not_false_eq_true, not_true_eq_false, true_and, and_true, Nat.zero_le, Nat.sub_zero, List.length_cons, List.length_nil, Nat.reduceAdd, Nat.reduceLT, Nat.reduceLeDiff]
      refine k_slen hj _ ?_
      have hxl : x < (sT j).length := by omega
      have hxr : x < (sS_row N i).length := by omega
      rcases hc with rfl | rfl
      all_goals
        simp only [u_X8_isNamed_0, u_X8_isNamed_1, u_X8_isNamed_4, u_X8_isNamed_5, u_X8_isNamed_9, u_X8_isNamed_15, u_X8_isNamed_16, u_X8_isNamed_17, u_X8_isNamed_18, u_X8_isNamed_19, u_X8_isNamed_20, u_X8_isNamed_21, u_X8_isNamed_24, u_X8_isNamed_27, u_X8_isNamed_28, u_X8_isNamed_31, u_X8_isNamed_32, u_X8_isNamed_33, u_X8_isNamed_37, u_X8_isNamed_38, u_X8_isNamed_44, u_X8_isNamed_45, u_X8_isNamed_46, u_X8_isNamed_49, u_X8_isNamed_52, u_X8_isNamed_53, sa_put, sa_sel, sa_split, so_aload, so_cmp, so_get, so_goto, so_iinc, so_iload, so_istore, so_push, so_svirt, so_virt, so_zret, sa_nth, sa_N8, hj, h1, g1, List.cons_append, List.nil_append, Nat.reduceEqDiff, Option.toList_none, Option.toList_some, if_false, if_true, reduceIte, sc_22, sc_23, or_true, true_or, z10, z00, true_imp_iff, false_imp_iff, not_false_eq_true, not_true_eq_false, true_and, and_true, Nat.zero_le, Nat.sub_zero, List.length_cons, List.length_nil, Nat.reduceAdd, Nat.reduceLT, Nat.reduceLeDiff]
        rw [nI_leI (by omega) (by omega)]
        refine ⟨fun q => absurd q (by omega), fun q => ?_⟩
        refine k_X9_at (h2 b) hN i (nI x) ?_
        rw [sS_at_nI (by omega), List.getElem?_eq_getElem hxr, Option.getD_some]
        simp only [u_X8_isNamed_0, u_X8_isNamed_1, u_X8_isNamed_4, u_X8_isNamed_5, u_X8_isNamed_9, u_X8_isNamed_15, u_X8_isNamed_16, u_X8_isNamed_17, u_X8_isNamed_18, u_X8_isNamed_19, u_X8_isNamed_20, u_X8_isNamed_21, u_X8_isNamed_27, u_X8_isNamed_28, u_X8_isNamed_31, u_X8_isNamed_32, u_X8_isNamed_33, u_X8_isNamed_36, u_X8_isNamed_37, u_X8_isNamed_38, u_X8_isNamed_44, u_X8_isNamed_45, u_X8_isNamed_46, u_X8_isNamed_49, u_X8_isNamed_52, u_X8_isNamed_53, sa_put, sa_sel, sa_split, so_aload, so_get, so_goto, so_iinc, so_iload, so_istore, so_push, so_svirt, so_virt, so_zret, sa_nth, sa_N8, hj, List.cons_append, List.nil_append, Nat.reduceEqDiff, Option.toList_none, Option.toList_some, if_false, if_true, reduceIte, sc_22, sc_23, or_true, true_or, z10, z00, true_imp_iff, false_imp_iff, not_false_eq_true, not_true_eq_false, true_and, and_true, Nat.zero_le, Nat.sub_zero, List.length_cons, List.length_nil, Nat.reduceAdd, Nat.reduceLT, Nat.reduceLeDiff]
        refine k_schar hj (List.getElem?_eq_getElem hxl) _ ?_
        simp only [u_X8_isNamed_0, u_X8_isNamed_1, u_X8_isNamed_4, u_X8_isNamed_5, u_X8_isNamed_9, u_X8_isNamed_15, u_X8_isNamed_16, u_X8_isNamed_17, u_X8_isNamed_18, u_X8_isNamed_20, u_X8_isNamed_21, u_X8_isNamed_27, u_X8_isNamed_28, u_X8_isNamed_31, u_X8_isNamed_32, u_X8_isNamed_33, u_X8_isNamed_37, u_X8_isNamed_38, u_X8_isNamed_41, u_X8_isNamed_44, u_X8_isNamed_45, u_X8_isNamed_46, u_X8_isNamed_49, u_X8_isNamed_52, u_X8_isNamed_53, sa_put, sa_sel, sa_split, so_aload, so_cmp, so_get, so_goto, so_iinc, so_iload, so_istore, so_push, so_svirt, so_virt, so_zret, sa_nth, sa_N8, hj, List.cons_append, List.nil_append, Nat.reduceEqDiff, Option.toList_none, Option.toList_some, if_false, if_true, reduceIte, sc_22, sc_23, or_true, true_or, z10, z00, true_imp_iff, false_imp_iff, not_false_eq_true, not_true_eq_false, true_and, and_true, Nat.zero_le, Nat.sub_zero, List.length_cons, List.length_nil, Nat.reduceAdd, Nat.reduceLT, Nat.reduceLeDiff]
        refine ⟨fun q1 => ?_, fun q1 => hf (fun e => q1 ?_)⟩
        · rw [nI_1]
          refine ih (x + 1) (by omega) ?_
          rw [List.take_succ_eq_append_getElem hxl, List.take_succ_eq_append_getElem hxr, he, q1]
        · simp only [e]
  rcases id hc with rfl | rfl
  all_goals
    simp only [e_X8_isNamed, u_X8_isNamed_0, u_X8_isNamed_1, u_X8_isNamed_4, u_X8_isNamed_5, u_X8_isNamed_9, u_X8_isNamed_15, u_X8_isNamed_16, u_X8_isNamed_17, u_X8_isNamed_18, u_X8_isNamed_20, u_X8_isNamed_21, u_X8_isNamed_27, u_X8_isNamed_28, u_X8_isNamed_31, u_X8_isNamed_32, u_X8_isNamed_33, u_X8_isNamed_37, u_X8_isNamed_38, u_X8_isNamed_44, u_X8_isNamed_45, u_X8_isNamed_46, u_X8_isNamed_49, u_X8_isNamed_52, u_X8_isNamed_53, sa_put, sa_sel, sa_split, so_aload, so_get, so_goto, so_iinc, so_iload, so_istore, so_push, so_svirt, so_virt, so_zret, sa_nth, sa_N8, hj, h1, g1, List.cons_append, List.nil_append, Nat.reduceEqDiff, Option.toList_none, Option.toList_some, if_false, if_true, reduceIte, sc_22, sc_23, or_true, true_or, z10, z00, true_imp_iff, false_imp_iff, not_false_eq_true, not_true_eq_false, true_and, and_true, Nat.zero_le, Nat.sub_zero, List.length_cons, List.length_nil, Nat.reduceAdd, Nat.reduceLT, Nat.reduceLeDiff]
    refine k_X9_length (h2 b) hN i ?_
    simp only [u_X8_isNamed_0, u_X8_isNamed_1, u_X8_isNamed_4, u_X8_isNamed_5, u_X8_isNamed_8, u_X8_isNamed_9, u_X8_isNamed_15, u_X8_isNamed_16, u_X8_isNamed_17, u_X8_isNamed_18, u_X8_isNamed_20, u_X8_isNamed_21, u_X8_isNamed_27, u_X8_isNamed_28, u_X8_isNamed_31, u_X8_isNamed_32, u_X8_isNamed_33, u_X8_isNamed_37, u_X8_isNamed_38, u_X8_isNamed_44, u_X8_isNamed_45, u_X8_isNamed_46, u_X8_isNamed_49, u_X8_isNamed_52, u_X8_isNamed_53, sa_put, sa_sel, sa_split, so_aload, so_get, so_goto, so_iinc, so_iload, so_istore, so_push, so_svirt, so_virt, so_zret, sa_nth, sa_N8, hj, h1, g1, List.cons_append, List.nil_append, Nat.reduceEqDiff, Option.toList_none, Option.toList_some, if_false, if_true, reduceIte, sc_22, sc_23, or_true, true_or, z10, z00, true_imp_iff, false_imp_iff, not_false_eq_true, not_true_eq_false, true_and, and_true, Nat.zero_le, Nat.sub_zero, List.length_cons, List.length_nil, Nat.reduceAdd, Nat.reduceLT, Nat.reduceLeDiff]
    refine k_slen hj _ ?_
    simp only [u_X8_isNamed_0, u_X8_isNamed_1, u_X8_isNamed_4, u_X8_isNamed_5, u_X8_isNamed_9, u_X8_isNamed_12, u_X8_isNamed_15, u_X8_isNamed_16, u_X8_isNamed_17, u_X8_isNamed_18, u_X8_isNamed_20, u_X8_isNamed_21, u_X8_isNamed_27, u_X8_isNamed_28, u_X8_isNamed_31, u_X8_isNamed_32, u_X8_isNamed_33, u_X8_isNamed_37, u_X8_isNamed_38, u_X8_isNamed_44, u_X8_isNamed_45, u_X8_isNamed_46, u_X8_isNamed_49, u_X8_isNamed_52, u_X8_isNamed_53, sa_put, sa_sel, sa_split, so_aload, so_cmp, so_get, so_goto, so_iinc, so_iload, so_istore, so_push, so_svirt, so_virt, so_zret, sa_nth, sa_N8, hj, h1, g1, List.cons_append, List.nil_append, Nat.reduceEqDiff, Option.toList_none, Option.toList_some, if_false, if_true, reduceIte, sc_22, sc_23, or_true, true_or, z10, z00, true_imp_iff, false_imp_iff, not_false_eq_true, not_true_eq_false, true_and, and_true, Nat.zero_le, Nat.sub_zero, List.length_cons, List.length_nil, Nat.reduceAdd, Nat.reduceLT, Nat.reduceLeDiff]
    rw [nI_eq (by omega) (by omega)]
    exact ⟨fun q => loop q (sT j).length 0 (by omega) rfl, fun q => hf (fun e => q (by rw [e]))⟩
end SHN
abbrev gF : Type := sS_T × sS_T × (Nat → Int32)
def sF_L (C : gF → sa_H) : Prop := (∀ t, sH_L 3 1 2 3 4 12 240 5 6 7 12 720 [.inr (.inl (some 8))] (fun a b => C (a, b, t))) ∧ (∀ F, sa_nth (C F) 8 = some (.inl (.inl (12, F.2.2)))) ∧ (∀ F f, sa_put (C F) 8 (.inl (.inl (12, f))) = C (F.1, F.2.1, f))
def sF_R (F : gF) (N D : List (List Int32)) (T : List Int32) : Prop := sS_R 12 240 F.1 N ∧ sS_R 12 720 F.2.1 D ∧ D.length = N.length ∧ T.length = N.length ∧ ∀ i, i < T.length → T[i]? = some (F.2.2 i)
def sF_h (T : List Int32) (i : Int32) : Int32 := if i < 0 then i else match T[i.toNatClampNeg]? with
  | some t => if t = -1 then i else t
  | none => i
section FIL
variable {C : gF → sa_H} {F : gF} {N D : List (List Int32)} {T : List Int32} {Q : sa_Q}
theorem k_X3_holder (hL : sF_L C) (hR : sF_R F N D T) (i : Int32) (h : Q (some (.inl (sF_h T i))) (C F)) : ct_X3_holder 0 0 [.inr (.inl (some 1)), .inl i] (C F) Q := by
  have g1 : ∀ F, sa_nth (C F) 1 = some (.inr (3, [.inr (.inl (some 2)), .inr (.inl (some 5)), .inr (.inl (some 8))])) := fun F => (hL.1 F.2.2).2.1 F.1 F.2.1
  have g2 := hL.2.1
  obtain ⟨hN, hD, hl1, hl2, hT⟩ := hR
  have hb := hN.2.2.1
  simp only [e_X3_holder, u_X3_holder_0, u_X3_holder_1, u_X3_holder_2, u_X3_holder_8, u_X3_holder_9, u_X3_holder_10, u_X3_holder_13, u_X3_holder_14, u_X3_holder_17, u_X3_holder_18, u_X3_holder_21, u_X3_holder_22, u_X3_holder_23, u_X3_holder_24, u_X3_holder_27, u_X3_holder_28, u_X3_holder_31, u_X3_holder_32, u_X3_holder_33, u_X3_holder_36, u_X3_holder_37, sa_sel, sa_split, so_alen, so_aload, so_cmp, so_get, so_goto, so_iald, so_iload, so_iret, so_push, so_virt, sa_nth, g1, List.cons_append, List.nil_append, Nat.reduceEqDiff, Option.toList_none, Option.toList_some, if_false, if_true, reduceIte, sc_3, or_true, true_or, z10, z00, true_imp_iff, false_imp_iff, not_false_eq_true, not_true_eq_false, true_and, and_true, Nat.zero_le, Nat.sub_zero, List.length_cons, List.length_nil, Nat.reduceAdd, Nat.reduceLT, Nat.reduceLeDiff]
  refine k_X8_has (hL.1 F.2.2) hN i (fun j hj e => ?_) (fun q => ?_)
  · subst e
    simp only [u_X3_holder_0, u_X3_holder_1, u_X3_holder_2, u_X3_holder_5, u_X3_holder_8, u_X3_holder_9, u_X3_holder_10, u_X3_holder_13, u_X3_holder_14, u_X3_holder_17, u_X3_holder_18, u_X3_holder_21, u_X3_holder_22, u_X3_holder_23, u_X3_holder_24, u_X3_holder_27, u_X3_holder_28, u_X3_holder_31, u_X3_holder_32, u_X3_holder_33, u_X3_holder_36, u_X3_holder_37, sa_sel, sa_split, so_alen, so_aload, so_cmp, so_get, so_goto, so_iald, so_if, so_iload, so_iret, so_push, so_virt, sa_nth, g1, g2, List.cons_append, List.nil_append, Nat.reduceEqDiff, Option.toList_none, Option.toList_some, if_false, if_true, reduceIte, sc_3, or_true, true_or, z10, z00, true_imp_iff, false_imp_iff, not_false_eq_true, not_true_eq_false, true_and, and_true, Nat.zero_le, Nat.sub_zero, List.length_cons, List.length_nil, Nat.reduceAdd, Nat.reduceLT, Nat.reduceLeDiff]
    rw [show Int32.ofNat 12 = nI 12 from rfl]
    refine ⟨fun q => absurd q (nI_ge (by omega) (by omega)), fun q => ⟨vp_in_nI (by omega) (by omega), ?_⟩⟩
    rw [nI_clamp (by omega)]
    have hTj := hT j (by omega)
    unfold sF_h at h
    rw [if_neg (nI_pos (by omega)), nI_clamp (by omega), hTj] at h
    dsimp only at h
    refine ⟨fun q1 => ?_, fun q1 => ⟨vp_in_nI (by omega) (by omega), ?_⟩⟩
    · rw [if_pos q1] at h; exact h
    · rw [if_neg q1] at h; exact h
  · simp only [u_X3_holder_0, u_X3_holder_1, u_X3_holder_2, u_X3_holder_5, u_X3_holder_8, u_X3_holder_9, u_X3_holder_10, u_X3_holder_13, u_X3_holder_14, u_X3_holder_17, u_X3_holder_18, u_X3_holder_21, u_X3_holder_22, u_X3_holder_23, u_X3_holder_24, u_X3_holder_27, u_X3_holder_28, u_X3_holder_31, u_X3_holder_32, u_X3_holder_33, u_X3_holder_36, u_X3_holder_37, sa_sel, sa_split, so_alen, so_aload, so_cmp, so_get, so_goto, so_iald, so_if, so_iload, so_iret, so_push, so_virt, sa_nth, g1, g2, List.cons_append, List.nil_append, Nat.reduceEqDiff, Option.toList_none, Option.toList_some, if_false, if_true, reduceIte, sc_3, or_true, true_or, z10, z00, true_imp_iff, false_imp_iff, not_false_eq_true, not_true_eq_false, true_and, and_true, Nat.zero_le, Nat.sub_zero, List.length_cons, List.length_nil, Nat.reduceAdd, Nat.reduceLT, Nat.reduceLeDiff]
    have e : sF_h T i = i := by
      unfold sF_h
      split
      · rfl
      · next h0 =>
        obtain ⟨j, hj, rfl⟩ := nI_of h0
        rcases q with q | q
        · exact absurd q h0
        · rw [nI_leI (by omega) hj] at q
          rw [nI_clamp hj, List.getElem?_eq_none (by omega)]
    rw [e] at h; exact h
theorem k_X3_isLink (hL : sF_L C) (hR : sF_R F N D T) (i : Int32) (h1 : sF_h T i ≠ i → Q (some (.inl 1)) (C F)) (h0 : sF_h T i = i → Q (some (.inl 0)) (C F)) : ct_X3_isLink 0 0 [.inr (.inl (some 1)), .inl i] (C F) Q := by
  have g1 : ∀ F, sa_nth (C F) 1 = some (.inr (3, [.inr (.inl (some 2)), .inr (.inl (some 5)), .inr (.inl (some 8))])) := fun F => (hL.1 F.2.2).2.1 F.1 F.2.1
  simp only [e_X3_isLink, u_X3_isLink_0, u_X3_isLink_1, u_X3_isLink_2, u_X3_isLink_6, u_X3_isLink_9, u_X3_isLink_10, u_X3_isLink_13, u_X3_isLink_14, sa_sel, sa_split, so_aload, so_cmp, so_goto, so_iload, so_push, so_virt, so_zret, sa_nth, g1, List.cons_append, List.nil_append, Nat.reduceEqDiff, Option.toList_none, Option.toList_some, if_false, if_true, reduceIte, or_true, true_or, z10, z00, true_imp_iff, false_imp_iff, not_false_eq_true, not_true_eq_false, true_and, and_true, Nat.zero_le, Nat.sub_zero, List.length_cons, List.length_nil, Nat.reduceAdd, Nat.reduceLT, Nat.reduceLeDiff]
  refine k_X3_holder hL hR i ?_
  simp only [u_X3_isLink_0, u_X3_isLink_1, u_X3_isLink_2, u_X3_isLink_5, u_X3_isLink_6, u_X3_isLink_9, u_X3_isLink_10, u_X3_isLink_13, u_X3_isLink_14, sa_sel, sa_split, so_aload, so_cmp, so_goto, so_iload, so_push, so_virt, so_zret, sa_nth, List.cons_append, List.nil_append, Nat.reduceEqDiff, Option.toList_none, Option.toList_some, if_false, if_true, reduceIte, or_true, true_or, z10, z00, true_imp_iff, false_imp_iff, not_false_eq_true, not_true_eq_false, true_and, and_true, Nat.zero_le, Nat.sub_zero, List.length_cons, List.length_nil, Nat.reduceAdd, Nat.reduceLT, Nat.reduceLeDiff]
  exact ⟨h0, h1⟩
theorem k_X3_setTarget (hL : sF_L C) (hN : sS_R 12 240 F.1 N) (hne : N ≠ []) (v : Int32) (h : Q none (C (F.1, F.2.1, upd F.2.2 (N.length - 1) v))) : ct_X3_setTarget 0 0 [.inr (.inl (some 1)), .inl v] (C F) Q := by
  have g1 : ∀ F, sa_nth (C F) 1 = some (.inr (3, [.inr (.inl (some 2)), .inr (.inl (some 5)), .inr (.inl (some 8))])) := fun F => (hL.1 F.2.2).2.1 F.1 F.2.1
  have g2 := hL.2.1
  have g3 := hL.2.2
  have hp : 0 < N.length := List.length_pos_iff.mpr hne
  have hb := hN.2.2.1
  simp only [e_X3_setTarget, u_X3_setTarget_0, u_X3_setTarget_1, u_X3_setTarget_5, u_X3_setTarget_6, u_X3_setTarget_9, u_X3_setTarget_10, u_X3_setTarget_11, u_X3_setTarget_14, u_X3_setTarget_15, u_X3_setTarget_18, u_X3_setTarget_19, u_X3_setTarget_22, u_X3_setTarget_23, u_X3_setTarget_24, u_X3_setTarget_25, sa_put, sa_sel, sa_split, so_alen, so_aload, so_cmp, so_get, so_iast, so_if, so_iload, so_ret, so_virt, sa_nth, g1, List.cons_append, List.nil_append, Nat.reduceEqDiff, Option.toList_none, Option.toList_some, if_false, if_true, reduceIte, sc_3, or_true, true_or, z10, z00, true_imp_iff, false_imp_iff, not_false_eq_true, not_true_eq_false, true_and, and_true, Nat.zero_le, Nat.sub_zero, List.length_cons, List.length_nil, Nat.reduceAdd, Nat.reduceLT, Nat.reduceLeDiff]
  refine k_X8_last (hL.1 F.2.2) hN ?_
  simp only [u_X3_setTarget_0, u_X3_setTarget_1, u_X3_setTarget_4, u_X3_setTarget_5, u_X3_setTarget_6, u_X3_setTarget_9, u_X3_setTarget_10, u_X3_setTarget_11, u_X3_setTarget_14, u_X3_setTarget_15, u_X3_setTarget_18, u_X3_setTarget_19, u_X3_setTarget_22, u_X3_setTarget_23, u_X3_setTarget_24, u_X3_setTarget_25, sa_put, sa_sel, sa_split, so_alen, so_aload, so_cmp, so_get, so_iast, so_if, so_iload, so_istore, so_ret, so_virt, sa_nth, g1, g2, g3, List.cons_append, List.nil_append, Nat.reduceEqDiff, Option.toList_none, Option.toList_some, if_false, if_true, reduceIte, sc_3, or_true, true_or, z10, z00, true_imp_iff, false_imp_iff, not_false_eq_true, not_true_eq_false, true_and, and_true, Nat.zero_le, Nat.sub_zero, List.length_cons, List.length_nil, Nat.reduceAdd, Nat.reduceLT, Nat.reduceLeDiff]
  rw [nI_m1 _ hp, show Int32.ofNat 12 = nI 12 from rfl, nI_clamp (by omega)]
  exact ⟨fun q => absurd q (nI_pos (by omega)), fun _ => ⟨fun q => absurd q (nI_ge (by omega) (by omega)), fun _ => ⟨vp_in_nI (by omega) (by omega), h⟩⟩⟩
theorem k_X3_begin (hL : sF_L C) (hR : sF_R F N D T) (hlt : N.length < 12) (h : ∀ F', sF_R F' (N ++ [[]]) (D ++ [[]]) (T ++ [-1]) → Q none (C F')) : ct_X3_begin 0 0 [.inr (.inl (some 1))] (C F) Q := by
  have g1 : ∀ F, sa_nth (C F) 1 = some (.inr (3, [.inr (.inl (some 2)), .inr (.inl (some 5)), .inr (.inl (some 8))])) := fun F => (hL.1 F.2.2).2.1 F.1 F.2.1
  obtain ⟨hN, hD, hl1, hl2, hT⟩ := hR
  simp only [e_X3_begin, u_X3_begin_0, u_X3_begin_1, u_X3_begin_5, u_X3_begin_6, sa_sel, sa_split, so_aload, so_push, so_virt, sa_nth, g1, List.cons_append, List.nil_append, Nat.reduceEqDiff, Option.toList_none, Option.toList_some, if_false, if_true, reduceIte, or_true, true_or, z10, z00, true_imp_iff, false_imp_iff, not_false_eq_true, not_true_eq_false, true_and, and_true, Nat.zero_le, Nat.sub_zero, List.length_cons, List.length_nil, Nat.reduceAdd, Nat.reduceLT, Nat.reduceLeDiff]
  refine k_X8_addThing (hL.1 F.2.2) hN hD hlt (by omega) (fun a b ha hb => ?_)
  simp only [u_X3_begin_0, u_X3_begin_1, u_X3_begin_4, u_X3_begin_5, u_X3_begin_6, sa_sel, sa_split, so_aload, so_push, so_virt, sa_nth, g1, List.cons_append, List.nil_append, Nat.reduceEqDiff, Option.toList_none, Option.toList_some, if_false, if_true, reduceIte, or_true, true_or, z10, z00, true_imp_iff, false_imp_iff, not_false_eq_true, not_true_eq_false, true_and, and_true, Nat.zero_le, Nat.sub_zero, List.length_cons, List.length_nil, Nat.reduceAdd, Nat.reduceLT, Nat.reduceLeDiff]
  refine k_X3_setTarget hL (F := (a, b, F.2.2)) ha (by simp) _ ?_
  simp only [u_X3_begin_0, u_X3_begin_1, u_X3_begin_5, u_X3_begin_6, u_X3_begin_9, sa_sel, sa_split, so_aload, so_push, so_ret, so_virt, sa_nth, List.cons_append, List.nil_append, Nat.reduceEqDiff, Option.toList_none, Option.toList_some, if_false, if_true, reduceIte, or_true, true_or, z10, z00, true_imp_iff, false_imp_iff, not_false_eq_true, not_true_eq_false, true_and, and_true, Nat.zero_le, Nat.sub_zero, List.length_cons, List.length_nil, Nat.reduceAdd, Nat.reduceLT, Nat.reduceLeDiff]
  refine h _ ⟨ha, hb, by simp [hl1], by simp [hl2], fun i hi => ?_⟩
  simp at hi
  dsimp only
  simp only [List.length_append, List.length_cons, List.length_nil, Nat.zero_add, Nat.add_sub_cancel]
  by_cases hq : i = N.length
  · subst hq
    rw [pk_us, ← hl2]; simp
  · rw [pk_un hq, List.getElem?_append_left (by omega)]
    exact hT i (by omega)
theorem k_X3_linkLast (hL : sF_L C) (hR : sF_R F N D T) (hne : N ≠ []) (v : Int32) (h : ∀ F', sF_R F' N D (T.set (N.length - 1) v) → Q none (C F')) : ct_X3_linkLast 0 0 [.inr (.inl (some 1)), .inl v] (C F) Q := by
  have g1 : ∀ F, sa_nth (C F) 1 = some (.inr (3, [.inr (.inl (some 2)), .inr (.inl (some 5)), .inr (.inl (some 8))])) := fun F => (hL.1 F.2.2).2.1 F.1 F.2.1
  obtain ⟨hN, hD, hl1, hl2, hT⟩ := hR
  have hp : 0 < N.length := List.length_pos_iff.mpr hne
  simp only [e_X3_linkLast, u_X3_linkLast_0, u_X3_linkLast_1, u_X3_linkLast_2, sa_sel, sa_split, so_aload, so_iload, so_virt, sa_nth, g1, List.cons_append, List.nil_append, Nat.reduceEqDiff, Option.toList_none, Option.toList_some, if_false, if_true, reduceIte, or_true, true_or, z10, z00, true_imp_iff, false_imp_iff, not_false_eq_true, not_true_eq_false, true_and, and_true, Nat.zero_le, Nat.sub_zero, List.length_cons, List.length_nil, Nat.reduceAdd, Nat.reduceLT, Nat.reduceLeDiff]
  refine k_X3_setTarget hL hN hne _ ?_
  simp only [u_X3_linkLast_0, u_X3_linkLast_1, u_X3_linkLast_2, u_X3_linkLast_5, sa_sel, sa_split, so_aload, so_iload, so_ret, so_virt, sa_nth, List.cons_append, List.nil_append, Nat.reduceEqDiff, Option.toList_none, Option.toList_some, if_false, if_true, reduceIte, or_true, true_or, z10, z00, true_imp_iff, false_imp_iff, not_false_eq_true, not_true_eq_false, true_and, and_true, Nat.zero_le, Nat.sub_zero, List.length_cons, List.length_nil, Nat.reduceAdd, Nat.reduceLT, Nat.reduceLeDiff]
  refine h _ ⟨hN, hD, hl1, by simpa using hl2, fun i hi => ?_⟩
  simp at hi
  dsimp only
  rw [List.getElem?_set]
  by_cases hq : N.length - 1 = i
  · subst hq
    rw [pk_us]; simp; omega
  · rw [pk_un (Ne.symm hq), if_neg hq]
    exact hT i hi
theorem k_X3_endsUnnamed (hL : sF_L C) (hR : sF_R F N D T) (h1 : N ≠ [] → N.getLastD [] = [] → Q (some (.inl 1)) (C F)) (h0 : (N = [] ∨ N.getLastD [] ≠ []) → Q (some (.inl 0)) (C F)) : ct_X3_endsUnnamed 0 0 [.inr (.inl (some 1))] (C F) Q := by
  have g1 : ∀ F, sa_nth (C F) 1 = some (.inr (3, [.inr (.inl (some 2)), .inr (.inl (some 5)), .inr (.inl (some 8))])) := fun F => (hL.1 F.2.2).2.1 F.1 F.2.1
  obtain ⟨hN, hD, hl1, hl2, hT⟩ := hR
  have hb := hN.2.2.1
  have hb2 := hN.2.2.2.1
  simp only [e_X3_endsUnnamed, u_X3_endsUnnamed_0, u_X3_endsUnnamed_1, u_X3_endsUnnamed_7, u_X3_endsUnnamed_8, u_X3_endsUnnamed_9, u_X3_endsUnnamed_18, u_X3_endsUnnamed_19, u_X3_endsUnnamed_22, u_X3_endsUnnamed_23, sa_sel, sa_split, so_aload, so_goto, so_push, so_virt, so_zret, sa_nth, g1, List.cons_append, List.nil_append, Nat.reduceEqDiff, Option.toList_none, Option.toList_some, if_false, if_true, reduceIte, or_true, true_or, z10, z00, true_imp_iff, false_imp_iff, not_false_eq_true, not_true_eq_false, true_and, and_true, Nat.zero_le, Nat.sub_zero, List.length_cons, List.length_nil, Nat.reduceAdd, Nat.reduceLT, Nat.reduceLeDiff]
  refine k_X8_count (hL.1 F.2.2) hN ?_
  simp only [u_X3_endsUnnamed_0, u_X3_endsUnnamed_1, u_X3_endsUnnamed_4, u_X3_endsUnnamed_7, u_X3_endsUnnamed_8, u_X3_endsUnnamed_9, u_X3_endsUnnamed_18, u_X3_endsUnnamed_19, u_X3_endsUnnamed_22, u_X3_endsUnnamed_23, sa_sel, sa_split, so_aload, so_goto, so_if, so_push, so_virt, so_zret, sa_nth, g1, List.cons_append, List.nil_append, Nat.reduceEqDiff, Option.toList_none, Option.toList_some, if_false, if_true, reduceIte, or_true, true_or, z10, z00, true_imp_iff, false_imp_iff, not_false_eq_true, not_true_eq_false, true_and, and_true, Nat.zero_le, Nat.sub_zero, List.length_cons, List.length_nil, Nat.reduceAdd, Nat.reduceLT, Nat.reduceLeDiff]
  rcases Nat.eq_zero_or_pos N.length with hz | hp
  · refine ⟨fun _ => h0 (Or.inl (List.length_eq_zero_iff.mp hz)), fun q => absurd ?_ q⟩
    rw [hz]; decide
  · refine ⟨fun q => absurd q (nI_nle hp (by omega)), fun _ => ?_⟩
    refine k_X8_last (hL.1 F.2.2) hN ?_
    simp only [u_X3_endsUnnamed_0, u_X3_endsUnnamed_1, u_X3_endsUnnamed_7, u_X3_endsUnnamed_8, u_X3_endsUnnamed_9, u_X3_endsUnnamed_12, u_X3_endsUnnamed_18, u_X3_endsUnnamed_19, u_X3_endsUnnamed_22, u_X3_endsUnnamed_23, sa_sel, sa_split, so_aload, so_goto, so_push, so_virt, so_zret, sa_nth, g1, List.cons_append, List.nil_append, Nat.reduceEqDiff, Option.toList_none, Option.toList_some, if_false, if_true, reduceIte, or_true, true_or, z10, z00, true_imp_iff, false_imp_iff, not_false_eq_true, not_true_eq_false, true_and, and_true, Nat.zero_le, Nat.sub_zero, List.length_cons, List.length_nil, Nat.reduceAdd, Nat.reduceLT, Nat.reduceLeDiff]
    refine k_X8_nameLength (hL.1 F.2.2) hN _ ?_
    have hne : N ≠ [] := List.length_pos_iff.mp hp
    rw [nI_m1 _ hp, sS_row_nI (by omega)]
    have e : N.getD (N.length - 1) [] = N.getLastD [] := by
      rw [List.getD_eq_getElem?_getD, List.getLastD_eq_getLast?, List.getLast?_eq_getElem?]
    rw [e]
    simp only [u_X3_endsUnnamed_0, u_X3_endsUnnamed_1, u_X3_endsUnnamed_7, u_X3_endsUnnamed_8, u_X3_endsUnnamed_9, u_X3_endsUnnamed_15, u_X3_endsUnnamed_18, u_X3_endsUnnamed_19, u_X3_endsUnnamed_22, u_X3_endsUnnamed_23, sa_sel, sa_split, so_aload, so_goto, so_if, so_push, so_virt, so_zret, sa_nth, g1, List.cons_append, List.nil_append, Nat.reduceEqDiff, Option.toList_none, Option.toList_some, if_false, if_true, reduceIte, or_true, true_or, z10, z00, true_imp_iff, false_imp_iff, not_false_eq_true, not_true_eq_false, true_and, and_true, Nat.zero_le, Nat.sub_zero, List.length_cons, List.length_nil, Nat.reduceAdd, Nat.reduceLT, Nat.reduceLeDiff]
    have hll : (N.getLastD []).length ≤ N.flatten.length := by
      rw [← e]
      have := sS_pre N (N.length - 1) (by omega)
      have := sS_pre_le N (N.length - 1 + 1)
      omega
    refine ⟨fun q => h1 hne ?_, fun q => h0 (Or.inr (fun e2 => q ?_))⟩
    · have q2 := (nI_eq (a := (N.getLastD []).length) (b := 0) (by omega) (by omega)).mp q
      exact List.length_eq_zero_iff.mp q2
    · rw [e2]; rfl
end FIL
/-! FILES, what the forms ask of them -/
section FI2
variable {C : gF → sa_H} {F : gF} {N D : List (List Int32)} {T : List Int32} {Q : sa_Q}
theorem kF_contentsLength (hL : sF_L C) (hR : sF_R F N D T) (i : Int32) (h : Q (some (.inl (nI (sS_row D (sF_h T i)).length))) (C F)) : ct_X8_contentsLength 0 0 [.inr (.inl (some 1)), .inl i] (C F) Q := by
  have g1 : ∀ F, sa_nth (C F) 1 = some (.inr (3, [.inr (.inl (some 2)), .inr (.inl (some 5)), .inr (.inl (some 8))])) := fun F => (hL.1 F.2.2).2.1 F.1 F.2.1
  have g2 : ∀ F, sa_nth (C F) 5 = some (.inr (7, [.inr (.inl (some 7)), .inr (.inl (some 6)), .inl F.2.1.2.2.1, .inl F.2.1.2.2.2])) := fun F => ((hL.1 F.2.2).2.2.2 F.1).1 F.2.1
  simp only [e_X8_contentsLength, u_X8_contentsLength_0, u_X8_contentsLength_1, u_X8_contentsLength_4, u_X8_contentsLength_5, u_X8_contentsLength_6, sa_sel, sa_split, so_aload, so_get, so_iload, so_virt, sa_nth, g1, List.cons_append, List.nil_append, Nat.reduceEqDiff, Option.toList_none, Option.toList_some, if_false, if_true, reduceIte, sc_22, sc_23, or_true, true_or, z10, z00, true_imp_iff, false_imp_iff, not_false_eq_true, not_true_eq_false, true_and, and_true, Nat.zero_le, Nat.sub_zero, List.length_cons, List.length_nil, Nat.reduceAdd, Nat.reduceLT, Nat.reduceLeDiff]
  refine k_X3_holder hL hR i ?_
  simp only [u_X8_contentsLength_0, u_X8_contentsLength_1, u_X8_contentsLength_4, u_X8_contentsLength_5, u_X8_contentsLength_6, u_X8_contentsLength_9, sa_sel, sa_split, so_aload, so_get, so_iload, so_virt, sa_nth, g2, List.cons_append, List.nil_append, Nat.reduceEqDiff, Option.toList_none, Option.toList_some, if_false, if_true, reduceIte, sc_22, sc_23, or_true, true_or, z10, z00, true_imp_iff, false_imp_iff, not_false_eq_true, not_true_eq_false, true_and, and_true, Nat.zero_le, Nat.sub_zero, List.length_cons, List.length_nil, Nat.reduceAdd, Nat.reduceLT, Nat.reduceLeDiff]
  refine k_X9_length ((hL.1 F.2.2).2.2.2 F.1) hR.2.1 _ ?_
  simp only [u_X8_contentsLength_0, u_X8_contentsLength_1, u_X8_contentsLength_4, u_X8_contentsLength_5, u_X8_contentsLength_6, u_X8_contentsLength_12, sa_sel, sa_split, so_aload, so_get, so_iload, so_iret, so_virt, sa_nth, List.cons_append, List.nil_append, Nat.reduceEqDiff, Option.toList_none, Option.toList_some, if_false, if_true, reduceIte, sc_22, sc_23, or_true, true_or, z10, z00, true_imp_iff, false_imp_iff, not_false_eq_true, not_true_eq_false, true_and, and_true, Nat.zero_le, Nat.sub_zero, List.length_cons, List.length_nil, Nat.reduceAdd, Nat.reduceLT, Nat.reduceLeDiff]
  exact h
theorem kF_contentsByte (hL : sF_L C) (hR : sF_R F N D T) (i x : Int32) (h : Q (some (.inl (sS_at (sS_row D (sF_h T i)) x))) (C F)) : ct_X8_contentsByte 0 0 [.inr (.inl (some 1)), .inl i, .inl x] (C F) Q := by
  have g1 : ∀ F, sa_nth (C F) 1 = some (.inr (3, [.inr (.inl (some 2)), .inr (.inl (some 5)), .inr (.inl (some 8))])) := fun F => (hL.1 F.2.2).2.1 F.1 F.2.1
  have g2 : ∀ F, sa_nth (C F) 5 = some (.inr (7, [.inr (.inl (some 7)), .inr (.inl (some 6)), .inl F.2.1.2.2.1, .inl F.2.1.2.2.2])) := fun F => ((hL.1 F.2.2).2.2.2 F.1).1 F.2.1
  simp only [e_X8_contentsByte, u_X8_contentsByte_0, u_X8_contentsByte_1, u_X8_contentsByte_4, u_X8_contentsByte_5, u_X8_contentsByte_6, u_X8_contentsByte_10, sa_sel, sa_split, so_aload, so_get, so_iload, so_virt, sa_nth, g1, List.cons_append, List.nil_append, Nat.reduceEqDiff, Option.toList_none, Option.toList_some, if_false, if_true, reduceIte, sc_22, sc_23, or_true, true_or, z10, z00, true_imp_iff, false_imp_iff, not_false_eq_true, not_true_eq_false, true_and, and_true, Nat.zero_le, Nat.sub_zero, List.length_cons, List.length_nil, Nat.reduceAdd, Nat.reduceLT, Nat.reduceLeDiff]
  refine k_X3_holder hL hR i ?_
  simp only [u_X8_contentsByte_0, u_X8_contentsByte_1, u_X8_contentsByte_4, u_X8_contentsByte_5, u_X8_contentsByte_6, u_X8_contentsByte_9, u_X8_contentsByte_10, sa_sel, sa_split, so_aload, so_get, so_iload, so_virt, sa_nth, g2, List.cons_append, List.nil_append, Nat.reduceEqDiff, Option.toList_none, Option.toList_some, if_false, if_true, reduceIte, sc_22, sc_23, or_true, true_or, z10, z00, true_imp_iff, false_imp_iff, not_false_eq_true, not_true_eq_false, true_and, and_true, Nat.zero_le, Nat.sub_zero, List.length_cons, List.length_nil, Nat.reduceAdd, Nat.reduceLT, Nat.reduceLeDiff]
  refine k_X9_at ((hL.1 F.2.2).2.2.2 F.1) hR.2.1 _ _ ?_
  simp only [u_X8_contentsByte_0, u_X8_contentsByte_1, u_X8_contentsByte_4, u_X8_contentsByte_5, u_X8_contentsByte_6, u_X8_contentsByte_10, u_X8_contentsByte_13, sa_sel, sa_split, so_aload, so_get, so_iload, so_iret, so_virt, sa_nth, List.cons_append, List.nil_append, Nat.reduceEqDiff, Option.toList_none, Option.toList_some, if_false, if_true, reduceIte, sc_22, sc_23, or_true, true_or, z10, z00, true_imp_iff, false_imp_iff, not_false_eq_true, not_true_eq_false, true_and, and_true, Nat.zero_le, Nat.sub_zero, List.length_cons, List.length_nil, Nat.reduceAdd, Nat.reduceLT, Nat.reduceLeDiff]
  exact h
/-- the sum of a row of ints -/
def sm_of (l : List Int32) : Int32 := l.foldl (· + ·) 0
theorem sS_row_le {ns nc : Nat} {r : sS_T} {L : List (List Int32)} (hR : sS_R ns nc r L) (i : Int32) : (sS_row L i).length ≤ nc := by
  have hb2 := hR.2.2.2.1
  unfold sS_row
  split
  · simp
  · by_cases hi : i.toNatClampNeg < L.length
    · have := sS_pre L _ hi
      have := sS_pre_le L (i.toNatClampNeg + 1)
      omega
    · rw [List.getD_eq_getElem?_getD, List.getElem?_eq_none (by omega)]; simp
theorem kF_contentsSum (hL : sF_L C) (hR : sF_R F N D T) (i : Int32) (h : Q (some (.inl (sm_of (sS_row D (sF_h T i)) &&& 65535))) (C F)) : ct_X8_contentsSum 0 0 [.inr (.inl (some 1)), .inl i] (C F) Q := by
  have g1 : ∀ F, sa_nth (C F) 1 = some (.inr (3, [.inr (.inl (some 2)), .inr (.inl (some 5)), .inr (.inl (some 8))])) := fun F => (hL.1 F.2.2).2.1 F.1 F.2.1
  have g2 : ∀ F, sa_nth (C F) 5 = some (.inr (7, [.inr (.inl (some 7)), .inr (.inl (some 6)), .inl F.2.1.2.2.1, .inl F.2.1.2.2.2])) := fun F => ((hL.1 F.2.2).2.2.2 F.1).1 F.2.1
  have hle := sS_row_le hR.2.1 (sF_h T i)
  generalize hro : sS_row D (sF_h T i) = l at h hle
  have loop : ∀ (m x : Nat), x + m = l.length → sa_w tb_X8_contentsSum (11, [some (.inr (.inl (some 1))), some (.inl i), some (.inl (sF_h T i)), some (.inl (sm_of (l.take x))), some (.inl (nI x))], [], C F, 0, 0) Q := by
    intro m
    induction m with
    | zero =>
      intro x hx
      simp only [u_X8_contentsSum_0, u_X8_contentsSum_1, u_X8_contentsSum_2, u_X8_contentsSum_6, u_X8_contentsSum_7, u_X8_contentsSum_8, u_X8_contentsSum_9, u_X8_contentsSum_11, u_X8_contentsSum_13, u_X8_contentsSum_14, u_X8_contentsSum_17, u_X8_contentsSum_18, u_X8_contentsSum_24, u_X8_contentsSum_25, u_X8_contentsSum_26, u_X8_contentsSum_29, u_X8_contentsSum_30, u_X8_contentsSum_32, u_X8_contentsSum_36, u_X8_contentsSum_37, u_X8_contentsSum_40, u_X8_contentsSum_43, u_X8_contentsSum_44, u_X8_contentsSum_46, u_X8_contentsSum_47, sa_put, sa_sel, sa_split, so_aload, so_bin, so_get, so_goto, so_iinc, so_iload, so_iret, so_istore, so_push, so_virt, sa_nth, g1, g2, List.cons_append, List.nil_append, Nat.reduceEqDiff, Option.toList_none, Option.toList_some, if_false, if_true, reduceIte, sc_22, sc_23, or_true, true_or, z10, z00, true_imp_iff, false_imp_iff, not_false_eq_true, not_true_eq_false, true_and, and_true, Nat.zero_le, Nat.sub_zero, List.length_cons, List.length_nil, Nat.reduceAdd, Nat.reduceLT, Nat.reduceLeDiff]
      refine k_X9_length ((hL.1 F.2.2).2.2.2 F.1) hR.2.1 _ ?_
      rw [hro]
      simp only [u_X8_contentsSum_0, u_X8_contentsSum_1, u_X8_contentsSum_2, u_X8_contentsSum_6, u_X8_contentsSum_7, u_X8_contentsSum_8, u_X8_contentsSum_9, u_X8_contentsSum_13, u_X8_contentsSum_14, u_X8_contentsSum_17, u_X8_contentsSum_18, u_X8_contentsSum_21, u_X8_contentsSum_24, u_X8_contentsSum_25, u_X8_contentsSum_26, u_X8_contentsSum_29, u_X8_contentsSum_30, u_X8_contentsSum_32, u_X8_contentsSum_36, u_X8_contentsSum_37, u_X8_contentsSum_40, u_X8_contentsSum_43, u_X8_contentsSum_44, u_X8_contentsSum_46, u_X8_contentsSum_47, sa_put, sa_sel, sa_split, so_aload, so_bin, so_cmp, so_get, so_goto, so_iinc, so_iload, so_iret, so_istore, so_push, so_virt, sa_nth, g1, g2, List.cons_append, List.nil_append, Nat.reduceEqDiff, Option.toList_none, Option.toList_some, if_false, if_true, reduceIte, sc_22, sc_23, or_true, true_or, z10, z00, true_imp_iff, false_imp_iff, not_false_eq_true, not_true_eq_false, true_and, and_true, Nat.zero_le, Nat.sub_zero, List.length_cons, List.length_nil, Nat.reduceAdd, Nat.reduceLT, Nat.reduceLeDiff]
      rw [nI_leI (by omega) (by omega)]
      refine ⟨fun _ => ?_, fun q => absurd (by omega) q⟩
      rw [List.take_of_length_le (by omega)]
      exact h
    | succ m ih =>
      intro x hx
      have hxl : x < l.length := by omega
      simp only [u_X8_contentsSum_0, u_X8_contentsSum_1, u_X8_contentsSum_2, u_X8_contentsSum_6, u_X8_contentsSum_7, u_X8_contentsSum_8, u_X8_contentsSum_9, u_X8_contentsSum_11, u_X8_contentsSum_13, u_X8_contentsSum_14, u_X8_contentsSum_17, u_X8_contentsSum_18, u_X8_contentsSum_24, u_X8_contentsSum_25, u_X8_contentsSum_26, u_X8_contentsSum_29, u_X8_contentsSum_30, u_X8_contentsSum_32, u_X8_contentsSum_36, u_X8_contentsSum_37, u_X8_contentsSum_40, u_X8_contentsSum_43, u_X8_contentsSum_44, u_X8_contentsSum_46, u_X8_contentsSum_47, sa_put, sa_sel, sa_split, so_aload, so_bin, so_get, so_goto, so_iinc, so_iload, so_iret, so_istore, so_push, so_virt, sa_nth, g1, g2, List.cons_append, List.nil_append, Nat.reduceEqDiff, Option.toList_none, Option.toList_some, if_false, if_true, reduceIte, sc_22, sc_23, or_true, true_or, z10, z00, true_imp_iff, false_imp_iff, not_false_eq_true, not_true_eq_false, true_and, and_true, Nat.zero_le, Nat.sub_zero, List.length_cons, List.length_nil, Nat.reduceAdd, Nat.reduceLT, Nat.reduceLeDiff]
      refine k_X9_length ((hL.1 F.2.2).2.2.2 F.1) hR.2.1 _ ?_
      rw [hro]
      simp only [u_X8_contentsSum_0, u_X8_contentsSum_1, u_X8_contentsSum_2, u_X8_contentsSum_6, u_X8_contentsSum_7, u_X8_contentsSum_8, u_X8_contentsSum_9, u_X8_contentsSum_13, u_X8_contentsSum_14, u_X8_contentsSum_17, u_X8_contentsSum_18, u_X8_contentsSum_21, u_X8_contentsSum_24, u_X8_contentsSum_25, u_X8_contentsSum_26, u_X8_contentsSum_29, u_X8_contentsSum_30, u_X8_contentsSum_32, u_X8_contentsSum_36, u_X8_contentsSum_37, u_X8_contentsSum_40, u_X8_contentsSum_43, u_X8_contentsSum_44, u_X8_contentsSum_46, u_X8_contentsSum_47, sa_put, sa_sel, sa_split, so_aload, so_bin, so_cmp, so_get, so_goto, so_iinc, so_iload, so_iret, so_istore, so_push, so_virt, sa_nth, g1, g2, List.cons_append, List.nil_append, Nat.reduceEqDiff, Option.toList_none, Option.toList_some, if_false, if_true, reduceIte, sc_22, sc_23, or_true, true_or, z10, z00, true_imp_iff, false_imp_iff, not_false_eq_true, not_true_eq_false, true_and, and_true, Nat.zero_le, Nat.sub_zero, List.length_cons, List.length_nil, Nat.reduceAdd, Nat.reduceLT, Nat.reduceLeDiff]
      rw [nI_leI (by omega) (by omega)]
      refine ⟨fun q => absurd q (by omega), fun _ => ?_⟩
      refine k_X9_at ((hL.1 F.2.2).2.2.2 F.1) hR.2.1 _ _ ?_
      rw [hro, sS_at_nI (by omega), List.getElem?_eq_getElem hxl, Option.getD_some]
      simp only [u_X8_contentsSum_0, u_X8_contentsSum_1, u_X8_contentsSum_2, u_X8_contentsSum_6, u_X8_contentsSum_7, u_X8_contentsSum_8, u_X8_contentsSum_9, u_X8_contentsSum_13, u_X8_contentsSum_14, u_X8_contentsSum_17, u_X8_contentsSum_18, u_X8_contentsSum_24, u_X8_contentsSum_25, u_X8_contentsSum_26, u_X8_contentsSum_29, u_X8_contentsSum_30, u_X8_contentsSum_32, u_X8_contentsSum_35, u_X8_contentsSum_36, u_X8_contentsSum_37, u_X8_contentsSum_40, u_X8_contentsSum_43, u_X8_contentsSum_44, u_X8_contentsSum_46, u_X8_contentsSum_47, sa_put, sa_sel, sa_split, so_aload, so_bin, so_get, so_goto, so_iinc, so_iload, so_iret, so_istore, so_push, so_virt, sa_nth, g1, g2, List.cons_append, List.nil_append, Nat.reduceEqDiff, Option.toList_none, Option.toList_some, if_false, if_true, reduceIte, sc_22, sc_23, or_true, true_or, z10, z00, true_imp_iff, false_imp_iff, not_false_eq_true, not_true_eq_false, true_and, and_true, Nat.zero_le, Nat.sub_zero, List.length_cons, List.length_nil, Nat.reduceAdd, Nat.reduceLT, Nat.reduceLeDiff]
      rw [nI_1]
      have e : sm_of (l.take x) + l[x] = sm_of (l.take (x + 1)) := by
        rw [List.take_succ_eq_append_getElem hxl]
        unfold sm_of
        rw [List.foldl_append]; rfl
      rw [e]
      exact ih (x + 1) (by omega)
  simp only [e_X8_contentsSum, u_X8_contentsSum_0, u_X8_contentsSum_1, u_X8_contentsSum_2, u_X8_contentsSum_6, u_X8_contentsSum_7, u_X8_contentsSum_8, u_X8_contentsSum_9, u_X8_contentsSum_11, u_X8_contentsSum_13, u_X8_contentsSum_14, u_X8_contentsSum_17, u_X8_contentsSum_18, u_X8_contentsSum_24, u_X8_contentsSum_25, u_X8_contentsSum_26, u_X8_contentsSum_29, u_X8_contentsSum_30, u_X8_contentsSum_32, u_X8_contentsSum_36, u_X8_contentsSum_37, u_X8_contentsSum_40, u_X8_contentsSum_43, u_X8_contentsSum_44, u_X8_contentsSum_46, u_X8_contentsSum_47, sa_put, sa_sel, sa_split, so_aload, so_bin, so_get, so_goto, so_iinc, so_iload, so_iret, so_istore, so_push, so_virt, sa_nth, g1, List.cons_append, List.nil_append, Nat.reduceEqDiff, Option.toList_none, Option.toList_some, if_false, if_true, reduceIte, sc_22, sc_23, or_true, true_or, z10, z00, true_imp_iff, false_imp_iff, not_false_eq_true, not_true_eq_false, true_and, and_true, Nat.zero_le, Nat.sub_zero, List.length_cons, List.length_nil, Nat.reduceAdd, Nat.reduceLT, Nat.reduceLeDiff]
  refine k_X3_holder hL hR i ?_
  simp only [u_X8_contentsSum_0, u_X8_contentsSum_1, u_X8_contentsSum_2, u_X8_contentsSum_5, u_X8_contentsSum_6, u_X8_contentsSum_7, u_X8_contentsSum_8, u_X8_contentsSum_9, u_X8_contentsSum_13, u_X8_contentsSum_14, u_X8_contentsSum_17, u_X8_contentsSum_18, u_X8_contentsSum_24, u_X8_contentsSum_25, u_X8_contentsSum_26, u_X8_contentsSum_29, u_X8_contentsSum_30, u_X8_contentsSum_32, u_X8_contentsSum_36, u_X8_contentsSum_37, u_X8_contentsSum_40, u_X8_contentsSum_43, u_X8_contentsSum_44, u_X8_contentsSum_46, u_X8_contentsSum_47, sa_put, sa_sel, sa_split, so_aload, so_bin, so_get, so_goto, so_iinc, so_iload, so_iret, so_istore, so_push, so_virt, sa_nth, g1, List.cons_append, List.nil_append, Nat.reduceEqDiff, Option.toList_none, Option.toList_some, if_false, if_true, reduceIte, sc_22, sc_23, or_true, true_or, z10, z00, true_imp_iff, false_imp_iff, not_false_eq_true, not_true_eq_false, true_and, and_true, Nat.zero_le, Nat.sub_zero, List.length_cons, List.length_nil, Nat.reduceAdd, Nat.reduceLT, Nat.reduceLeDiff]
  exact loop l.length 0 (by omega)
theorem k_X3_hasTrailer (hL : sF_L C) (hR : sF_R F N D T) (h1 : sT 0 ∈ N → Q (some (.inl 1)) (C F)) (h0 : sT 0 ∉ N → Q (some (.inl 0)) (C F)) : ct_X3_hasTrailer 0 0 [.inr (.inl (some 1))] (C F) Q := by
  have g1 : ∀ F, sa_nth (C F) 1 = some (.inr (3, [.inr (.inl (some 2)), .inr (.inl (some 5)), .inr (.inl (some 8))])) := fun F => (hL.1 F.2.2).2.1 F.1 F.2.1
  obtain ⟨hN, hD, hl1, hl2, hT⟩ := hR
  have hb := hN.2.2.1
  have loop : ∀ (m x : Nat), x + m = N.length → sT 0 ∉ N.take x → sa_w tb_X3_hasTrailer (2, [some (.inr (.inl (some 1))), some (.inl (nI x))], [], C F, 0, 0) Q := by
    intro m
    induction m with
    | zero =>
      intro x hx he
      simp only [u_X3_hasTrailer_0, u_X3_hasTrailer_1, u_X3_hasTrailer_2, u_X3_hasTrailer_3, u_X3_hasTrailer_4, u_X3_hasTrailer_10, u_X3_hasTrailer_11, u_X3_hasTrailer_12, u_X3_hasTrailer_14, u_X3_hasTrailer_20, u_X3_hasTrailer_21, u_X3_hasTrailer_22, u_X3_hasTrailer_25, u_X3_hasTrailer_28, u_X3_hasTrailer_29, sa_put, sa_sel, sa_split, so_aload, so_goto, so_iinc, so_iload, so_istore, so_push, so_virt, so_zret, sa_nth, g1, List.cons_append, List.nil_append, Nat.reduceEqDiff, Option.toList_none, Option.toList_some, if_false, if_true, reduceIte, or_true, true_or, z10, z00, true_imp_iff, false_imp_iff, not_false_eq_true, not_true_eq_false, true_and, and_true, Nat.zero_le, Nat.sub_zero, List.length_cons, List.length_nil, Nat.reduceAdd, Nat.reduceLT, Nat.reduceLeDiff]
      refine k_X8_count (hL.1 F.2.2) hN ?_
      simp only [u_X3_hasTrailer_0, u_X3_hasTrailer_1, u_X3_hasTrailer_3, u_X3_hasTrailer_4, u_X3_hasTrailer_7, u_X3_hasTrailer_10, u_X3_hasTrailer_11, u_X3_hasTrailer_12, u_X3_hasTrailer_14, u_X3_hasTrailer_20, u_X3_hasTrailer_21, u_X3_hasTrailer_22, u_X3_hasTrailer_25, u_X3_hasTrailer_28, u_X3_hasTrailer_29, sa_put, sa_sel, sa_split, so_aload, so_cmp, so_goto, so_iinc, so_iload, so_istore, so_push, so_virt, so_zret, sa_nth, g1, List.cons_append, List.nil_append, Nat.reduceEqDiff, Option.toList_none, Option.toList_some, if_false, if_true, reduceIte, or_true, true_or, z10, z00, true_imp_iff, false_imp_iff, not_false_eq_true, not_true_eq_false, true_and, and_true, Nat.zero_le, Nat.sub_zero, List.length_cons, List.length_nil, Nat.reduceAdd, Nat.reduceLT, Nat.reduceLeDiff]
      rw [nI_leI (by omega) (by omega)]
      refine ⟨fun _ => h0 ?_, fun q => absurd (by omega) q⟩
      rw [List.take_of_length_le (by omega)] at he
      exact he
    | succ m ih =>
      intro x hx he
      have hxl : x < N.length := by omega
      simp only [u_X3_hasTrailer_0, u_X3_hasTrailer_1, u_X3_hasTrailer_2, u_X3_hasTrailer_3, u_X3_hasTrailer_4, u_X3_hasTrailer_10, u_X3_hasTrailer_11, u_X3_hasTrailer_12, u_X3_hasTrailer_14, u_X3_hasTrailer_20, u_X3_hasTrailer_21, u_X3_hasTrailer_22, u_X3_hasTrailer_25, u_X3_hasTrailer_28, u_X3_hasTrailer_29, sa_put, sa_sel, sa_split, so_aload, so_goto, so_iinc, so_iload, so_istore, so_push, so_virt, so_zret, sa_nth, g1, List.cons_append, List.nil_append, Nat.reduceEqDiff, Option.toList_none, Option.toList_some, if_false, if_true, reduceIte, or_true, true_or, z10, z00, true_imp_iff, false_imp_iff, not_false_eq_true, not_true_eq_false, true_and, and_true, Nat.zero_le, Nat.sub_zero, List.length_cons, List.length_nil, Nat.reduceAdd, Nat.reduceLT, Nat.reduceLeDiff]
      refine k_X8_count (hL.1 F.2.2) hN ?_
      simp only [u_X3_hasTrailer_0, u_X3_hasTrailer_1, u_X3_hasTrailer_3, u_X3_hasTrailer_4, u_X3_hasTrailer_7, u_X3_hasTrailer_10, u_X3_hasTrailer_11, u_X3_hasTrailer_12, u_X3_hasTrailer_14, u_X3_hasTrailer_20, u_X3_hasTrailer_21, u_X3_hasTrailer_22, u_X3_hasTrailer_25, u_X3_hasTrailer_28, u_X3_hasTrailer_29, sa_put, sa_sel, sa_split, so_aload, so_cmp, so_goto, so_iinc, so_iload, so_istore, so_push, so_virt, so_zret, sa_nth, g1, List.cons_append, List.nil_append, Nat.reduceEqDiff, Option.toList_none, Option.toList_some, if_false, if_true, reduceIte, or_true, true_or, z10, z00, true_imp_iff, false_imp_iff, not_false_eq_true, not_true_eq_false, true_and, and_true, Nat.zero_le, Nat.sub_zero, List.length_cons, List.length_nil, Nat.reduceAdd, Nat.reduceLT, Nat.reduceLeDiff]
      rw [nI_leI (by omega) (by omega)]
      refine ⟨fun q => absurd q (by omega), fun _ => ?_⟩
      have e : sS_row N (nI x) = N[x] := by
        rw [sS_row_nI (by omega), List.getD_eq_getElem?_getD, List.getElem?_eq_getElem hxl]; rfl
      refine k_X8_isNamed (hL.1 F.2.2) hN (nI x) (by decide) (fun q => ?_) (fun q => ?_)
      · simp only [u_X3_hasTrailer_0, u_X3_hasTrailer_1, u_X3_hasTrailer_3, u_X3_hasTrailer_4, u_X3_hasTrailer_10, u_X3_hasTrailer_11, u_X3_hasTrailer_12, u_X3_hasTrailer_14, u_X3_hasTrailer_17, u_X3_hasTrailer_20, u_X3_hasTrailer_21, u_X3_hasTrailer_22, u_X3_hasTrailer_25, u_X3_hasTrailer_28, u_X3_hasTrailer_29, sa_put, sa_sel, sa_split, so_aload, so_goto, so_if, so_iinc, so_iload, so_istore, so_push, so_virt, so_zret, sa_nth, g1, List.cons_append, List.nil_append, Nat.reduceEqDiff, Option.toList_none, Option.toList_some, if_false, if_true, reduceIte, or_true, true_or, z10, z00, true_imp_iff, false_imp_iff, not_false_eq_true, not_true_eq_false, true_and, and_true, Nat.zero_le, Nat.sub_zero, List.length_cons, List.length_nil, Nat.reduceAdd, Nat.reduceLT, Nat.reduceLeDiff]
        refine h1 ?_
        rw [e] at q
        rw [← q]
        exact List.getElem_mem hxl
      · simp only [u_X3_hasTrailer_0, u_X3_hasTrailer_1, u_X3_hasTrailer_3, u_X3_hasTrailer_4, u_X3_hasTrailer_10, u_X3_hasTrailer_11, u_X3_hasTrailer_12, u_X3_hasTrailer_14, u_X3_hasTrailer_17, u_X3_hasTrailer_20, u_X3_hasTrailer_21, u_X3_hasTrailer_22, u_X3_hasTrailer_25, u_X3_hasTrailer_28, u_X3_hasTrailer_29, sa_put, sa_sel, sa_split, so_aload, so_goto, so_if, so_iinc, so_iload, so_istore, so_push, so_virt, so_zret, sa_nth, g1, List.cons_append, List.nil_append, Nat.reduceEqDiff, Option.toList_none, Option.toList_some, if_false, if_true, reduceIte, or_true, true_or, z10, z00, true_imp_iff, false_imp_iff, not_false_eq_true, not_true_eq_false, true_and, and_true, Nat.zero_le, Nat.sub_zero, List.length_cons, List.length_nil, Nat.reduceAdd, Nat.reduceLT, Nat.reduceLeDiff]
        rw [nI_1]
        refine ih (x + 1) (by omega) ?_
        rw [List.take_succ_eq_append_getElem hxl]
        rw [e] at q
        intro hm
        rcases List.mem_append.mp hm with hm | hm
        · exact he hm
        · simp at hm; exact q hm.symm
  simp only [e_X3_hasTrailer, u_X3_hasTrailer_0, u_X3_hasTrailer_1, u_X3_hasTrailer_3, u_X3_hasTrailer_4, u_X3_hasTrailer_10, u_X3_hasTrailer_11, u_X3_hasTrailer_12, u_X3_hasTrailer_14, u_X3_hasTrailer_20, u_X3_hasTrailer_21, u_X3_hasTrailer_22, u_X3_hasTrailer_25, u_X3_hasTrailer_28, u_X3_hasTrailer_29, sa_put, sa_sel, sa_split, so_aload, so_goto, so_iinc, so_iload, so_istore, so_push, so_virt, so_zret, sa_nth, g1, List.cons_append, List.nil_append, Nat.reduceEqDiff, Option.toList_none, Option.toList_some, if_false, if_true, reduceIte, or_true, true_or, z10, z00, true_imp_iff, false_imp_iff, not_false_eq_true, not_true_eq_false, true_and, and_true, Nat.zero_le, Nat.sub_zero, List.length_cons, List.length_nil, Nat.reduceAdd, Nat.reduceLT, Nat.reduceLeDiff]
  exact loop N.length 0 (by omega) (by simp)
end FI2
