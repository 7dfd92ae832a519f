/-! WRITING: figures, names, contents into a row of bytes -/
def dg (v u : Nat) : Int32 := nI (48 + v / u % 10)
def figs (v : Nat) : List Int32 := (if 1000 ≤ v then [dg v 1000] else []) ++ (if 100 ≤ v then [dg v 100] else []) ++ (if 10 ≤ v then [dg v 10] else []) ++ [dg v 1]
theorem figs_len (v : Nat) : 1 ≤ (figs v).length ∧ (figs v).length ≤ 4 := by
  unfold figs
  simp only [List.length_append, List.length_cons, List.length_nil]
  split <;> split <;> split <;> simp
theorem figs_le3 (v : Nat) (h : v < 1000) : (figs v).length ≤ 3 := by
  unfold figs
  rw [if_neg (by omega)]
  simp only [List.length_append, List.length_cons, List.length_nil]
  split <;> split <;> simp
section FIG
variable {k ka n : Nat} {C : sB_T → sa_H} {r : sB_T} {l : List Int32} {Q : sa_Q}
theorem k_X0_addFigures (hL : sB_L k ka n C) (hR : sB_R n r l) {v : Nat} (hv : v < 2 ^ 30) (hlt : l.length + 4 ≤ n) (h : ∀ r', r'.2.2 = r.2.2 → sB_R n r' (l ++ figs v) → Q none (C r')) : ct_X0_addFigures 0 0 [.inr (.inl (some k)), .inl (nI v)] (C r) Q := by
  obtain ⟨g1, g2, g3, g4⟩ := id hL
  have step : ∀ (u : Nat) (r1 : sB_T) (l1 : List Int32), 0 < u → u ≤ 1000 → l1.length < n → r1.2.2 = r.2.2 → sB_R n r1 l1 → (∀ r2, r2.2.2 = r.2.2 → sB_R n r2 (l1 ++ if u ≤ v ∨ u = 1 then [dg v u] else []) → sa_w tb_X0_addFigures (4, [some (.inr (.inl (some k))), some (.inl (nI v)), some (.inl (nI (u / 10)))], [], C r2, 0, 0) Q) → sa_w tb_X0_addFigures (4, [some (.inr (.inl (some k))), some (.inl (nI v)), some (.inl (nI u))], [], C r1, 0, 0) Q := by
    intro u r1 l1 hu hu2 hl1 ho hR1 hgo
    have tail : ∀ r2, sa_w tb_X0_addFigures (4, [some (.inr (.inl (some k))), some (.inl (nI v)), some (.inl (nI (u / 10)))], [], C r2, 0, 0) Q → sa_w tb_X0_addFigures (31, [some (.inr (.inl (some k))), some (.inl (nI v)), some (.inl (nI u))], [], C r2, 0, 0) Q := by
      intro r2 h2
      rw [u_X0_addFigures_31]
      simp only [u_X0_addFigures_0, u_X0_addFigures_3, u_X0_addFigures_5, u_X0_addFigures_8, u_X0_addFigures_9, u_X0_addFigures_10, u_X0_addFigures_13, u_X0_addFigures_14, u_X0_addFigures_15, u_X0_addFigures_18, u_X0_addFigures_19, u_X0_addFigures_21, u_X0_addFigures_22, u_X0_addFigures_23, u_X0_addFigures_24, u_X0_addFigures_26, u_X0_addFigures_27, u_X0_addFigures_28, u_X0_addFigures_32, u_X0_addFigures_34, u_X0_addFigures_35, u_X0_addFigures_36, u_X0_addFigures_39, sa_put, sa_sel, sa_split, so_aload, so_bin, so_cmp, so_div, so_goto, so_if, so_iload, so_istore, so_push, so_ret, so_virt, sa_nth, List.cons_append, List.nil_append, Nat.reduceEqDiff, Option.toList_none, Option.toList_some, if_false, if_true, reduceIte, or_true, true_or, z10, z00, true_imp_iff, false_imp_iff, not_false_eq_true, not_true_eq_false, true_and, and_true, Nat.zero_le, Nat.sub_zero, List.length_cons, List.length_nil, Nat.reduceAdd, Nat.reduceLT, Nat.reduceLeDiff]
      rw [show (10 : Int32) = nI 10 from rfl, pk_div (by omega) (by omega) (by omega)]
      exact ⟨by decide, h2⟩
    have put : u ≤ v ∨ u = 1 → sa_w tb_X0_addFigures (18, [some (.inr (.inl (some k))), some (.inl (nI v)), some (.inl (nI u))], [], C r1, 0, 0) Q := by
      intro hc
      simp only [u_X0_addFigures_0, u_X0_addFigures_3, u_X0_addFigures_5, u_X0_addFigures_8, u_X0_addFigures_9, u_X0_addFigures_10, u_X0_addFigures_13, u_X0_addFigures_14, u_X0_addFigures_15, u_X0_addFigures_18, u_X0_addFigures_19, u_X0_addFigures_21, u_X0_addFigures_22, u_X0_addFigures_23, u_X0_addFigures_24, u_X0_addFigures_26, u_X0_addFigures_27, u_X0_addFigures_28, u_X0_addFigures_32, u_X0_addFigures_34, u_X0_addFigures_35, u_X0_addFigures_36, u_X0_addFigures_39, sa_put, sa_sel, sa_split, so_aload, so_bin, so_cmp, so_div, so_goto, so_if, so_iload, so_istore, so_push, so_ret, so_virt, sa_nth, g1, List.cons_append, List.nil_append, Nat.reduceEqDiff, Option.toList_none, Option.toList_some, if_false, if_true, reduceIte, or_true, true_or, z10, z00, true_imp_iff, false_imp_iff, not_false_eq_true, not_true_eq_false, true_and, and_true, Nat.zero_le, Nat.sub_zero, List.length_cons, List.length_nil, Nat.reduceAdd, Nat.reduceLT, Nat.reduceLeDiff]
      refine ⟨nI_ne0 hu (by omega), by decide, ?_⟩
      rw [pk_div (by omega) hu (by omega), show (10 : Int32) = nI 10 from rfl, pk_rem (by
        have := Nat.div_le_self v u
        omega) (by omega) (by omega), show (48 : Int32) = nI 48 from rfl, nI_add]
      refine k_X0_add hL hR1 _ hl1 (fun r2 o2 hR2 => ?_)
      refine tail r2 (hgo r2 (o2.trans ho) ?_)
      rw [if_pos hc]
      exact hR2
    rw [u_X0_addFigures_4]
    simp only [u_X0_addFigures_0, u_X0_addFigures_3, u_X0_addFigures_5, u_X0_addFigures_8, u_X0_addFigures_9, u_X0_addFigures_10, u_X0_addFigures_13, u_X0_addFigures_14, u_X0_addFigures_15, u_X0_addFigures_19, u_X0_addFigures_21, u_X0_addFigures_22, u_X0_addFigures_23, u_X0_addFigures_24, u_X0_addFigures_26, u_X0_addFigures_27, u_X0_addFigures_28, u_X0_addFigures_32, u_X0_addFigures_34, u_X0_addFigures_35, u_X0_addFigures_36, u_X0_addFigures_39, sa_put, sa_sel, sa_split, so_bin, so_cmp, so_div, so_goto, so_if, so_iload, so_istore, so_push, so_ret, so_virt, sa_nth, g1, List.cons_append, List.nil_append, Nat.reduceEqDiff, Option.toList_none, Option.toList_some, if_false, if_true, reduceIte, or_true, true_or, z10, z00, true_imp_iff, false_imp_iff, not_false_eq_true, not_true_eq_false, true_and, and_true, Nat.zero_le, Nat.sub_zero, List.length_cons, List.length_nil, Nat.reduceAdd, Nat.reduceLT, Nat.reduceLeDiff]
    rw [nI_leI (by omega) (by omega), show (1 : Int32) = nI 1 from rfl, nI_eq (by omega) (by omega)]
    refine ⟨fun q => absurd q (nI_nle hu (by omega)), fun _ => ⟨fun q => put (Or.inl q), fun q => ⟨fun q1 => put (Or.inr q1), fun q1 => tail r1 (hgo r1 ho ?_)⟩⟩⟩
    rw [if_neg (by omega), List.append_nil]
    exact hR1
  simp only [e_X0_addFigures, u_X0_addFigures_0, u_X0_addFigures_3, u_X0_addFigures_5, u_X0_addFigures_8, u_X0_addFigures_9, u_X0_addFigures_10, u_X0_addFigures_13, u_X0_addFigures_14, u_X0_addFigures_15, u_X0_addFigures_18, u_X0_addFigures_19, u_X0_addFigures_21, u_X0_addFigures_22, u_X0_addFigures_23, u_X0_addFigures_24, u_X0_addFigures_26, u_X0_addFigures_27, u_X0_addFigures_28, u_X0_addFigures_32, u_X0_addFigures_34, u_X0_addFigures_35, u_X0_addFigures_36, u_X0_addFigures_39, sa_put, sa_sel, sa_split, so_aload, so_bin, so_cmp, so_div, so_goto, so_if, so_iload, so_istore, so_push, so_ret, so_virt, sa_nth, g1, List.cons_append, List.nil_append, Nat.reduceEqDiff, Option.toList_none, Option.toList_some, if_false, if_true, reduceIte, or_true, true_or, z10, z00, true_imp_iff, false_imp_iff, not_false_eq_true, not_true_eq_false, true_and, and_true, Nat.zero_le, Nat.sub_zero, List.length_cons, List.length_nil, Nat.reduceAdd, Nat.reduceLT, Nat.reduceLeDiff]
  refine step 1000 r l (by omega) (by omega) (by omega) rfl hR (fun r1 o1 hR1 => ?_)
  have e1 : ∀ (l : List Int32) (p : Prop) [Decidable p] (x : Int32), (l ++ if p then [x] else []).length ≤ l.length + 1 := by
    intro l p _ x
    split <;> simp
  have b1 := e1 l (1000 ≤ v ∨ 1000 = 1) (dg v 1000)
  refine step 100 r1 _ (by omega) (by omega) (by omega) o1 hR1 (fun r2 o2 hR2 => ?_)
  have b2 := e1 (l ++ if 1000 ≤ v ∨ 1000 = 1 then [dg v 1000] else []) (100 ≤ v ∨ 100 = 1) (dg v 100)
  refine step 10 r2 _ (by omega) (by omega) (by omega) o2 hR2 (fun r3 o3 hR3 => ?_)
  have b3 := e1 ((l ++ if 1000 ≤ v ∨ 1000 = 1 then [dg v 1000] else []) ++ if 100 ≤ v ∨ 100 = 1 then [dg v 100] else []) (10 ≤ v ∨ 10 = 1) (dg v 10)
  refine step 1 r3 _ (by omega) (by omega) (by omega) o3 hR3 (fun r4 o4 hR4 => ?_)
  rw [u_X0_addFigures_4]
  simp only [u_X0_addFigures_0, u_X0_addFigures_3, u_X0_addFigures_5, u_X0_addFigures_8, u_X0_addFigures_9, u_X0_addFigures_10, u_X0_addFigures_13, u_X0_addFigures_14, u_X0_addFigures_15, u_X0_addFigures_18, u_X0_addFigures_19, u_X0_addFigures_21, u_X0_addFigures_22, u_X0_addFigures_23, u_X0_addFigures_24, u_X0_addFigures_26, u_X0_addFigures_27, u_X0_addFigures_28, u_X0_addFigures_32, u_X0_addFigures_34, u_X0_addFigures_35, u_X0_addFigures_36, u_X0_addFigures_39, sa_put, sa_sel, sa_split, so_aload, so_bin, so_cmp, so_div, so_goto, so_if, so_iload, so_istore, so_push, so_ret, so_virt, sa_nth, List.cons_append, List.nil_append, Nat.reduceEqDiff, Option.toList_none, Option.toList_some, if_false, if_true, reduceIte, or_true, true_or, z10, z00, true_imp_iff, false_imp_iff, not_false_eq_true, not_true_eq_false, true_and, and_true, Nat.zero_le, Nat.sub_zero, List.length_cons, List.length_nil, Nat.reduceAdd, Nat.reduceLT, Nat.reduceLeDiff]
  refine ⟨fun _ => h r4 o4 ?_, fun q => absurd (by decide) q⟩
  unfold figs
  simpa [List.append_assoc] using hR4
end FIG
theorem k_X10_isOdd {h : sa_H} {Q : sa_Q} {v : Nat} (hv : v < 2 ^ 31) (h1 : v % 2 = 1 → Q (some (.inl 1)) h) (h0 : v % 2 = 0 → Q (some (.inl 0)) h) : ct_X10_isOdd 0 0 [.inl (nI v)] h Q := by
  have e : nI v &&& 1 = nI (v % 2) := pk_andN (by omega) (m := 1) 1 (by decide)
  simp only [e_X10_isOdd, u_X10_isOdd_0, u_X10_isOdd_1, u_X10_isOdd_2, u_X10_isOdd_3, u_X10_isOdd_6, u_X10_isOdd_7, u_X10_isOdd_10, u_X10_isOdd_11, so_bin, so_goto, so_if, so_iload, so_push, so_zret, sa_nth, or_true, true_or, z10, z00, true_imp_iff, false_imp_iff, not_false_eq_true, not_true_eq_false, true_and, and_true, Nat.zero_le, Nat.sub_zero, List.length_cons, List.length_nil, Nat.reduceAdd, Nat.reduceLT, Nat.reduceLeDiff]
  rw [e]
  refine ⟨fun q => h0 ((nI_eq (b := 0) (by omega) (by omega)).mp q), fun q => h1 ?_⟩
  rcases Nat.mod_two_eq_zero_or_one v with z | z
  · rw [z] at q; exact absurd rfl q
  · exact z
def sP_L (C : sB_T → gF → sa_H) : Prop := (∀ F, sB_L 11 12 1500 (fun r => C r F)) ∧ ∀ r, sF_L (fun F => C r F)
section PCK
variable {C : sB_T → gF → sa_H} {r : sB_T} {F : gF} {l : List Int32} {N D : List (List Int32)} {T : List Int32} {Q : sa_Q}
theorem p_1 (hL : sP_L C) : ∀ r F, sa_nth (C r F) 1 = some (.inr (3, [.inr (.inl (some 2)), .inr (.inl (some 5)), .inr (.inl (some 8))])) := fun r F => ((hL.2 r).1 F.2.2).2.1 F.1 F.2.1
theorem p_11 (hL : sP_L C) : ∀ r F, sa_nth (C r F) 11 = some (.inr (0, [.inr (.inl (some 12)), .inl r.2.1, .inl r.2.2])) := fun r F => (hL.1 F).1 r
theorem k_X0_addName (hL : sP_L C) (hR : sB_R 1500 r l) (hF : sF_R F N D T) (hI : sIF N D T) {i : Nat} (hi : i < 2 ^ 30) (hlt : l.length + (N.getD i []).length ≤ 1500) (h : ∀ r', r'.2.2 = r.2.2 → sB_R 1500 r' (l ++ (N.getD i [])) → Q none (C r' F)) : ct_X0_addName 0 0 [.inr (.inl (some 11)), .inr (.inl (some 1)), .inl (nI i)] (C r F) Q := by
  have g1 := p_1 hL
  have g2 := p_11 hL
  have loop : ∀ (m x : Nat) (r1 : sB_T), x + m = (N.getD i []).length → r1.2.2 = r.2.2 → sB_R 1500 r1 (l ++ (N.getD i []).take x) → sa_w tb_X0_addName (2, [some (.inr (.inl (some 11))), some (.inr (.inl (some 1))), some (.inl (nI i)), some (.inl (nI x))], [], C r1 F, 0, 0) Q := by
    intro m
    induction m with
    | zero =>
      intro x r1 hx ho hR1
      simp only [u_X0_addName_0, u_X0_addName_1, u_X0_addName_2, u_X0_addName_3, u_X0_addName_4, u_X0_addName_5, u_X0_addName_11, u_X0_addName_12, u_X0_addName_13, u_X0_addName_14, u_X0_addName_15, u_X0_addName_24, u_X0_addName_27, sa_put, sa_sel, sa_split, so_aload, so_goto, so_iload, so_istore, so_push, so_ret, so_virt, sa_nth, g1, g2, List.cons_append, List.nil_append, Nat.reduceEqDiff, Option.toList_none, Option.toList_some, if_false, if_true, reduceIte, or_true, true_or, z10, z00, true_imp_iff, false_imp_iff, not_false_eq_true, not_true_eq_false, true_and, and_true, Nat.zero_le, Nat.sub_zero, List.length_cons, List.length_nil, Nat.reduceAdd, Nat.reduceLT, Nat.reduceLeDiff]
      refine k_X8_nameLength ((hL.2 r1).1 F.2.2) hF.1 _ ?_
      rw [sS_row_nI (by omega)]
      simp only [u_X0_addName_0, u_X0_addName_1, u_X0_addName_3, u_X0_addName_4, u_X0_addName_5, u_X0_addName_8, u_X0_addName_11, u_X0_addName_12, u_X0_addName_13, u_X0_addName_14, u_X0_addName_15, u_X0_addName_24, u_X0_addName_27, sa_put, sa_sel, sa_split, so_aload, so_cmp, so_goto, so_iload, so_istore, so_push, so_ret, so_virt, sa_nth, g1, g2, List.cons_append, List.nil_append, Nat.reduceEqDiff, Option.toList_none, Option.toList_some, if_false, if_true, reduceIte, or_true, true_or, z10, z00, true_imp_iff, false_imp_iff, not_false_eq_true, not_true_eq_false, true_and, and_true, Nat.zero_le, Nat.sub_zero, List.length_cons, List.length_nil, Nat.reduceAdd, Nat.reduceLT, Nat.reduceLeDiff]
      rw [nI_leI (by omega) (by omega)]
      refine ⟨fun _ => h r1 ho ?_, fun q => absurd (by omega) q⟩
      rw [List.take_of_length_le (by omega)] at hR1
      exact hR1
    | succ m ih =>
      intro x r1 hx ho hR1
      have hxl : x < (N.getD i []).length := by omega
      simp only [u_X0_addName_0, u_X0_addName_1, u_X0_addName_2, u_X0_addName_3, u_X0_addName_4, u_X0_addName_5, u_X0_addName_11, u_X0_addName_12, u_X0_addName_13, u_X0_addName_14, u_X0_addName_15, u_X0_addName_24, u_X0_addName_27, sa_put, sa_sel, sa_split, so_aload, so_goto, so_iload, so_istore, so_push, so_ret, so_virt, sa_nth, g1, g2, List.cons_append, List.nil_append, Nat.reduceEqDiff, Option.toList_none, Option.toList_some, if_false, if_true, reduceIte, or_true, true_or, z10, z00, true_imp_iff, false_imp_iff, not_false_eq_true, not_true_eq_false, true_and, and_true, Nat.zero_le, Nat.sub_zero, List.length_cons, List.length_nil, Nat.reduceAdd, Nat.reduceLT, Nat.reduceLeDiff]
      refine k_X8_nameLength ((hL.2 r1).1 F.2.2) hF.1 _ ?_
      rw [sS_row_nI (by omega)]
      simp only [u_X0_addName_0, u_X0_addName_1, u_X0_addName_3, u_X0_addName_4, u_X0_addName_5, u_X0_addName_8, u_X0_addName_11, u_X0_addName_12, u_X0_addName_13, u_X0_addName_14, u_X0_addName_15, u_X0_addName_24, u_X0_addName_27, sa_put, sa_sel, sa_split, so_aload, so_cmp, so_goto, so_iload, so_istore, so_push, so_ret, so_virt, sa_nth, g1, g2, List.cons_append, List.nil_append, Nat.reduceEqDiff, Option.toList_none, Option.toList_some, if_false, if_true, reduceIte, or_true, true_or, z10, z00, true_imp_iff, false_imp_iff, not_false_eq_true, not_true_eq_false, true_and, and_true, Nat.zero_le, Nat.sub_zero, List.length_cons, List.length_nil, Nat.reduceAdd, Nat.reduceLT, Nat.reduceLeDiff]
      rw [nI_leI (by omega) (by omega)]
      refine ⟨fun q => absurd q (by omega), fun _ => ?_⟩
      refine k_X8_nameByte ((hL.2 r1).1 F.2.2) hF.1 _ _ ?_
      rw [sS_row_nI (by omega)]
      rw [sS_at_nI (by omega), List.getElem?_eq_getElem hxl, Option.getD_some]
      simp only [u_X0_addName_0, u_X0_addName_1, u_X0_addName_3, u_X0_addName_4, u_X0_addName_5, u_X0_addName_11, u_X0_addName_12, u_X0_addName_13, u_X0_addName_14, u_X0_addName_15, u_X0_addName_18, u_X0_addName_24, u_X0_addName_27, sa_put, sa_sel, sa_split, so_aload, so_goto, so_iload, so_istore, so_push, so_ret, so_virt, sa_nth, g1, g2, List.cons_append, List.nil_append, Nat.reduceEqDiff, Option.toList_none, Option.toList_some, if_false, if_true, reduceIte, or_true, true_or, z10, z00, true_imp_iff, false_imp_iff, not_false_eq_true, not_true_eq_false, true_and, and_true, Nat.zero_le, Nat.sub_zero, List.length_cons, List.length_nil, Nat.reduceAdd, Nat.reduceLT, Nat.reduceLeDiff]
      refine k_X0_add (hL.1 F) hR1 _ (by rw [List.length_append, List.length_take]; omega) (fun r2 o2 hR2 => ?_)
      simp only [u_X0_addName_0, u_X0_addName_1, u_X0_addName_3, u_X0_addName_4, u_X0_addName_5, u_X0_addName_11, u_X0_addName_12, u_X0_addName_13, u_X0_addName_14, u_X0_addName_15, u_X0_addName_21, u_X0_addName_24, u_X0_addName_27, sa_put, sa_sel, sa_split, so_aload, so_goto, so_iinc, so_iload, so_istore, so_push, so_ret, so_virt, sa_nth, g1, g2, List.cons_append, List.nil_append, Nat.reduceEqDiff, Option.toList_none, Option.toList_some, if_false, if_true, reduceIte, or_true, true_or, z10, z00, true_imp_iff, false_imp_iff, not_false_eq_true, not_true_eq_false, true_and, and_true, Nat.zero_le, Nat.sub_zero, List.length_cons, List.length_nil, Nat.reduceAdd, Nat.reduceLT, Nat.reduceLeDiff]
      rw [nI_1]
      refine ih (x + 1) r2 (by omega) (o2.trans ho) ?_
      rw [List.take_succ_eq_append_getElem hxl, ← List.append_assoc]
      exact hR2
  simp only [e_X0_addName, u_X0_addName_0, u_X0_addName_1, u_X0_addName_3, u_X0_addName_4, u_X0_addName_5, u_X0_addName_11, u_X0_addName_12, u_X0_addName_13, u_X0_addName_14, u_X0_addName_15, u_X0_addName_24, u_X0_addName_27, sa_put, sa_sel, sa_split, so_aload, so_goto, so_iload, so_istore, so_push, so_ret, so_virt, sa_nth, g1, g2, List.cons_append, List.nil_append, Nat.reduceEqDiff, Option.toList_none, Option.toList_some, if_false, if_true, reduceIte, or_true, true_or, z10, z00, true_imp_iff, false_imp_iff, not_false_eq_true, not_true_eq_false, true_and, and_true, Nat.zero_le, Nat.sub_zero, List.length_cons, List.length_nil, Nat.reduceAdd, Nat.reduceLT, Nat.reduceLeDiff]
  exact loop _ 0 r (Nat.zero_add _) rfl (by simpa using hR)
theorem k_X0_addContents (hL : sP_L C) (hR : sB_R 1500 r l) (hF : sF_R F N D T) (hI : sIF N D T) {i : Nat} (hi : i < 2 ^ 30) (hlt : l.length + (sS_row D (sF_h T (nI i))).length ≤ 1500) (h : ∀ r', r'.2.2 = r.2.2 → sB_R 1500 r' (l ++ (sS_row D (sF_h T (nI i)))) → Q none (C r' F)) : ct_X0_addContents 0 0 [.inr (.inl (some 11)), .inr (.inl (some 1)), .inl (nI i)] (C r F) Q := by
  have g1 := p_1 hL
  have g2 := p_11 hL
  have loop : ∀ (m x : Nat) (r1 : sB_T), x + m = (sS_row D (sF_h T (nI i))).length → r1.2.2 = r.2.2 → sB_R 1500 r1 (l ++ (sS_row D (sF_h T (nI i))).take x) → sa_w tb_X0_addContents (2, [some (.inr (.inl (some 11))), some (.inr (.inl (some 1))), some (.inl (nI i)), some (.inl (nI x))], [], C r1 F, 0, 0) Q := by
    intro m
    induction m with
    | zero =>
      intro x r1 hx ho hR1
      simp only [u_X0_addContents_0, u_X0_addContents_1, u_X0_addContents_2, u_X0_addContents_3, u_X0_addContents_4, u_X0_addContents_5, u_X0_addContents_11, u_X0_addContents_12, u_X0_addContents_13, u_X0_addContents_14, u_X0_addContents_15, u_X0_addContents_24, u_X0_addContents_27, sa_put, sa_sel, sa_split, so_aload, so_goto, so_iload, so_istore, so_push, so_ret, so_virt, sa_nth, g1, g2, List.cons_append, List.nil_append, Nat.reduceEqDiff, Option.toList_none, Option.toList_some, if_false, if_true, reduceIte, or_true, true_or, z10, z00, true_imp_iff, false_imp_iff, not_false_eq_true, not_true_eq_false, true_and, and_true, Nat.zero_le, Nat.sub_zero, List.length_cons, List.length_nil, Nat.reduceAdd, Nat.reduceLT, Nat.reduceLeDiff]
      refine kF_contentsLength (hL.2 r1) hF _ ?_
      skip
      simp only [u_X0_addContents_0, u_X0_addContents_1, u_X0_addContents_3, u_X0_addContents_4, u_X0_addContents_5, u_X0_addContents_8, u_X0_addContents_11, u_X0_addContents_12, u_X0_addContents_13, u_X0_addContents_14, u_X0_addContents_15, u_X0_addContents_24, u_X0_addContents_27, sa_put, sa_sel, sa_split, so_aload, so_cmp, so_goto, so_iload, so_istore, so_push, so_ret, so_virt, sa_nth, g1, g2, List.cons_append, List.nil_append, Nat.reduceEqDiff, Option.toList_none, Option.toList_some, if_false, if_true, reduceIte, or_true, true_or, z10, z00, true_imp_iff, false_imp_iff, not_false_eq_true, not_true_eq_false, true_and, and_true, Nat.zero_le, Nat.sub_zero, List.length_cons, List.length_nil, Nat.reduceAdd, Nat.reduceLT, Nat.reduceLeDiff]
      rw [nI_leI (by omega) (by omega)]
      refine ⟨fun _ => h r1 ho ?_, fun q => absurd (by omega) q⟩
      rw [List.take_of_length_le (by omega)] at hR1
      exact hR1
    | succ m ih =>
      intro x r1 hx ho hR1
      have hxl : x < (sS_row D (sF_h T (nI i))).length := by omega
      simp only [u_X0_addContents_0, u_X0_addContents_1, u_X0_addContents_2, u_X0_addContents_3, u_X0_addContents_4, u_X0_addContents_5, u_X0_addContents_11, u_X0_addContents_12, u_X0_addContents_13, u_X0_addContents_14, u_X0_addContents_15, u_X0_addContents_24, u_X0_addContents_27, sa_put, sa_sel, sa_split, so_aload, so_goto, so_iload, so_istore, so_push, so_ret, so_virt, sa_nth, g1, g2, List.cons_append, List.nil_append, Nat.reduceEqDiff, Option.toList_none, Option.toList_some, if_false, if_true, reduceIte, or_true, true_or, z10, z00, true_imp_iff, false_imp_iff, not_false_eq_true, not_true_eq_false, true_and, and_true, Nat.zero_le, Nat.sub_zero, List.length_cons, List.length_nil, Nat.reduceAdd, Nat.reduceLT, Nat.reduceLeDiff]
      refine kF_contentsLength (hL.2 r1) hF _ ?_
      skip
      simp only [u_X0_addContents_0, u_X0_addContents_1, u_X0_addContents_3, u_X0_addContents_4, u_X0_addContents_5, u_X0_addContents_8, u_X0_addContents_11, u_X0_addContents_12, u_X0_addContents_13, u_X0_addContents_14, u_X0_addContents_15, u_X0_addContents_24, u_X0_addContents_27, sa_put, sa_sel, sa_split, so_aload, so_cmp, so_goto, so_iload, so_istore, so_push, so_ret, so_virt, sa_nth, g1, g2, List.cons_append, List.nil_append, Nat.reduceEqDiff, Option.toList_none, Option.toList_some, if_false, if_true, reduceIte, or_true, true_or, z10, z00, true_imp_iff, false_imp_iff, not_false_eq_true, not_true_eq_false, true_and, and_true, Nat.zero_le, Nat.sub_zero, List.length_cons, List.length_nil, Nat.reduceAdd, Nat.reduceLT, Nat.reduceLeDiff]
      rw [nI_leI (by omega) (by omega)]
      refine ⟨fun q => absurd q (by omega), fun _ => ?_⟩
      refine kF_contentsByte (hL.2 r1) hF _ _ ?_
      skip
      rw [sS_at_nI (by omega), List.getElem?_eq_getElem hxl, Option.getD_some]
      simp only [u_X0_addContents_0, u_X0_addContents_1, u_X0_addContents_3, u_X0_addContents_4, u_X0_addContents_5, u_X0_addContents_11, u_X0_addContents_12, u_X0_addContents_13, u_X0_addContents_14, u_X0_addContents_15, u_X0_addContents_18, u_X0_addContents_24, u_X0_addContents_27, sa_put, sa_sel, sa_split, so_aload, so_goto, so_iload, so_istore, so_push, so_ret, so_virt, sa_nth, g1, g2, List.cons_append, List.nil_append, Nat.reduceEqDiff, Option.toList_none, Option.toList_some, if_false, if_true, reduceIte, or_true, true_or, z10, z00, true_imp_iff, false_imp_iff, not_false_eq_true, not_true_eq_false, true_and, and_true, Nat.zero_le, Nat.sub_zero, List.length_cons, List.length_nil, Nat.reduceAdd, Nat.reduceLT, Nat.reduceLeDiff]
      refine k_X0_add (hL.1 F) hR1 _ (by rw [List.length_append, List.length_take]; omega) (fun r2 o2 hR2 => ?_)
      simp only [u_X0_addContents_0, u_X0_addContents_1, u_X0_addContents_3, u_X0_addContents_4, u_X0_addContents_5, u_X0_addContents_11, u_X0_addContents_12, u_X0_addContents_13, u_X0_addContents_14, u_X0_addContents_15, u_X0_addContents_21, u_X0_addContents_24, u_X0_addContents_27, sa_put, sa_sel, sa_split, so_aload, so_goto, so_iinc, so_iload, so_istore, so_push, so_ret, so_virt, sa_nth, g1, g2, List.cons_append, List.nil_append, Nat.reduceEqDiff, Option.toList_none, Option.toList_some, if_false, if_true, reduceIte, or_true, true_or, z10, z00, true_imp_iff, false_imp_iff, not_false_eq_true, not_true_eq_false, true_and, and_true, Nat.zero_le, Nat.sub_zero, List.length_cons, List.length_nil, Nat.reduceAdd, Nat.reduceLT, Nat.reduceLeDiff]
      rw [nI_1]
      refine ih (x + 1) r2 (by omega) (o2.trans ho) ?_
      rw [List.take_succ_eq_append_getElem hxl, ← List.append_assoc]
      exact hR2
  simp only [e_X0_addContents, u_X0_addContents_0, u_X0_addContents_1, u_X0_addContents_3, u_X0_addContents_4, u_X0_addContents_5, u_X0_addContents_11, u_X0_addContents_12, u_X0_addContents_13, u_X0_addContents_14, u_X0_addContents_15, u_X0_addContents_24, u_X0_addContents_27, sa_put, sa_sel, sa_split, so_aload, so_goto, so_iload, so_istore, so_push, so_ret, so_virt, sa_nth, g1, g2, List.cons_append, List.nil_append, Nat.reduceEqDiff, Option.toList_none, Option.toList_some, if_false, if_true, reduceIte, or_true, true_or, z10, z00, true_imp_iff, false_imp_iff, not_false_eq_true, not_true_eq_false, true_and, and_true, Nat.zero_le, Nat.sub_zero, List.length_cons, List.length_nil, Nat.reduceAdd, Nat.reduceLT, Nat.reduceLeDiff]
  exact loop _ 0 r (Nat.zero_add _) rfl (by simpa using hR)
/-- how much of the table a name takes -/
def tp (N : List (List Int32)) (i : Nat) : Nat := if 7 < (N.getD i []).length then (N.getD i []).length + 2 else 0
theorem k_X5_tablePart {C : gF → sa_H} (hL : sF_L C) (hF : sF_R F N D T) (hI : sIF N D T) {i : Nat} (hi : i < 2 ^ 30) (h : Q (some (.inl (nI (tp N i)))) (C F)) : ct_X5_tablePart 0 0 [.inr (.inl (some 1)), .inl (nI i)] (C F) Q := by
  have g1 : ∀ F, sa_nth (C F) 1 = some (.inr (3, [.inr (.inl (some 2)), .inr (.inl (some 5)), .inr (.inl (some 8))])) := fun F => (hL.1 F.2.2).2.1 F.1 F.2.1
  have hl := getD_mem_le N 20 i hI.1
  simp only [e_X5_tablePart, u_X5_tablePart_0, u_X5_tablePart_1, u_X5_tablePart_2, u_X5_tablePart_6, u_X5_tablePart_7, u_X5_tablePart_9, u_X5_tablePart_12, u_X5_tablePart_13, u_X5_tablePart_14, u_X5_tablePart_15, u_X5_tablePart_18, u_X5_tablePart_19, sa_sel, sa_split, so_aload, so_bin, so_cmp, so_goto, so_iload, so_iret, so_push, so_virt, sa_nth, g1, List.cons_append, List.nil_append, Nat.reduceEqDiff, Option.toList_none, Option.toList_some, if_false, if_true, reduceIte, or_true, true_or, z10, z00, true_imp_iff, false_imp_iff, not_false_eq_true, not_true_eq_false, true_and, and_true, Nat.zero_le, Nat.sub_zero, List.length_cons, List.length_nil, Nat.reduceAdd, Nat.reduceLT, Nat.reduceLeDiff]
  refine k_X8_nameLength (hL.1 F.2.2) hF.1 _ ?_
  rw [sS_row_nI (by omega)]
  simp only [u_X5_tablePart_0, u_X5_tablePart_1, u_X5_tablePart_2, u_X5_tablePart_5, u_X5_tablePart_6, u_X5_tablePart_7, u_X5_tablePart_9, u_X5_tablePart_12, u_X5_tablePart_13, u_X5_tablePart_14, u_X5_tablePart_15, u_X5_tablePart_18, u_X5_tablePart_19, sa_put, sa_sel, sa_split, so_aload, so_bin, so_cmp, so_goto, so_iload, so_iret, so_istore, so_push, so_virt, sa_nth, g1, List.cons_append, List.nil_append, Nat.reduceEqDiff, Option.toList_none, Option.toList_some, if_false, if_true, reduceIte, or_true, true_or, z10, z00, true_imp_iff, false_imp_iff, not_false_eq_true, not_true_eq_false, true_and, and_true, Nat.zero_le, Nat.sub_zero, List.length_cons, List.length_nil, Nat.reduceAdd, Nat.reduceLT, Nat.reduceLeDiff]
  rw [show (7 : Int32) = nI 7 from rfl, nI_leI (by omega) (by omega), show (2 : Int32) = nI 2 from rfl, nI_add]
  unfold tp at h
  refine ⟨fun q => ?_, fun q => ?_⟩
  · rw [if_neg (by omega)] at h; exact h
  · rw [if_pos (by omega)] at h; exact h
def pad (n : Nat) (c : Int32) : List Int32 := if n % 2 = 1 then [c] else []
theorem k_X5_packPad (hL : sP_L C) (hR : sB_R 1500 r l) {v : Nat} (hv : v < 2 ^ 30) (hlt : l.length + 1 ≤ 1500) (h : ∀ r', r'.2.2 = r.2.2 → sB_R 1500 r' (l ++ pad v 10) → Q none (C r' F)) : ct_X5_packPad 0 0 [.inl (nI v), .inr (.inl (some 11))] (C r F) Q := by
  have g2 := p_11 hL
  simp only [e_X5_packPad, u_X5_packPad_0, u_X5_packPad_1, u_X5_packPad_7, u_X5_packPad_8, u_X5_packPad_10, sa_sel, sa_split, so_aload, so_iload, so_push, so_stat, so_virt, sa_nth, List.cons_append, List.nil_append, Nat.reduceEqDiff, Option.toList_none, Option.toList_some, if_false, if_true, reduceIte, or_true, true_or, z10, z00, true_imp_iff, false_imp_iff, not_false_eq_true, not_true_eq_false, true_and, and_true, Nat.zero_le, Nat.sub_zero, List.length_cons, List.length_nil, Nat.reduceAdd, Nat.reduceLT, Nat.reduceLeDiff]
  refine k_X10_isOdd (by omega) (fun q => ?_) (fun q => ?_)
  · simp only [u_X5_packPad_0, u_X5_packPad_1, u_X5_packPad_4, u_X5_packPad_7, u_X5_packPad_8, u_X5_packPad_10, sa_sel, sa_split, so_aload, so_if, so_iload, so_push, so_stat, so_virt, sa_nth, g2, List.cons_append, List.nil_append, Nat.reduceEqDiff, Option.toList_none, Option.toList_some, if_false, if_true, reduceIte, or_true, true_or, z10, z00, true_imp_iff, false_imp_iff, not_false_eq_true, not_true_eq_false, true_and, and_true, Nat.zero_le, Nat.sub_zero, List.length_cons, List.length_nil, Nat.reduceAdd, Nat.reduceLT, Nat.reduceLeDiff]
    refine k_X0_add (hL.1 F) hR _ (by omega) (fun r2 o2 hR2 => ?_)
    simp only [u_X5_packPad_0, u_X5_packPad_1, u_X5_packPad_7, u_X5_packPad_8, u_X5_packPad_10, u_X5_packPad_13, sa_sel, sa_split, so_aload, so_iload, so_push, so_ret, so_stat, so_virt, sa_nth, List.cons_append, List.nil_append, Nat.reduceEqDiff, Option.toList_none, Option.toList_some, if_false, if_true, reduceIte, or_true, true_or, z10, z00, true_imp_iff, false_imp_iff, not_false_eq_true, not_true_eq_false, true_and, and_true, Nat.zero_le, Nat.sub_zero, List.length_cons, List.length_nil, Nat.reduceAdd, Nat.reduceLT, Nat.reduceLeDiff]
    refine h r2 o2 ?_
    unfold pad
    rw [if_pos q]; exact hR2
  · simp only [u_X5_packPad_0, u_X5_packPad_1, u_X5_packPad_4, u_X5_packPad_7, u_X5_packPad_8, u_X5_packPad_10, u_X5_packPad_13, sa_sel, sa_split, so_aload, so_if, so_iload, so_push, so_ret, so_stat, so_virt, sa_nth, g2, List.cons_append, List.nil_append, Nat.reduceEqDiff, Option.toList_none, Option.toList_some, if_false, if_true, reduceIte, or_true, true_or, z10, z00, true_imp_iff, false_imp_iff, not_false_eq_true, not_true_eq_false, true_and, and_true, Nat.zero_le, Nat.sub_zero, List.length_cons, List.length_nil, Nat.reduceAdd, Nat.reduceLT, Nat.reduceLeDiff]
    refine h r rfl ?_
    unfold pad
    rw [if_neg (by omega), List.append_nil]; exact hR
/-- a size's field, and what ends a head -/
def szF (v : Nat) : List Int32 := figs v ++ List.replicate (4 - (figs v).length) 32 ++ sT 3
theorem sT3 : sT 3 = [96, 10] := by decide
theorem szF_len (v : Nat) : (szF v).length = 6 := by
  have := figs_len v
  unfold szF
  rw [sT3]
  simp only [List.length_append, List.length_replicate, List.length_cons, List.length_nil]
  omega
theorem k_X5_packSize (hL : sP_L C) (hR : sB_R 1500 r l) {v : Nat} (hv : v < 2 ^ 30) (hlt : l.length + 6 ≤ 1500) (h : ∀ r', r'.2.2 = r.2.2 → sB_R 1500 r' (l ++ szF v) → Q none (C r' F)) : ct_X5_packSize 0 0 [.inl (nI v), .inr (.inl (some 11))] (C r F) Q := by
  have g2 := p_11 hL
  have hf := figs_len v
  simp only [e_X5_packSize, u_X5_packSize_0, u_X5_packSize_1, u_X5_packSize_6, u_X5_packSize_7, u_X5_packSize_9, u_X5_packSize_10, u_X5_packSize_11, u_X5_packSize_12, u_X5_packSize_13, u_X5_packSize_17, u_X5_packSize_18, u_X5_packSize_22, u_X5_packSize_24, sa_put, sa_sel, sa_split, so_aload, so_bin, so_iload, so_istore, so_push, so_virt, sa_nth, g2, List.cons_append, List.nil_append, Nat.reduceEqDiff, Option.toList_none, Option.toList_some, if_false, if_true, reduceIte, or_true, true_or, z10, z00, true_imp_iff, false_imp_iff, not_false_eq_true, not_true_eq_false, true_and, and_true, Nat.zero_le, Nat.sub_zero, List.length_cons, List.length_nil, Nat.reduceAdd, Nat.reduceLT, Nat.reduceLeDiff]
  refine k_X0_size (hL.1 F) hR ?_
  simp only [u_X5_packSize_0, u_X5_packSize_1, u_X5_packSize_4, u_X5_packSize_6, u_X5_packSize_7, u_X5_packSize_9, u_X5_packSize_10, u_X5_packSize_11, u_X5_packSize_12, u_X5_packSize_13, u_X5_packSize_17, u_X5_packSize_18, u_X5_packSize_22, u_X5_packSize_24, sa_put, sa_sel, sa_split, so_aload, so_bin, so_iload, so_istore, so_push, so_virt, sa_nth, g2, List.cons_append, List.nil_append, Nat.reduceEqDiff, Option.toList_none, Option.toList_some, if_false, if_true, reduceIte, or_true, true_or, z10, z00, true_imp_iff, false_imp_iff, not_false_eq_true, not_true_eq_false, true_and, and_true, Nat.zero_le, Nat.sub_zero, List.length_cons, List.length_nil, Nat.reduceAdd, Nat.reduceLT, Nat.reduceLeDiff]
  rw [show (12 : Int32) = nI 12 from rfl, show (8 : Int32) = nI 8 from rfl, nI_add, pk_sub (by omega), show l.length + 12 - 8 = l.length + 4 by omega]
  refine k_X0_addFigures (hL.1 F) hR hv (by omega) (fun r1 o1 hR1 => ?_)
  simp only [u_X5_packSize_0, u_X5_packSize_1, u_X5_packSize_6, u_X5_packSize_7, u_X5_packSize_9, u_X5_packSize_10, u_X5_packSize_11, u_X5_packSize_12, u_X5_packSize_13, u_X5_packSize_16, u_X5_packSize_17, u_X5_packSize_18, u_X5_packSize_22, u_X5_packSize_24, sa_put, sa_sel, sa_split, so_aload, so_bin, so_iload, so_istore, so_push, so_virt, sa_nth, g2, List.cons_append, List.nil_append, Nat.reduceEqDiff, Option.toList_none, Option.toList_some, if_false, if_true, reduceIte, or_true, true_or, z10, z00, true_imp_iff, false_imp_iff, not_false_eq_true, not_true_eq_false, true_and, and_true, Nat.zero_le, Nat.sub_zero, List.length_cons, List.length_nil, Nat.reduceAdd, Nat.reduceLT, Nat.reduceLeDiff]
  refine k_X0_addBlanksTo (hL.1 F) hR1 (by omega) (fun r2 o2 hR2 => ?_)
  simp only [u_X5_packSize_0, u_X5_packSize_1, u_X5_packSize_6, u_X5_packSize_7, u_X5_packSize_9, u_X5_packSize_10, u_X5_packSize_11, u_X5_packSize_12, u_X5_packSize_13, u_X5_packSize_17, u_X5_packSize_18, u_X5_packSize_21, u_X5_packSize_22, u_X5_packSize_24, sa_put, sa_sel, sa_split, so_aload, so_bin, so_iload, so_istore, so_push, so_virt, sa_nth, g2, List.cons_append, List.nil_append, Nat.reduceEqDiff, Option.toList_none, Option.toList_some, if_false, if_true, reduceIte, or_true, true_or, z10, z00, true_imp_iff, false_imp_iff, not_false_eq_true, not_true_eq_false, true_and, and_true, Nat.zero_le, Nat.sub_zero, List.length_cons, List.length_nil, Nat.reduceAdd, Nat.reduceLT, Nat.reduceLeDiff]
  refine k_X0_addText (hL.1 F) hR2 (by decide) (by
    rw [sT3]
    simp only [List.length_append, List.length_replicate, List.length_cons, List.length_nil]
    omega) (fun r3 o3 hR3 => ?_)
  simp only [u_X5_packSize_0, u_X5_packSize_1, u_X5_packSize_6, u_X5_packSize_7, u_X5_packSize_9, u_X5_packSize_10, u_X5_packSize_11, u_X5_packSize_12, u_X5_packSize_13, u_X5_packSize_17, u_X5_packSize_18, u_X5_packSize_22, u_X5_packSize_24, u_X5_packSize_27, sa_put, sa_sel, sa_split, so_aload, so_bin, so_iload, so_istore, so_push, so_ret, so_virt, sa_nth, List.cons_append, List.nil_append, Nat.reduceEqDiff, Option.toList_none, Option.toList_some, if_false, if_true, reduceIte, or_true, true_or, z10, z00, true_imp_iff, false_imp_iff, not_false_eq_true, not_true_eq_false, true_and, and_true, Nat.zero_le, Nat.sub_zero, List.length_cons, List.length_nil, Nat.reduceAdd, Nat.reduceLT, Nat.reduceLeDiff]
  refine h r3 (o3.trans (o2.trans o1)) ?_
  unfold szF
  rw [List.length_append, show l.length + 4 - (l.length + (figs v).length) = 4 - (figs v).length by omega] at hR3
  simpa [List.append_assoc] using hR3
end PCK
/-! FORM 0 WRITTEN -/
def cont (D : List (List Int32)) (T : List Int32) (i : Nat) : List Int32 := sS_row D (sF_h T (nI i))
theorem row_le60 {N D : List (List Int32)} {T : List Int32} (hI : sIF N D T) (j : Int32) : (sS_row D j).length ≤ 60 := by
  unfold sS_row
  split
  · simp
  · exact getD_mem_le D 60 _ hI.2.2.1
def nmB (N : List (List Int32)) (i p : Nat) : List Int32 := if 0 < tp N i then [47] ++ figs p else N.getD i [] ++ [47]
def nmF (N : List (List Int32)) (i p : Nat) : List Int32 := nmB N i p ++ List.replicate (8 - (nmB N i p).length) 32
theorem nmB_len (N : List (List Int32)) (i p : Nat) : (nmB N i p).length ≤ 8 := by
  unfold nmB
  have := figs_len p
  split
  · simp; omega
  · next h =>
    unfold tp at h
    split at h
    · omega
    · rw [List.length_append]; simp only [List.length_cons, List.length_nil]; omega
theorem nmF_len (N : List (List Int32)) (i p : Nat) : (nmF N i p).length = 8 := by
  have := nmB_len N i p
  unfold nmF
  simp only [List.length_append, List.length_replicate]
  omega
def tps (N : List (List Int32)) : Nat → Nat
  | 0 => 0
  | i + 1 => tps N i + tp N i
def tbody (N : List (List Int32)) : Nat → List Int32
  | 0 => []
  | i + 1 => tbody N i ++ (if 0 < tp N i then N.getD i [] ++ sT 4 else [])
theorem sT4 : sT 4 = [47, 10] := by decide
theorem sT2 : sT 2 = [47, 47] := by decide
theorem sT1 : sT 1 = [33, 60, 97, 62] := by decide
theorem tbody_len (N : List (List Int32)) : ∀ i, (tbody N i).length = tps N i
  | 0 => rfl
  | i + 1 => by
    unfold tbody tps
    rw [List.length_append, tbody_len N i]
    unfold tp
    split
    · next h => rw [if_pos (by omega), sT4]; simp
    · rw [if_neg (by omega)]; simp
theorem tps_le (N : List (List Int32)) (h : ∀ l ∈ N, l.length ≤ 20) : ∀ i, tps N i ≤ 22 * i
  | 0 => by simp [tps]
  | i + 1 => by
    have h1 := tps_le N h i
    have h2 := getD_mem_le N 20 i h
    unfold tps tp
    split <;> omega
def table (N : List (List Int32)) : List Int32 := if tps N N.length = 0 then [] else sT 2 ++ List.replicate 6 32 ++ szF (tps N N.length) ++ tbody N N.length ++ pad (tps N N.length) 10
def hbody (N D : List (List Int32)) (T : List Int32) : Nat → List Int32
  | 0 => []
  | i + 1 => hbody N D T i ++ (nmF N i (tps N i) ++ szF (cont D T i).length ++ cont D T i ++ pad (cont D T i).length 10)
theorem pad_len (n : Nat) (c : Int32) : (pad n c).length ≤ 1 := by unfold pad; split <;> simp
theorem hbody_len (N D : List (List Int32)) (T : List Int32) (hI : sIF N D T) : ∀ i, (hbody N D T i).length ≤ 75 * i
  | 0 => by simp [hbody]
  | i + 1 => by
    have h1 := hbody_len N D T hI i
    have h2 := row_le60 hI (sF_h T (nI i))
    have h3 := nmF_len N i (tps N i)
    have h4 := szF_len (cont D T i).length
    have h5 := pad_len (cont D T i).length 10
    unfold hbody
    simp only [List.length_append]
    unfold cont at *
    omega
theorem table_len (N : List (List Int32)) (h : ∀ l ∈ N, l.length ≤ 20) (hn : N.length ≤ 12) : (table N).length ≤ 279 := by
  have h1 := tps_le N h N.length
  have h2 := tbody_len N N.length
  have h4 := szF_len (tps N N.length)
  have h5 := pad_len (tps N N.length) 10
  unfold table
  split
  · simp
  · rw [sT2]
    simp only [List.length_append, List.length_replicate, List.length_cons, List.length_nil]
    omega
def hdsL (N D : List (List Int32)) (T : List Int32) : List Int32 := sT 1 ++ table N ++ hbody N D T N.length
section HDS
variable {C : sB_T → gF → sa_H} {r : sB_T} {F : gF} {l : List Int32} {N D : List (List Int32)} {T : List Int32} {Q : sa_Q}
theorem k_X5_packName (hL : sP_L C) (hR : sB_R 1500 r l) (hF : sF_R F N D T) (hI : sIF N D T) {i p : Nat} (hi : i < 2 ^ 30) (hp : p < 2 ^ 30) (hlt : l.length + 30 ≤ 1500) (h : ∀ r', r'.2.2 = r.2.2 → sB_R 1500 r' (l ++ nmF N i p) → Q none (C r' F)) : ct_X5_packName 0 0 [.inr (.inl (some 1)), .inl (nI i), .inl (nI p), .inr (.inl (some 11))] (C r F) Q := by
  have g1 := p_1 hL
  have g2 := p_11 hL
  have hf := figs_len p
  have hl20 := getD_mem_le N 20 i hI.1
  have hb := nmB_len N i p
  have rest : ∀ r1, r1.2.2 = r.2.2 → sB_R 1500 r1 (l ++ nmB N i p) → sa_w tb_X5_packName (40, [some (.inr (.inl (some 1))), some (.inl (nI i)), some (.inl (nI p)), some (.inr (.inl (some 11))), some (.inl (nI l.length))], [], C r1 F, 0, 0) Q := by
    intro r1 o1 hR1
    simp only [u_X5_packName_0, u_X5_packName_1, u_X5_packName_6, u_X5_packName_7, u_X5_packName_8, u_X5_packName_14, u_X5_packName_15, u_X5_packName_17, u_X5_packName_21, u_X5_packName_22, u_X5_packName_28, u_X5_packName_29, u_X5_packName_30, u_X5_packName_31, u_X5_packName_35, u_X5_packName_37, u_X5_packName_40, u_X5_packName_41, u_X5_packName_43, u_X5_packName_45, u_X5_packName_46, sa_sel, sa_split, so_aload, so_bin, so_iload, so_push, so_stat, so_virt, sa_nth, g2, List.cons_append, List.nil_append, Nat.reduceEqDiff, Option.toList_none, Option.toList_some, if_false, if_true, reduceIte, or_true, true_or, z10, z00, true_imp_iff, false_imp_iff, not_false_eq_true, not_true_eq_false, true_and, and_true, Nat.zero_le, Nat.sub_zero, List.length_cons, List.length_nil, Nat.reduceAdd, Nat.reduceLT, Nat.reduceLeDiff]
    rw [show (8 : Int32) = nI 8 from rfl, nI_add]
    refine k_X0_addBlanksTo (hL.1 F) hR1 (by omega) (fun r2 o2 hR2 => ?_)
    simp only [u_X5_packName_0, u_X5_packName_1, u_X5_packName_6, u_X5_packName_7, u_X5_packName_8, u_X5_packName_14, u_X5_packName_15, u_X5_packName_17, u_X5_packName_21, u_X5_packName_22, u_X5_packName_28, u_X5_packName_29, u_X5_packName_30, u_X5_packName_31, u_X5_packName_35, u_X5_packName_37, u_X5_packName_41, u_X5_packName_43, u_X5_packName_45, u_X5_packName_46, u_X5_packName_49, sa_sel, sa_split, so_aload, so_bin, so_iload, so_push, so_ret, so_stat, so_virt, sa_nth, List.cons_append, List.nil_append, Nat.reduceEqDiff, Option.toList_none, Option.toList_some, if_false, if_true, reduceIte, or_true, true_or, z10, z00, true_imp_iff, false_imp_iff, not_false_eq_true, not_true_eq_false, true_and, and_true, Nat.zero_le, Nat.sub_zero, List.length_cons, List.length_nil, Nat.reduceAdd, Nat.reduceLT, Nat.reduceLeDiff]
    refine h r2 (o2.trans o1) ?_
    rw [List.length_append, show l.length + 8 - (l.length + (nmB N i p).length) = 8 - (nmB N i p).length by omega, List.append_assoc] at hR2
    exact hR2
  simp only [e_X5_packName, u_X5_packName_0, u_X5_packName_1, u_X5_packName_6, u_X5_packName_7, u_X5_packName_8, u_X5_packName_14, u_X5_packName_15, u_X5_packName_17, u_X5_packName_21, u_X5_packName_22, u_X5_packName_28, u_X5_packName_29, u_X5_packName_30, u_X5_packName_31, u_X5_packName_35, u_X5_packName_37, u_X5_packName_41, u_X5_packName_43, u_X5_packName_45, u_X5_packName_46, sa_sel, sa_split, so_aload, so_bin, so_iload, so_push, so_stat, so_virt, sa_nth, g2, List.cons_append, List.nil_append, Nat.reduceEqDiff, Option.toList_none, Option.toList_some, if_false, if_true, reduceIte, or_true, true_or, z10, z00, true_imp_iff, false_imp_iff, not_false_eq_true, not_true_eq_false, true_and, and_true, Nat.zero_le, Nat.sub_zero, List.length_cons, List.length_nil, Nat.reduceAdd, Nat.reduceLT, Nat.reduceLeDiff]
  refine k_X0_size (hL.1 F) hR ?_
  simp only [u_X5_packName_0, u_X5_packName_1, u_X5_packName_4, u_X5_packName_6, u_X5_packName_7, u_X5_packName_8, u_X5_packName_14, u_X5_packName_15, u_X5_packName_17, u_X5_packName_21, u_X5_packName_22, u_X5_packName_28, u_X5_packName_29, u_X5_packName_30, u_X5_packName_31, u_X5_packName_35, u_X5_packName_37, u_X5_packName_41, u_X5_packName_43, u_X5_packName_45, u_X5_packName_46, sa_put, sa_sel, sa_split, so_aload, so_bin, so_iload, so_istore, so_push, so_stat, so_virt, sa_nth, g2, List.cons_append, List.nil_append, Nat.reduceEqDiff, Option.toList_none, Option.toList_some, if_false, if_true, reduceIte, or_true, true_or, z10, z00, true_imp_iff, false_imp_iff, not_false_eq_true, not_true_eq_false, true_and, and_true, Nat.zero_le, Nat.sub_zero, List.length_cons, List.length_nil, Nat.reduceAdd, Nat.reduceLT, Nat.reduceLeDiff]
  refine k_X5_tablePart (hL.2 r) hF hI hi ?_
  simp only [u_X5_packName_0, u_X5_packName_1, u_X5_packName_6, u_X5_packName_7, u_X5_packName_8, u_X5_packName_11, u_X5_packName_14, u_X5_packName_15, u_X5_packName_17, u_X5_packName_21, u_X5_packName_22, u_X5_packName_28, u_X5_packName_29, u_X5_packName_30, u_X5_packName_31, u_X5_packName_35, u_X5_packName_37, u_X5_packName_41, u_X5_packName_43, u_X5_packName_45, u_X5_packName_46, sa_sel, sa_split, so_aload, so_bin, so_if, so_iload, so_push, so_stat, so_virt, sa_nth, g1, g2, List.cons_append, List.nil_append, Nat.reduceEqDiff, Option.toList_none, Option.toList_some, if_false, if_true, reduceIte, or_true, true_or, z10, z00, true_imp_iff, false_imp_iff, not_false_eq_true, not_true_eq_false, true_and, and_true, Nat.zero_le, Nat.sub_zero, List.length_cons, List.length_nil, Nat.reduceAdd, Nat.reduceLT, Nat.reduceLeDiff]
  have e8 : tp N i < 2 ^ 31 := by unfold tp; split <;> omega
  refine ⟨fun q => ?_, fun q => ?_⟩
  · have hz : ¬ 0 < tp N i := fun c => absurd q (nI_nle c e8)
    refine k_X0_addName hL hR hF hI hi (by omega) (fun r1 o1 hR1 => ?_)
    simp only [u_X5_packName_0, u_X5_packName_1, u_X5_packName_6, u_X5_packName_7, u_X5_packName_8, u_X5_packName_14, u_X5_packName_15, u_X5_packName_17, u_X5_packName_21, u_X5_packName_22, u_X5_packName_28, u_X5_packName_29, u_X5_packName_30, u_X5_packName_31, u_X5_packName_34, u_X5_packName_35, u_X5_packName_37, u_X5_packName_41, u_X5_packName_43, u_X5_packName_45, u_X5_packName_46, sa_sel, sa_split, so_aload, so_bin, so_iload, so_push, so_stat, so_virt, sa_nth, g2, List.cons_append, List.nil_append, Nat.reduceEqDiff, Option.toList_none, Option.toList_some, if_false, if_true, reduceIte, or_true, true_or, z10, z00, true_imp_iff, false_imp_iff, not_false_eq_true, not_true_eq_false, true_and, and_true, Nat.zero_le, Nat.sub_zero, List.length_cons, List.length_nil, Nat.reduceAdd, Nat.reduceLT, Nat.reduceLeDiff]
    refine k_X0_add (hL.1 F) hR1 _ (by rw [List.length_append]; omega) (fun r2 o2 hR2 => ?_)
    refine rest r2 (o2.trans o1) ?_
    unfold nmB
    rw [if_neg hz, ← List.append_assoc]
    exact hR2
  · have hz : 0 < tp N i := by
      rcases Nat.eq_zero_or_pos (tp N i) with z | z
      · rw [z] at q; exact absurd (by decide) q
      · exact z
    refine k_X0_add (hL.1 F) hR _ (by omega) (fun r1 o1 hR1 => ?_)
    simp only [u_X5_packName_0, u_X5_packName_1, u_X5_packName_6, u_X5_packName_7, u_X5_packName_8, u_X5_packName_14, u_X5_packName_15, u_X5_packName_17, u_X5_packName_20, u_X5_packName_21, u_X5_packName_22, u_X5_packName_28, u_X5_packName_29, u_X5_packName_30, u_X5_packName_31, u_X5_packName_35, u_X5_packName_37, u_X5_packName_41, u_X5_packName_43, u_X5_packName_45, u_X5_packName_46, sa_sel, sa_split, so_aload, so_bin, so_iload, so_push, so_stat, so_virt, sa_nth, g2, List.cons_append, List.nil_append, Nat.reduceEqDiff, Option.toList_none, Option.toList_some, if_false, if_true, reduceIte, or_true, true_or, z10, z00, true_imp_iff, false_imp_iff, not_false_eq_true, not_true_eq_false, true_and, and_true, Nat.zero_le, Nat.sub_zero, List.length_cons, List.length_nil, Nat.reduceAdd, Nat.reduceLT, Nat.reduceLeDiff]
    refine k_X0_addFigures (hL.1 F) hR1 hp (by rw [List.length_append]; simp only [List.length_cons, List.length_nil]; omega) (fun r2 o2 hR2 => ?_)
    simp only [u_X5_packName_0, u_X5_packName_1, u_X5_packName_6, u_X5_packName_7, u_X5_packName_8, u_X5_packName_14, u_X5_packName_15, u_X5_packName_17, u_X5_packName_21, u_X5_packName_22, u_X5_packName_25, u_X5_packName_28, u_X5_packName_29, u_X5_packName_30, u_X5_packName_31, u_X5_packName_35, u_X5_packName_37, u_X5_packName_41, u_X5_packName_43, u_X5_packName_45, u_X5_packName_46, sa_sel, sa_split, so_aload, so_bin, so_goto, so_iload, so_push, so_stat, so_virt, sa_nth, List.cons_append, List.nil_append, Nat.reduceEqDiff, Option.toList_none, Option.toList_some, if_false, if_true, reduceIte, or_true, true_or, z10, z00, true_imp_iff, false_imp_iff, not_false_eq_true, not_true_eq_false, true_and, and_true, Nat.zero_le, Nat.sub_zero, List.length_cons, List.length_nil, Nat.reduceAdd, Nat.reduceLT, Nat.reduceLeDiff]
    refine rest r2 (o2.trans o1) ?_
    unfold nmB
    rw [if_pos hz, ← List.append_assoc]
    exact hR2
theorem k_X5_packTable (hL : sP_L C) (hR : sB_R 1500 r l) (hF : sF_R F N D T) (hI : sIF N D T) (hlt : l.length + 300 ≤ 1500) (h : ∀ r', r'.2.2 = r.2.2 → sB_R 1500 r' (l ++ table N) → Q none (C r' F)) : ct_X5_packTable 0 0 [.inr (.inl (some 1)), .inr (.inl (some 11))] (C r F) Q := by
  have g1 := p_1 hL
  have g2 := p_11 hL
  have hn := hF.1.2.2.1
  have htp : ∀ i, tp N i ≤ 22 := fun i => by
    have := getD_mem_le N 20 i hI.1
    unfold tp; split <;> omega
  have hts := tps_le N hI.1 N.length
  have loop2 : ∀ (m x : Nat) (r1 : sB_T) (o3 : Option sa_V), tps N N.length ≠ 0 → x + m = N.length → r1.2.2 = r.2.2 → sB_R 1500 r1 (l ++ (sT 2 ++ List.replicate 6 32 ++ szF (tps N N.length) ++ tbody N x)) → sa_w tb_X5_packTable (58, [some (.inr (.inl (some 1))), some (.inr (.inl (some 11))), some (.inl (nI (tps N N.length))), o3, some (.inl (nI x))], [], C r1 F, 0, 0) Q := by
    intro m
    induction m with
    | zero =>
      intro x r1 o3 hz hx ho hR1
      simp only [u_X5_packTable_0, u_X5_packTable_1, u_X5_packTable_2, u_X5_packTable_3, u_X5_packTable_4, u_X5_packTable_5, u_X5_packTable_6, u_X5_packTable_12, u_X5_packTable_13, u_X5_packTable_14, u_X5_packTable_15, u_X5_packTable_19, u_X5_packTable_20, u_X5_packTable_23, u_X5_packTable_26, u_X5_packTable_27, u_X5_packTable_30, u_X5_packTable_31, u_X5_packTable_32, u_X5_packTable_36, u_X5_packTable_37, u_X5_packTable_39, u_X5_packTable_43, u_X5_packTable_44, u_X5_packTable_46, u_X5_packTable_47, u_X5_packTable_51, u_X5_packTable_52, u_X5_packTable_56, u_X5_packTable_58, u_X5_packTable_60, u_X5_packTable_61, u_X5_packTable_67, u_X5_packTable_68, u_X5_packTable_70, u_X5_packTable_76, u_X5_packTable_77, u_X5_packTable_78, u_X5_packTable_80, u_X5_packTable_84, u_X5_packTable_86, u_X5_packTable_92, u_X5_packTable_95, u_X5_packTable_96, u_X5_packTable_97, sa_put, sa_sel, sa_split, so_aload, so_bin, so_goto, so_if, so_iinc, so_iload, so_istore, so_push, so_ret, so_stat, so_virt, sa_nth, g1, g2, List.cons_append, List.nil_append, Nat.reduceEqDiff, Option.toList_none, Option.toList_some, if_false, if_true, reduceIte, or_true, true_or, z10, z00, true_imp_iff, false_imp_iff, not_false_eq_true, not_true_eq_false, true_and, and_true, Nat.zero_le, Nat.sub_zero, List.length_cons, List.length_nil, Nat.reduceAdd, Nat.reduceLT, Nat.reduceLeDiff]
      refine k_X8_count ((hL.2 r1).1 F.2.2) hF.1 ?_
      simp only [u_X5_packTable_0, u_X5_packTable_1, u_X5_packTable_2, u_X5_packTable_3, u_X5_packTable_4, u_X5_packTable_5, u_X5_packTable_6, u_X5_packTable_12, u_X5_packTable_13, u_X5_packTable_14, u_X5_packTable_15, u_X5_packTable_19, u_X5_packTable_20, u_X5_packTable_23, u_X5_packTable_26, u_X5_packTable_27, u_X5_packTable_30, u_X5_packTable_31, u_X5_packTable_32, u_X5_packTable_36, u_X5_packTable_37, u_X5_packTable_39, u_X5_packTable_43, u_X5_packTable_44, u_X5_packTable_46, u_X5_packTable_47, u_X5_packTable_51, u_X5_packTable_52, u_X5_packTable_56, u_X5_packTable_60, u_X5_packTable_61, u_X5_packTable_64, u_X5_packTable_67, u_X5_packTable_68, u_X5_packTable_70, u_X5_packTable_76, u_X5_packTable_77, u_X5_packTable_78, u_X5_packTable_80, u_X5_packTable_84, u_X5_packTable_86, u_X5_packTable_92, u_X5_packTable_95, u_X5_packTable_96, u_X5_packTable_97, sa_put, sa_sel, sa_split, so_aload, so_bin, so_cmp, so_goto, so_if, so_iinc, so_iload, so_istore, so_push, so_ret, so_stat, so_virt, sa_nth, g1, g2, List.cons_append, List.nil_append, Nat.reduceEqDiff, Option.toList_none, Option.toList_some, if_false, if_true, reduceIte, or_true, true_or, z10, z00, true_imp_iff, false_imp_iff, not_false_eq_true, not_true_eq_false, true_and, and_true, Nat.zero_le, Nat.sub_zero, List.length_cons, List.length_nil, Nat.reduceAdd, Nat.reduceLT, Nat.reduceLeDiff]
      rw [nI_leI (by omega) (by omega)]
      refine ⟨fun _ => ?_, fun q => absurd (by omega) q⟩
      have hxn : x = N.length := by omega
      subst hxn
      have hb := tbody_len N N.length
      have hs := szF_len (tps N N.length)
      refine k_X5_packPad hL hR1 (by omega) (by
        rw [sT2]
        simp only [List.length_append, List.length_replicate, List.length_cons, List.length_nil]
        omega) (fun r2 o2 hR2 => ?_)
      simp only [u_X5_packTable_0, u_X5_packTable_1, u_X5_packTable_2, u_X5_packTable_3, u_X5_packTable_4, u_X5_packTable_5, u_X5_packTable_6, u_X5_packTable_12, u_X5_packTable_13, u_X5_packTable_14, u_X5_packTable_15, u_X5_packTable_19, u_X5_packTable_20, u_X5_packTable_23, u_X5_packTable_26, u_X5_packTable_27, u_X5_packTable_30, u_X5_packTable_31, u_X5_packTable_32, u_X5_packTable_36, u_X5_packTable_37, u_X5_packTable_39, u_X5_packTable_43, u_X5_packTable_44, u_X5_packTable_46, u_X5_packTable_47, u_X5_packTable_51, u_X5_packTable_52, u_X5_packTable_56, u_X5_packTable_58, u_X5_packTable_60, u_X5_packTable_61, u_X5_packTable_67, u_X5_packTable_68, u_X5_packTable_70, u_X5_packTable_76, u_X5_packTable_77, u_X5_packTable_78, u_X5_packTable_80, u_X5_packTable_84, u_X5_packTable_86, u_X5_packTable_92, u_X5_packTable_95, u_X5_packTable_96, u_X5_packTable_97, u_X5_packTable_100, sa_put, sa_sel, sa_split, so_aload, so_bin, so_goto, so_if, so_iinc, so_iload, so_istore, so_push, so_ret, so_stat, so_virt, sa_nth, List.cons_append, List.nil_append, Nat.reduceEqDiff, Option.toList_none, Option.toList_some, if_false, if_true, reduceIte, or_true, true_or, z10, z00, true_imp_iff, false_imp_iff, not_false_eq_true, not_true_eq_false, true_and, and_true, Nat.zero_le, Nat.sub_zero, List.length_cons, List.length_nil, Nat.reduceAdd, Nat.reduceLT, Nat.reduceLeDiff]
      refine h r2 (o2.trans ho) ?_
      unfold table
      rw [if_neg hz]
      simpa [List.append_assoc] using hR2
    | succ m ih =>
      intro x r1 o3 hz hx ho hR1
      have htx := tps_le N hI.1 x
      have hb := tbody_len N x
      have hs := szF_len (tps N N.length)
      have hl20 := getD_mem_le N 20 x hI.1
      simp only [u_X5_packTable_0, u_X5_packTable_1, u_X5_packTable_2, u_X5_packTable_3, u_X5_packTable_4, u_X5_packTable_5, u_X5_packTable_6, u_X5_packTable_12, u_X5_packTable_13, u_X5_packTable_14, u_X5_packTable_15, u_X5_packTable_19, u_X5_packTable_20, u_X5_packTable_23, u_X5_packTable_26, u_X5_packTable_27, u_X5_packTable_30, u_X5_packTable_31, u_X5_packTable_32, u_X5_packTable_36, u_X5_packTable_37, u_X5_packTable_39, u_X5_packTable_43, u_X5_packTable_44, u_X5_packTable_46, u_X5_packTable_47, u_X5_packTable_51, u_X5_packTable_52, u_X5_packTable_56, u_X5_packTable_58, u_X5_packTable_60, u_X5_packTable_61, u_X5_packTable_67, u_X5_packTable_68, u_X5_packTable_70, u_X5_packTable_76, u_X5_packTable_77, u_X5_packTable_78, u_X5_packTable_80, u_X5_packTable_84, u_X5_packTable_86, u_X5_packTable_92, u_X5_packTable_95, u_X5_packTable_96, u_X5_packTable_97, sa_put, sa_sel, sa_split, so_aload, so_bin, so_goto, so_if, so_iinc, so_iload, so_istore, so_push, so_ret, so_stat, so_virt, sa_nth, g1, g2, List.cons_append, List.nil_append, Nat.reduceEqDiff, Option.toList_none, Option.toList_some, if_false, if_true, reduceIte, or_true, true_or, z10, z00, true_imp_iff, false_imp_iff, not_false_eq_true, not_true_eq_false, true_and, and_true, Nat.zero_le, Nat.sub_zero, List.length_cons, List.length_nil, Nat.reduceAdd, Nat.reduceLT, Nat.reduceLeDiff]
      refine k_X8_count ((hL.2 r1).1 F.2.2) hF.1 ?_
      simp only [u_X5_packTable_0, u_X5_packTable_1, u_X5_packTable_2, u_X5_packTable_3, u_X5_packTable_4, u_X5_packTable_5, u_X5_packTable_6, u_X5_packTable_12, u_X5_packTable_13, u_X5_packTable_14, u_X5_packTable_15, u_X5_packTable_19, u_X5_packTable_20, u_X5_packTable_23, u_X5_packTable_26, u_X5_packTable_27, u_X5_packTable_30, u_X5_packTable_31, u_X5_packTable_32, u_X5_packTable_36, u_X5_packTable_37, u_X5_packTable_39, u_X5_packTable_43, u_X5_packTable_44, u_X5_packTable_46, u_X5_packTable_47, u_X5_packTable_51, u_X5_packTable_52, u_X5_packTable_56, u_X5_packTable_60, u_X5_packTable_61, u_X5_packTable_64, u_X5_packTable_67, u_X5_packTable_68, u_X5_packTable_70, u_X5_packTable_76, u_X5_packTable_77, u_X5_packTable_78, u_X5_packTable_80, u_X5_packTable_84, u_X5_packTable_86, u_X5_packTable_92, u_X5_packTable_95, u_X5_packTable_96, u_X5_packTable_97, sa_put, sa_sel, sa_split, so_aload, so_bin, so_cmp, so_goto, so_if, so_iinc, so_iload, so_istore, so_push, so_ret, so_stat, so_virt, sa_nth, g1, g2, List.cons_append, List.nil_append, Nat.reduceEqDiff, Option.toList_none, Option.toList_some, if_false, if_true, reduceIte, or_true, true_or, z10, z00, true_imp_iff, false_imp_iff, not_false_eq_true, not_true_eq_false, true_and, and_true, Nat.zero_le, Nat.sub_zero, List.length_cons, List.length_nil, Nat.reduceAdd, Nat.reduceLT, Nat.reduceLeDiff]
      rw [nI_leI (by omega) (by omega)]
      refine ⟨fun q => absurd q (by omega), fun _ => ?_⟩
      refine k_X5_tablePart (hL.2 r1) hF hI (by omega) ?_
      simp only [u_X5_packTable_0, u_X5_packTable_1, u_X5_packTable_2, u_X5_packTable_3, u_X5_packTable_4, u_X5_packTable_5, u_X5_packTable_6, u_X5_packTable_12, u_X5_packTable_13, u_X5_packTable_14, u_X5_packTable_15, u_X5_packTable_19, u_X5_packTable_20, u_X5_packTable_23, u_X5_packTable_26, u_X5_packTable_27, u_X5_packTable_30, u_X5_packTable_31, u_X5_packTable_32, u_X5_packTable_36, u_X5_packTable_37, u_X5_packTable_39, u_X5_packTable_43, u_X5_packTable_44, u_X5_packTable_46, u_X5_packTable_47, u_X5_packTable_51, u_X5_packTable_52, u_X5_packTable_56, u_X5_packTable_60, u_X5_packTable_61, u_X5_packTable_67, u_X5_packTable_68, u_X5_packTable_70, u_X5_packTable_73, u_X5_packTable_76, u_X5_packTable_77, u_X5_packTable_78, u_X5_packTable_80, u_X5_packTable_84, u_X5_packTable_86, u_X5_packTable_92, u_X5_packTable_95, u_X5_packTable_96, u_X5_packTable_97, sa_put, sa_sel, sa_split, so_aload, so_bin, so_goto, so_if, so_iinc, so_iload, so_istore, so_push, so_ret, so_stat, so_virt, sa_nth, g1, g2, List.cons_append, List.nil_append, Nat.reduceEqDiff, Option.toList_none, Option.toList_some, if_false, if_true, reduceIte, or_true, true_or, z10, z00, true_imp_iff, false_imp_iff, not_false_eq_true, not_true_eq_false, true_and, and_true, Nat.zero_le, Nat.sub_zero, List.length_cons, List.length_nil, Nat.reduceAdd, Nat.reduceLT, Nat.reduceLeDiff]
      have e8 := htp x
      refine ⟨fun q => ?_, fun q => ?_⟩
      · have hzz : ¬ 0 < tp N x := fun c => absurd q (nI_nle c (by omega))
        simp only [u_X5_packTable_0, u_X5_packTable_1, u_X5_packTable_2, u_X5_packTable_3, u_X5_packTable_4, u_X5_packTable_5, u_X5_packTable_6, u_X5_packTable_12, u_X5_packTable_13, u_X5_packTable_14, u_X5_packTable_15, u_X5_packTable_19, u_X5_packTable_20, u_X5_packTable_23, u_X5_packTable_26, u_X5_packTable_27, u_X5_packTable_30, u_X5_packTable_31, u_X5_packTable_32, u_X5_packTable_36, u_X5_packTable_37, u_X5_packTable_39, u_X5_packTable_43, u_X5_packTable_44, u_X5_packTable_46, u_X5_packTable_47, u_X5_packTable_51, u_X5_packTable_52, u_X5_packTable_56, u_X5_packTable_60, u_X5_packTable_61, u_X5_packTable_67, u_X5_packTable_68, u_X5_packTable_70, u_X5_packTable_76, u_X5_packTable_77, u_X5_packTable_78, u_X5_packTable_80, u_X5_packTable_84, u_X5_packTable_86, u_X5_packTable_89, u_X5_packTable_92, u_X5_packTable_95, u_X5_packTable_96, u_X5_packTable_97, sa_put, sa_sel, sa_split, so_aload, so_bin, so_goto, so_if, so_iinc, so_iload, so_istore, so_push, so_ret, so_stat, so_virt, sa_nth, List.cons_append, List.nil_append, Nat.reduceEqDiff, Option.toList_none, Option.toList_some, if_false, if_true, reduceIte, or_true, true_or, z10, z00, true_imp_iff, false_imp_iff, not_false_eq_true, not_true_eq_false, true_and, and_true, Nat.zero_le, Nat.sub_zero, List.length_cons, List.length_nil, Nat.reduceAdd, Nat.reduceLT, Nat.reduceLeDiff]
        rw [nI_1]
        refine ih (x + 1) r1 o3 hz (by omega) ho ?_
        unfold tbody
        rw [if_neg hzz, List.append_nil]
        exact hR1
      · have hzz : 0 < tp N x := by
          rcases Nat.eq_zero_or_pos (tp N x) with z | z
          · rw [z] at q; exact absurd (by decide) q
          · exact z
        refine k_X0_addName hL hR1 hF hI (by omega) (by
          rw [sT2]
          simp only [List.length_append, List.length_replicate, List.length_cons, List.length_nil]
          omega) (fun r2 o2 hR2 => ?_)
        simp only [u_X5_packTable_0, u_X5_packTable_1, u_X5_packTable_2, u_X5_packTable_3, u_X5_packTable_4, u_X5_packTable_5, u_X5_packTable_6, u_X5_packTable_12, u_X5_packTable_13, u_X5_packTable_14, u_X5_packTable_15, u_X5_packTable_19, u_X5_packTable_20, u_X5_packTable_23, u_X5_packTable_26, u_X5_packTable_27, u_X5_packTable_30, u_X5_packTable_31, u_X5_packTable_32, u_X5_packTable_36, u_X5_packTable_37, u_X5_packTable_39, u_X5_packTable_43, u_X5_packTable_44, u_X5_packTable_46, u_X5_packTable_47, u_X5_packTable_51, u_X5_packTable_52, u_X5_packTable_56, u_X5_packTable_60, u_X5_packTable_61, u_X5_packTable_67, u_X5_packTable_68, u_X5_packTable_70, u_X5_packTable_76, u_X5_packTable_77, u_X5_packTable_78, u_X5_packTable_80, u_X5_packTable_83, u_X5_packTable_84, u_X5_packTable_86, u_X5_packTable_92, u_X5_packTable_95, u_X5_packTable_96, u_X5_packTable_97, sa_put, sa_sel, sa_split, so_aload, so_bin, so_goto, so_if, so_iinc, so_iload, so_istore, so_push, so_ret, so_stat, so_virt, sa_nth, g2, List.cons_append, List.nil_append, Nat.reduceEqDiff, Option.toList_none, Option.toList_some, if_false, if_true, reduceIte, or_true, true_or, z10, z00, true_imp_iff, false_imp_iff, not_false_eq_true, not_true_eq_false, true_and, and_true, Nat.zero_le, Nat.sub_zero, List.length_cons, List.length_nil, Nat.reduceAdd, Nat.reduceLT, Nat.reduceLeDiff]
        refine k_X0_addText (hL.1 F) hR2 (by decide) (by
          rw [sT2, sT4]
          simp only [List.length_append, List.length_replicate, List.length_cons, List.length_nil]
          omega) (fun r3 o3' hR3 => ?_)
        simp only [u_X5_packTable_0, u_X5_packTable_1, u_X5_packTable_2, u_X5_packTable_3, u_X5_packTable_4, u_X5_packTable_5, u_X5_packTable_6, u_X5_packTable_12, u_X5_packTable_13, u_X5_packTable_14, u_X5_packTable_15, u_X5_packTable_19, u_X5_packTable_20, u_X5_packTable_23, u_X5_packTable_26, u_X5_packTable_27, u_X5_packTable_30, u_X5_packTable_31, u_X5_packTable_32, u_X5_packTable_36, u_X5_packTable_37, u_X5_packTable_39, u_X5_packTable_43, u_X5_packTable_44, u_X5_packTable_46, u_X5_packTable_47, u_X5_packTable_51, u_X5_packTable_52, u_X5_packTable_56, u_X5_packTable_60, u_X5_packTable_61, u_X5_packTable_67, u_X5_packTable_68, u_X5_packTable_70, u_X5_packTable_76, u_X5_packTable_77, u_X5_packTable_78, u_X5_packTable_80, u_X5_packTable_84, u_X5_packTable_86, u_X5_packTable_89, u_X5_packTable_92, u_X5_packTable_95, u_X5_packTable_96, u_X5_packTable_97, sa_put, sa_sel, sa_split, so_aload, so_bin, so_goto, so_if, so_iinc, so_iload, so_istore, so_push, so_ret, so_stat, so_virt, sa_nth, List.cons_append, List.nil_append, Nat.reduceEqDiff, Option.toList_none, Option.toList_some, if_false, if_true, reduceIte, or_true, true_or, z10, z00, true_imp_iff, false_imp_iff, not_false_eq_true, not_true_eq_false, true_and, and_true, Nat.zero_le, Nat.sub_zero, List.length_cons, List.length_nil, Nat.reduceAdd, Nat.reduceLT, Nat.reduceLeDiff]
        rw [nI_1]
        refine ih (x + 1) r3 o3 hz (by omega) (o3'.trans (o2.trans ho)) ?_
        unfold tbody
        rw [if_pos hzz]
        simpa [List.append_assoc] using hR3
  have loop1 : ∀ (m x : Nat), x + m = N.length → sa_w tb_X5_packTable (4, [some (.inr (.inl (some 1))), some (.inr (.inl (some 11))), some (.inl (nI (tps N x))), some (.inl (nI x)), none], [], C r F, 0, 0) Q := by
    intro m
    induction m with
    | zero =>
      intro x hx
      simp only [u_X5_packTable_0, u_X5_packTable_1, u_X5_packTable_2, u_X5_packTable_3, u_X5_packTable_4, u_X5_packTable_5, u_X5_packTable_6, u_X5_packTable_12, u_X5_packTable_13, u_X5_packTable_14, u_X5_packTable_15, u_X5_packTable_19, u_X5_packTable_20, u_X5_packTable_23, u_X5_packTable_26, u_X5_packTable_27, u_X5_packTable_30, u_X5_packTable_31, u_X5_packTable_32, u_X5_packTable_36, u_X5_packTable_37, u_X5_packTable_39, u_X5_packTable_43, u_X5_packTable_44, u_X5_packTable_46, u_X5_packTable_47, u_X5_packTable_51, u_X5_packTable_52, u_X5_packTable_56, u_X5_packTable_58, u_X5_packTable_60, u_X5_packTable_61, u_X5_packTable_67, u_X5_packTable_68, u_X5_packTable_70, u_X5_packTable_76, u_X5_packTable_77, u_X5_packTable_78, u_X5_packTable_80, u_X5_packTable_84, u_X5_packTable_86, u_X5_packTable_92, u_X5_packTable_95, u_X5_packTable_96, u_X5_packTable_97, sa_put, sa_sel, sa_split, so_aload, so_bin, so_goto, so_if, so_iinc, so_iload, so_istore, so_push, so_ret, so_stat, so_virt, sa_nth, g1, g2, List.cons_append, List.nil_append, Nat.reduceEqDiff, Option.toList_none, Option.toList_some, if_false, if_true, reduceIte, or_true, true_or, z10, z00, true_imp_iff, false_imp_iff, not_false_eq_true, not_true_eq_false, true_and, and_true, Nat.zero_le, Nat.sub_zero, List.length_cons, List.length_nil, Nat.reduceAdd, Nat.reduceLT, Nat.reduceLeDiff]
      refine k_X8_count ((hL.2 r).1 F.2.2) hF.1 ?_
      simp only [u_X5_packTable_0, u_X5_packTable_1, u_X5_packTable_2, u_X5_packTable_3, u_X5_packTable_5, u_X5_packTable_6, u_X5_packTable_9, u_X5_packTable_12, u_X5_packTable_13, u_X5_packTable_14, u_X5_packTable_15, u_X5_packTable_19, u_X5_packTable_20, u_X5_packTable_23, u_X5_packTable_26, u_X5_packTable_27, u_X5_packTable_30, u_X5_packTable_31, u_X5_packTable_32, u_X5_packTable_36, u_X5_packTable_37, u_X5_packTable_39, u_X5_packTable_43, u_X5_packTable_44, u_X5_packTable_46, u_X5_packTable_47, u_X5_packTable_51, u_X5_packTable_52, u_X5_packTable_56, u_X5_packTable_58, u_X5_packTable_60, u_X5_packTable_61, u_X5_packTable_67, u_X5_packTable_68, u_X5_packTable_70, u_X5_packTable_76, u_X5_packTable_77, u_X5_packTable_78, u_X5_packTable_80, u_X5_packTable_84, u_X5_packTable_86, u_X5_packTable_92, u_X5_packTable_95, u_X5_packTable_96, u_X5_packTable_97, sa_put, sa_sel, sa_split, so_aload, so_bin, so_cmp, so_goto, so_if, so_iinc, so_iload, so_istore, so_push, so_ret, so_stat, so_virt, sa_nth, g1, g2, List.cons_append, List.nil_append, Nat.reduceEqDiff, Option.toList_none, Option.toList_some, if_false, if_true, reduceIte, or_true, true_or, z10, z00, true_imp_iff, false_imp_iff, not_false_eq_true, not_true_eq_false, true_and, and_true, Nat.zero_le, Nat.sub_zero, List.length_cons, List.length_nil, Nat.reduceAdd, Nat.reduceLT, Nat.reduceLeDiff]
      rw [nI_leI (by omega) (by omega)]
      refine ⟨fun _ => ?_, fun q => absurd (by omega) q⟩
      have hxn : x = N.length := by omega
      subst hxn
      refine ⟨fun q => h r rfl ?_, fun q => ?_⟩
      · have hz : tps N N.length = 0 := (nI_eq (b := 0) (by omega) (by omega)).mp q
        unfold table
        rw [if_pos hz, List.append_nil]; exact hR
      · have hz : tps N N.length ≠ 0 := fun c => q (by rw [c]; rfl)
        refine k_X0_size (hL.1 F) hR ?_
        simp only [u_X5_packTable_0, u_X5_packTable_1, u_X5_packTable_2, u_X5_packTable_3, u_X5_packTable_4, u_X5_packTable_5, u_X5_packTable_6, u_X5_packTable_12, u_X5_packTable_13, u_X5_packTable_14, u_X5_packTable_15, u_X5_packTable_19, u_X5_packTable_20, u_X5_packTable_23, u_X5_packTable_26, u_X5_packTable_27, u_X5_packTable_30, u_X5_packTable_31, u_X5_packTable_32, u_X5_packTable_35, u_X5_packTable_36, u_X5_packTable_37, u_X5_packTable_39, u_X5_packTable_43, u_X5_packTable_44, u_X5_packTable_46, u_X5_packTable_47, u_X5_packTable_51, u_X5_packTable_52, u_X5_packTable_56, u_X5_packTable_60, u_X5_packTable_61, u_X5_packTable_67, u_X5_packTable_68, u_X5_packTable_70, u_X5_packTable_76, u_X5_packTable_77, u_X5_packTable_78, u_X5_packTable_80, u_X5_packTable_84, u_X5_packTable_86, u_X5_packTable_92, u_X5_packTable_95, u_X5_packTable_96, u_X5_packTable_97, sa_put, sa_sel, sa_split, so_aload, so_bin, so_goto, so_if, so_iinc, so_iload, so_istore, so_push, so_ret, so_stat, so_virt, sa_nth, g2, List.cons_append, List.nil_append, Nat.reduceEqDiff, Option.toList_none, Option.toList_some, if_false, if_true, reduceIte, or_true, true_or, z10, z00, true_imp_iff, false_imp_iff, not_false_eq_true, not_true_eq_false, true_and, and_true, Nat.zero_le, Nat.sub_zero, List.length_cons, List.length_nil, Nat.reduceAdd, Nat.reduceLT, Nat.reduceLeDiff]
        refine k_X0_addText (hL.1 F) hR (by decide) (by rw [sT2]; simp only [List.length_cons, List.length_nil]; omega) (fun r1 o1 hR1 => ?_)
        simp only [u_X5_packTable_0, u_X5_packTable_1, u_X5_packTable_2, u_X5_packTable_3, u_X5_packTable_4, u_X5_packTable_5, u_X5_packTable_6, u_X5_packTable_12, u_X5_packTable_13, u_X5_packTable_14, u_X5_packTable_15, u_X5_packTable_19, u_X5_packTable_20, u_X5_packTable_23, u_X5_packTable_26, u_X5_packTable_27, u_X5_packTable_30, u_X5_packTable_31, u_X5_packTable_32, u_X5_packTable_36, u_X5_packTable_37, u_X5_packTable_39, u_X5_packTable_42, u_X5_packTable_43, u_X5_packTable_44, u_X5_packTable_46, u_X5_packTable_47, u_X5_packTable_51, u_X5_packTable_52, u_X5_packTable_56, u_X5_packTable_60, u_X5_packTable_61, u_X5_packTable_67, u_X5_packTable_68, u_X5_packTable_70, u_X5_packTable_76, u_X5_packTable_77, u_X5_packTable_78, u_X5_packTable_80, u_X5_packTable_84, u_X5_packTable_86, u_X5_packTable_92, u_X5_packTable_95, u_X5_packTable_96, u_X5_packTable_97, sa_put, sa_sel, sa_split, so_aload, so_bin, so_goto, so_if, so_iinc, so_iload, so_istore, so_push, so_ret, so_stat, so_virt, sa_nth, g2, List.cons_append, List.nil_append, Nat.reduceEqDiff, Option.toList_none, Option.toList_some, if_false, if_true, reduceIte, or_true, true_or, z10, z00, true_imp_iff, false_imp_iff, not_false_eq_true, not_true_eq_false, true_and, and_true, Nat.zero_le, Nat.sub_zero, List.length_cons, List.length_nil, Nat.reduceAdd, Nat.reduceLT, Nat.reduceLeDiff]
        rw [show (8 : Int32) = nI 8 from rfl, nI_add]
        refine k_X0_addBlanksTo (hL.1 F) hR1 (by omega) (fun r2 o2 hR2 => ?_)
        rw [List.length_append, sT2, show l.length + 8 - (l.length + [(47 : Int32), 47].length) = 6 by simp only [List.length_cons, List.length_nil]; omega] at hR2
        simp only [u_X5_packTable_0, u_X5_packTable_1, u_X5_packTable_2, u_X5_packTable_3, u_X5_packTable_4, u_X5_packTable_5, u_X5_packTable_6, u_X5_packTable_12, u_X5_packTable_13, u_X5_packTable_14, u_X5_packTable_15, u_X5_packTable_19, u_X5_packTable_20, u_X5_packTable_23, u_X5_packTable_26, u_X5_packTable_27, u_X5_packTable_30, u_X5_packTable_31, u_X5_packTable_32, u_X5_packTable_36, u_X5_packTable_37, u_X5_packTable_39, u_X5_packTable_43, u_X5_packTable_44, u_X5_packTable_46, u_X5_packTable_47, u_X5_packTable_50, u_X5_packTable_51, u_X5_packTable_52, u_X5_packTable_56, u_X5_packTable_60, u_X5_packTable_61, u_X5_packTable_67, u_X5_packTable_68, u_X5_packTable_70, u_X5_packTable_76, u_X5_packTable_77, u_X5_packTable_78, u_X5_packTable_80, u_X5_packTable_84, u_X5_packTable_86, u_X5_packTable_92, u_X5_packTable_95, u_X5_packTable_96, u_X5_packTable_97, sa_put, sa_sel, sa_split, so_aload, so_bin, so_goto, so_if, so_iinc, so_iload, so_istore, so_push, so_ret, so_stat, so_virt, sa_nth, g2, List.cons_append, List.nil_append, Nat.reduceEqDiff, Option.toList_none, Option.toList_some, if_false, if_true, reduceIte, or_true, true_or, z10, z00, true_imp_iff, false_imp_iff, not_false_eq_true, not_true_eq_false, true_and, and_true, Nat.zero_le, Nat.sub_zero, List.length_cons, List.length_nil, Nat.reduceAdd, Nat.reduceLT, Nat.reduceLeDiff]
        refine k_X5_packSize hL hR2 (by omega) (by
          simp only [List.length_append, List.length_replicate, List.length_cons, List.length_nil]
          omega) (fun r3 o3 hR3 => ?_)
        simp only [u_X5_packTable_0, u_X5_packTable_1, u_X5_packTable_2, u_X5_packTable_3, u_X5_packTable_4, u_X5_packTable_5, u_X5_packTable_6, u_X5_packTable_12, u_X5_packTable_13, u_X5_packTable_14, u_X5_packTable_15, u_X5_packTable_19, u_X5_packTable_20, u_X5_packTable_23, u_X5_packTable_26, u_X5_packTable_27, u_X5_packTable_30, u_X5_packTable_31, u_X5_packTable_32, u_X5_packTable_36, u_X5_packTable_37, u_X5_packTable_39, u_X5_packTable_43, u_X5_packTable_44, u_X5_packTable_46, u_X5_packTable_47, u_X5_packTable_51, u_X5_packTable_52, u_X5_packTable_55, u_X5_packTable_56, u_X5_packTable_60, u_X5_packTable_61, u_X5_packTable_67, u_X5_packTable_68, u_X5_packTable_70, u_X5_packTable_76, u_X5_packTable_77, u_X5_packTable_78, u_X5_packTable_80, u_X5_packTable_84, u_X5_packTable_86, u_X5_packTable_92, u_X5_packTable_95, u_X5_packTable_96, u_X5_packTable_97, sa_put, sa_sel, sa_split, so_aload, so_bin, so_goto, so_if, so_iinc, so_iload, so_istore, so_push, so_ret, so_stat, so_virt, sa_nth, List.cons_append, List.nil_append, Nat.reduceEqDiff, Option.toList_none, Option.toList_some, if_false, if_true, reduceIte, or_true, true_or, z10, z00, true_imp_iff, false_imp_iff, not_false_eq_true, not_true_eq_false, true_and, and_true, Nat.zero_le, Nat.sub_zero, List.length_cons, List.length_nil, Nat.reduceAdd, Nat.reduceLT, Nat.reduceLeDiff]
        refine loop2 _ 0 r3 _ hz (Nat.zero_add _) (o3.trans (o2.trans o1)) ?_
        rw [sT2]
        simpa [tbody, List.append_assoc] using hR3
    | succ m ih =>
      intro x hx
      have htx := tps_le N hI.1 x
      simp only [u_X5_packTable_0, u_X5_packTable_1, u_X5_packTable_2, u_X5_packTable_3, u_X5_packTable_4, u_X5_packTable_5, u_X5_packTable_6, u_X5_packTable_12, u_X5_packTable_13, u_X5_packTable_14, u_X5_packTable_15, u_X5_packTable_19, u_X5_packTable_20, u_X5_packTable_23, u_X5_packTable_26, u_X5_packTable_27, u_X5_packTable_30, u_X5_packTable_31, u_X5_packTable_32, u_X5_packTable_36, u_X5_packTable_37, u_X5_packTable_39, u_X5_packTable_43, u_X5_packTable_44, u_X5_packTable_46, u_X5_packTable_47, u_X5_packTable_51, u_X5_packTable_52, u_X5_packTable_56, u_X5_packTable_58, u_X5_packTable_60, u_X5_packTable_61, u_X5_packTable_67, u_X5_packTable_68, u_X5_packTable_70, u_X5_packTable_76, u_X5_packTable_77, u_X5_packTable_78, u_X5_packTable_80, u_X5_packTable_84, u_X5_packTable_86, u_X5_packTable_92, u_X5_packTable_95, u_X5_packTable_96, u_X5_packTable_97, sa_put, sa_sel, sa_split, so_aload, so_bin, so_goto, so_if, so_iinc, so_iload, so_istore, so_push, so_ret, so_stat, so_virt, sa_nth, g1, g2, List.cons_append, List.nil_append, Nat.reduceEqDiff, Option.toList_none, Option.toList_some, if_false, if_true, reduceIte, or_true, true_or, z10, z00, true_imp_iff, false_imp_iff, not_false_eq_true, not_true_eq_false, true_and, and_true, Nat.zero_le, Nat.sub_zero, List.length_cons, List.length_nil, Nat.reduceAdd, Nat.reduceLT, Nat.reduceLeDiff]
      refine k_X8_count ((hL.2 r).1 F.2.2) hF.1 ?_
      simp only [u_X5_packTable_0, u_X5_packTable_1, u_X5_packTable_2, u_X5_packTable_3, u_X5_packTable_5, u_X5_packTable_6, u_X5_packTable_9, u_X5_packTable_12, u_X5_packTable_13, u_X5_packTable_14, u_X5_packTable_15, u_X5_packTable_19, u_X5_packTable_20, u_X5_packTable_23, u_X5_packTable_26, u_X5_packTable_27, u_X5_packTable_30, u_X5_packTable_31, u_X5_packTable_32, u_X5_packTable_36, u_X5_packTable_37, u_X5_packTable_39, u_X5_packTable_43, u_X5_packTable_44, u_X5_packTable_46, u_X5_packTable_47, u_X5_packTable_51, u_X5_packTable_52, u_X5_packTable_56, u_X5_packTable_58, u_X5_packTable_60, u_X5_packTable_61, u_X5_packTable_67, u_X5_packTable_68, u_X5_packTable_70, u_X5_packTable_76, u_X5_packTable_77, u_X5_packTable_78, u_X5_packTable_80, u_X5_packTable_84, u_X5_packTable_86, u_X5_packTable_92, u_X5_packTable_95, u_X5_packTable_96, u_X5_packTable_97, sa_put, sa_sel, sa_split, so_aload, so_bin, so_cmp, so_goto, so_if, so_iinc, so_iload, so_istore, so_push, so_ret, so_stat, so_virt, sa_nth, g1, g2, List.cons_append, List.nil_append, Nat.reduceEqDiff, Option.toList_none, Option.toList_some, if_false, if_true, reduceIte, or_true, true_or, z10, z00, true_imp_iff, false_imp_iff, not_false_eq_true, not_true_eq_false, true_and, and_true, Nat.zero_le, Nat.sub_zero, List.length_cons, List.length_nil, Nat.reduceAdd, Nat.reduceLT, Nat.reduceLeDiff]
      rw [nI_leI (by omega) (by omega)]
      refine ⟨fun q => absurd q (by omega), fun _ => ?_⟩
      refine k_X5_tablePart (hL.2 r) hF hI (by omega) ?_
      simp only [u_X5_packTable_0, u_X5_packTable_1, u_X5_packTable_2, u_X5_packTable_3, u_X5_packTable_5, u_X5_packTable_6, u_X5_packTable_12, u_X5_packTable_13, u_X5_packTable_14, u_X5_packTable_15, u_X5_packTable_18, u_X5_packTable_19, u_X5_packTable_20, u_X5_packTable_23, u_X5_packTable_26, u_X5_packTable_27, u_X5_packTable_30, u_X5_packTable_31, u_X5_packTable_32, u_X5_packTable_36, u_X5_packTable_37, u_X5_packTable_39, u_X5_packTable_43, u_X5_packTable_44, u_X5_packTable_46, u_X5_packTable_47, u_X5_packTable_51, u_X5_packTable_52, u_X5_packTable_56, u_X5_packTable_58, u_X5_packTable_60, u_X5_packTable_61, u_X5_packTable_67, u_X5_packTable_68, u_X5_packTable_70, u_X5_packTable_76, u_X5_packTable_77, u_X5_packTable_78, u_X5_packTable_80, u_X5_packTable_84, u_X5_packTable_86, u_X5_packTable_92, u_X5_packTable_95, u_X5_packTable_96, u_X5_packTable_97, sa_put, sa_sel, sa_split, so_aload, so_bin, so_goto, so_if, so_iinc, so_iload, so_istore, so_push, so_ret, so_stat, so_virt, sa_nth, List.cons_append, List.nil_append, Nat.reduceEqDiff, Option.toList_none, Option.toList_some, if_false, if_true, reduceIte, or_true, true_or, z10, z00, true_imp_iff, false_imp_iff, not_false_eq_true, not_true_eq_false, true_and, and_true, Nat.zero_le, Nat.sub_zero, List.length_cons, List.length_nil, Nat.reduceAdd, Nat.reduceLT, Nat.reduceLeDiff]
      rw [nI_1, nI_add]
      exact ih (x + 1) (by omega)
  simp only [e_X5_packTable, u_X5_packTable_0, u_X5_packTable_1, u_X5_packTable_2, u_X5_packTable_3, u_X5_packTable_5, u_X5_packTable_6, u_X5_packTable_12, u_X5_packTable_13, u_X5_packTable_14, u_X5_packTable_15, u_X5_packTable_19, u_X5_packTable_20, u_X5_packTable_23, u_X5_packTable_26, u_X5_packTable_27, u_X5_packTable_30, u_X5_packTable_31, u_X5_packTable_32, u_X5_packTable_36, u_X5_packTable_37, u_X5_packTable_39, u_X5_packTable_43, u_X5_packTable_44, u_X5_packTable_46, u_X5_packTable_47, u_X5_packTable_51, u_X5_packTable_52, u_X5_packTable_56, u_X5_packTable_58, u_X5_packTable_60, u_X5_packTable_61, u_X5_packTable_67, u_X5_packTable_68, u_X5_packTable_70, u_X5_packTable_76, u_X5_packTable_77, u_X5_packTable_78, u_X5_packTable_80, u_X5_packTable_84, u_X5_packTable_86, u_X5_packTable_92, u_X5_packTable_95, u_X5_packTable_96, u_X5_packTable_97, sa_put, sa_sel, sa_split, so_aload, so_bin, so_goto, so_if, so_iinc, so_iload, so_istore, so_push, so_ret, so_stat, so_virt, sa_nth, List.cons_append, List.nil_append, Nat.reduceEqDiff, Option.toList_none, Option.toList_some, if_false, if_true, reduceIte, or_true, true_or, z10, z00, true_imp_iff, false_imp_iff, not_false_eq_true, not_true_eq_false, true_and, and_true, Nat.zero_le, Nat.sub_zero, List.length_cons, List.length_nil, Nat.reduceAdd, Nat.reduceLT, Nat.reduceLeDiff]
  exact loop1 _ 0 (Nat.zero_add _)
theorem k_X5_pack (hL : sP_L C) (h25 : ∀ r F, ∃ c, sa_nth (C r F) 25 = some c) (hR : sB_R 1500 r []) (hF : sF_R F N D T) (hI : sIF N D T) (h : ∀ r', r'.2.2 = r.2.2 → sB_R 1500 r' (hdsL N D T) → Q none (C r' F)) : ct_X5_pack 0 0 [.inr (.inl (some 25)), .inr (.inl (some 1)), .inr (.inl (some 11))] (C r F) Q := by
  have g1 := p_1 hL
  have g2 := p_11 hL
  have hn := hF.1.2.2.1
  have htl := table_len N hI.1 hn
  have loop : ∀ (m x : Nat) (r1 : sB_T), x + m = N.length → r1.2.2 = r.2.2 → sB_R 1500 r1 (sT 1 ++ table N ++ hbody N D T x) → sa_w tb_X5_pack (16, [some (.inr (.inl (some 25))), some (.inr (.inl (some 1))), some (.inr (.inl (some 11))), some (.inl (nI (tps N x))), some (.inl (nI x))], [], C r1 F, 0, 0) Q := by
    intro m
    induction m with
    | zero =>
      intro x r1 hx ho hR1
      simp only [u_X5_pack_0, u_X5_pack_1, u_X5_pack_3, u_X5_pack_7, u_X5_pack_8, u_X5_pack_12, u_X5_pack_13, u_X5_pack_14, u_X5_pack_16, u_X5_pack_18, u_X5_pack_19, u_X5_pack_25, u_X5_pack_26, u_X5_pack_28, u_X5_pack_29, u_X5_pack_30, u_X5_pack_34, u_X5_pack_36, u_X5_pack_40, u_X5_pack_44, u_X5_pack_45, u_X5_pack_47, u_X5_pack_51, u_X5_pack_53, u_X5_pack_57, u_X5_pack_61, u_X5_pack_62, u_X5_pack_64, u_X5_pack_68, u_X5_pack_69, u_X5_pack_72, u_X5_pack_75, sa_put, sa_sel, sa_split, so_aload, so_goto, so_iinc, so_iload, so_istore, so_push, so_ret, so_stat, so_virt, sa_nth, g1, g2, List.cons_append, List.nil_append, Nat.reduceEqDiff, Option.toList_none, Option.toList_some, if_false, if_true, reduceIte, or_true, true_or, z10, z00, true_imp_iff, false_imp_iff, not_false_eq_true, not_true_eq_false, true_and, and_true, Nat.zero_le, Nat.sub_zero, List.length_cons, List.length_nil, Nat.reduceAdd, Nat.reduceLT, Nat.reduceLeDiff]
      refine k_X8_count ((hL.2 r1).1 F.2.2) hF.1 ?_
      simp only [u_X5_pack_0, u_X5_pack_1, u_X5_pack_3, u_X5_pack_7, u_X5_pack_8, u_X5_pack_12, u_X5_pack_13, u_X5_pack_14, u_X5_pack_18, u_X5_pack_19, u_X5_pack_22, u_X5_pack_25, u_X5_pack_26, u_X5_pack_28, u_X5_pack_29, u_X5_pack_30, u_X5_pack_34, u_X5_pack_36, u_X5_pack_40, u_X5_pack_44, u_X5_pack_45, u_X5_pack_47, u_X5_pack_51, u_X5_pack_53, u_X5_pack_57, u_X5_pack_61, u_X5_pack_62, u_X5_pack_64, u_X5_pack_68, u_X5_pack_69, u_X5_pack_72, u_X5_pack_75, sa_put, sa_sel, sa_split, so_aload, so_cmp, so_goto, so_iinc, so_iload, so_istore, so_push, so_ret, so_stat, so_virt, sa_nth, g1, g2, List.cons_append, List.nil_append, Nat.reduceEqDiff, Option.toList_none, Option.toList_some, if_false, if_true, reduceIte, or_true, true_or, z10, z00, true_imp_iff, false_imp_iff, not_false_eq_true, not_true_eq_false, true_and, and_true, Nat.zero_le, Nat.sub_zero, List.length_cons, List.length_nil, Nat.reduceAdd, Nat.reduceLT, Nat.reduceLeDiff]
      rw [nI_leI (by omega) (by omega)]
      refine ⟨fun _ => h r1 ho ?_, fun q => absurd (by omega) q⟩
      rw [show x = N.length by omega] at hR1
      exact hR1
    | succ m ih =>
      intro x r1 hx ho hR1
      have hb := hbody_len N D T hI x
      have hc := row_le60 hI (sF_h T (nI x))
      have htx := tps_le N hI.1 x
      have hnf := nmF_len N x (tps N x)
      have hsf := szF_len (cont D T x).length
      have hl0 : (sT 1 ++ table N ++ hbody N D T x).length ≤ 283 + 75 * x := by
        rw [sT1]
        simp only [List.length_append, List.length_cons, List.length_nil]
        omega
      generalize hl1 : sT 1 ++ table N ++ hbody N D T x = l1 at hR1 hl0
      simp only [u_X5_pack_0, u_X5_pack_1, u_X5_pack_3, u_X5_pack_7, u_X5_pack_8, u_X5_pack_12, u_X5_pack_13, u_X5_pack_14, u_X5_pack_16, u_X5_pack_18, u_X5_pack_19, u_X5_pack_25, u_X5_pack_26, u_X5_pack_28, u_X5_pack_29, u_X5_pack_30, u_X5_pack_34, u_X5_pack_36, u_X5_pack_40, u_X5_pack_44, u_X5_pack_45, u_X5_pack_47, u_X5_pack_51, u_X5_pack_53, u_X5_pack_57, u_X5_pack_61, u_X5_pack_62, u_X5_pack_64, u_X5_pack_68, u_X5_pack_69, u_X5_pack_72, u_X5_pack_75, sa_put, sa_sel, sa_split, so_aload, so_goto, so_iinc, so_iload, so_istore, so_push, so_ret, so_stat, so_virt, sa_nth, g1, g2, List.cons_append, List.nil_append, Nat.reduceEqDiff, Option.toList_none, Option.toList_some, if_false, if_true, reduceIte, or_true, true_or, z10, z00, true_imp_iff, false_imp_iff, not_false_eq_true, not_true_eq_false, true_and, and_true, Nat.zero_le, Nat.sub_zero, List.length_cons, List.length_nil, Nat.reduceAdd, Nat.reduceLT, Nat.reduceLeDiff]
      refine k_X8_count ((hL.2 r1).1 F.2.2) hF.1 ?_
      simp only [u_X5_pack_0, u_X5_pack_1, u_X5_pack_3, u_X5_pack_7, u_X5_pack_8, u_X5_pack_12, u_X5_pack_13, u_X5_pack_14, u_X5_pack_18, u_X5_pack_19, u_X5_pack_22, u_X5_pack_25, u_X5_pack_26, u_X5_pack_28, u_X5_pack_29, u_X5_pack_30, u_X5_pack_34, u_X5_pack_36, u_X5_pack_40, u_X5_pack_44, u_X5_pack_45, u_X5_pack_47, u_X5_pack_51, u_X5_pack_53, u_X5_pack_57, u_X5_pack_61, u_X5_pack_62, u_X5_pack_64, u_X5_pack_68, u_X5_pack_69, u_X5_pack_72, u_X5_pack_75, sa_put, sa_sel, sa_split, so_aload, so_cmp, so_goto, so_iinc, so_iload, so_istore, so_push, so_ret, so_stat, so_virt, sa_nth, g1, g2, List.cons_append, List.nil_append, Nat.reduceEqDiff, Option.toList_none, Option.toList_some, if_false, if_true, reduceIte, or_true, true_or, z10, z00, true_imp_iff, false_imp_iff, not_false_eq_true, not_true_eq_false, true_and, and_true, Nat.zero_le, Nat.sub_zero, List.length_cons, List.length_nil, Nat.reduceAdd, Nat.reduceLT, Nat.reduceLeDiff]
      rw [nI_leI (by omega) (by omega)]
      refine ⟨fun q => absurd q (by omega), fun _ => ?_⟩
      refine k_X5_packName hL hR1 hF hI (by omega) (by omega) (by omega) (fun r2 o2 hR2 => ?_)
      simp only [u_X5_pack_0, u_X5_pack_1, u_X5_pack_3, u_X5_pack_7, u_X5_pack_8, u_X5_pack_12, u_X5_pack_13, u_X5_pack_14, u_X5_pack_18, u_X5_pack_19, u_X5_pack_25, u_X5_pack_26, u_X5_pack_28, u_X5_pack_29, u_X5_pack_30, u_X5_pack_33, u_X5_pack_34, u_X5_pack_36, u_X5_pack_40, u_X5_pack_44, u_X5_pack_45, u_X5_pack_47, u_X5_pack_51, u_X5_pack_53, u_X5_pack_57, u_X5_pack_61, u_X5_pack_62, u_X5_pack_64, u_X5_pack_68, u_X5_pack_69, u_X5_pack_72, u_X5_pack_75, sa_put, sa_sel, sa_split, so_aload, so_goto, so_iinc, so_iload, so_istore, so_push, so_ret, so_stat, so_virt, sa_nth, g1, g2, List.cons_append, List.nil_append, Nat.reduceEqDiff, Option.toList_none, Option.toList_some, if_false, if_true, reduceIte, or_true, true_or, z10, z00, true_imp_iff, false_imp_iff, not_false_eq_true, not_true_eq_false, true_and, and_true, Nat.zero_le, Nat.sub_zero, List.length_cons, List.length_nil, Nat.reduceAdd, Nat.reduceLT, Nat.reduceLeDiff]
      refine kF_contentsLength (hL.2 r2) hF _ ?_
      simp only [u_X5_pack_0, u_X5_pack_1, u_X5_pack_3, u_X5_pack_7, u_X5_pack_8, u_X5_pack_12, u_X5_pack_13, u_X5_pack_14, u_X5_pack_18, u_X5_pack_19, u_X5_pack_25, u_X5_pack_26, u_X5_pack_28, u_X5_pack_29, u_X5_pack_30, u_X5_pack_34, u_X5_pack_36, u_X5_pack_39, u_X5_pack_40, u_X5_pack_44, u_X5_pack_45, u_X5_pack_47, u_X5_pack_51, u_X5_pack_53, u_X5_pack_57, u_X5_pack_61, u_X5_pack_62, u_X5_pack_64, u_X5_pack_68, u_X5_pack_69, u_X5_pack_72, u_X5_pack_75, sa_put, sa_sel, sa_split, so_aload, so_goto, so_iinc, so_iload, so_istore, so_push, so_ret, so_stat, so_virt, sa_nth, g1, g2, List.cons_append, List.nil_append, Nat.reduceEqDiff, Option.toList_none, Option.toList_some, if_false, if_true, reduceIte, or_true, true_or, z10, z00, true_imp_iff, false_imp_iff, not_false_eq_true, not_true_eq_false, true_and, and_true, Nat.zero_le, Nat.sub_zero, List.length_cons, List.length_nil, Nat.reduceAdd, Nat.reduceLT, Nat.reduceLeDiff]
      refine k_X5_packSize hL hR2 (by omega) (by rw [List.length_append]; omega) (fun r3 o3 hR3 => ?_)
      simp only [u_X5_pack_0, u_X5_pack_1, u_X5_pack_3, u_X5_pack_7, u_X5_pack_8, u_X5_pack_12, u_X5_pack_13, u_X5_pack_14, u_X5_pack_18, u_X5_pack_19, u_X5_pack_25, u_X5_pack_26, u_X5_pack_28, u_X5_pack_29, u_X5_pack_30, u_X5_pack_34, u_X5_pack_36, u_X5_pack_40, u_X5_pack_43, u_X5_pack_44, u_X5_pack_45, u_X5_pack_47, u_X5_pack_51, u_X5_pack_53, u_X5_pack_57, u_X5_pack_61, u_X5_pack_62, u_X5_pack_64, u_X5_pack_68, u_X5_pack_69, u_X5_pack_72, u_X5_pack_75, sa_put, sa_sel, sa_split, so_aload, so_goto, so_iinc, so_iload, so_istore, so_push, so_ret, so_stat, so_virt, sa_nth, g1, g2, List.cons_append, List.nil_append, Nat.reduceEqDiff, Option.toList_none, Option.toList_some, if_false, if_true, reduceIte, or_true, true_or, z10, z00, true_imp_iff, false_imp_iff, not_false_eq_true, not_true_eq_false, true_and, and_true, Nat.zero_le, Nat.sub_zero, List.length_cons, List.length_nil, Nat.reduceAdd, Nat.reduceLT, Nat.reduceLeDiff]
      refine k_X0_addContents hL hR3 hF hI (by omega) (by rw [List.length_append, List.length_append]; unfold cont at hsf; omega) (fun r4 o4 hR4 => ?_)
      simp only [u_X5_pack_0, u_X5_pack_1, u_X5_pack_3, u_X5_pack_7, u_X5_pack_8, u_X5_pack_12, u_X5_pack_13, u_X5_pack_14, u_X5_pack_18, u_X5_pack_19, u_X5_pack_25, u_X5_pack_26, u_X5_pack_28, u_X5_pack_29, u_X5_pack_30, u_X5_pack_34, u_X5_pack_36, u_X5_pack_40, u_X5_pack_44, u_X5_pack_45, u_X5_pack_47, u_X5_pack_50, u_X5_pack_51, u_X5_pack_53, u_X5_pack_57, u_X5_pack_61, u_X5_pack_62, u_X5_pack_64, u_X5_pack_68, u_X5_pack_69, u_X5_pack_72, u_X5_pack_75, sa_put, sa_sel, sa_split, so_aload, so_goto, so_iinc, so_iload, so_istore, so_push, so_ret, so_stat, so_virt, sa_nth, g1, g2, List.cons_append, List.nil_append, Nat.reduceEqDiff, Option.toList_none, Option.toList_some, if_false, if_true, reduceIte, or_true, true_or, z10, z00, true_imp_iff, false_imp_iff, not_false_eq_true, not_true_eq_false, true_and, and_true, Nat.zero_le, Nat.sub_zero, List.length_cons, List.length_nil, Nat.reduceAdd, Nat.reduceLT, Nat.reduceLeDiff]
      refine kF_contentsLength (hL.2 r4) hF _ ?_
      simp only [u_X5_pack_0, u_X5_pack_1, u_X5_pack_3, u_X5_pack_7, u_X5_pack_8, u_X5_pack_12, u_X5_pack_13, u_X5_pack_14, u_X5_pack_18, u_X5_pack_19, u_X5_pack_25, u_X5_pack_26, u_X5_pack_28, u_X5_pack_29, u_X5_pack_30, u_X5_pack_34, u_X5_pack_36, u_X5_pack_40, u_X5_pack_44, u_X5_pack_45, u_X5_pack_47, u_X5_pack_51, u_X5_pack_53, u_X5_pack_56, u_X5_pack_57, u_X5_pack_61, u_X5_pack_62, u_X5_pack_64, u_X5_pack_68, u_X5_pack_69, u_X5_pack_72, u_X5_pack_75, sa_put, sa_sel, sa_split, so_aload, so_goto, so_iinc, so_iload, so_istore, so_push, so_ret, so_stat, so_virt, sa_nth, g1, g2, List.cons_append, List.nil_append, Nat.reduceEqDiff, Option.toList_none, Option.toList_some, if_false, if_true, reduceIte, or_true, true_or, z10, z00, true_imp_iff, false_imp_iff, not_false_eq_true, not_true_eq_false, true_and, and_true, Nat.zero_le, Nat.sub_zero, List.length_cons, List.length_nil, Nat.reduceAdd, Nat.reduceLT, Nat.reduceLeDiff]
      refine k_X5_packPad hL hR4 (by omega) (by rw [List.length_append, List.length_append, List.length_append]; unfold cont at hsf; omega) (fun r5 o5 hR5 => ?_)
      simp only [u_X5_pack_0, u_X5_pack_1, u_X5_pack_3, u_X5_pack_7, u_X5_pack_8, u_X5_pack_12, u_X5_pack_13, u_X5_pack_14, u_X5_pack_18, u_X5_pack_19, u_X5_pack_25, u_X5_pack_26, u_X5_pack_28, u_X5_pack_29, u_X5_pack_30, u_X5_pack_34, u_X5_pack_36, u_X5_pack_40, u_X5_pack_44, u_X5_pack_45, u_X5_pack_47, u_X5_pack_51, u_X5_pack_53, u_X5_pack_57, u_X5_pack_60, u_X5_pack_61, u_X5_pack_62, u_X5_pack_64, u_X5_pack_68, u_X5_pack_69, u_X5_pack_72, u_X5_pack_75, sa_put, sa_sel, sa_split, so_aload, so_goto, so_iinc, so_iload, so_istore, so_push, so_ret, so_stat, so_virt, sa_nth, g1, g2, List.cons_append, List.nil_append, Nat.reduceEqDiff, Option.toList_none, Option.toList_some, if_false, if_true, reduceIte, or_true, true_or, z10, z00, true_imp_iff, false_imp_iff, not_false_eq_true, not_true_eq_false, true_and, and_true, Nat.zero_le, Nat.sub_zero, List.length_cons, List.length_nil, Nat.reduceAdd, Nat.reduceLT, Nat.reduceLeDiff]
      refine k_X5_tablePart (hL.2 r5) hF hI (by omega) ?_
      simp only [u_X5_pack_0, u_X5_pack_1, u_X5_pack_3, u_X5_pack_7, u_X5_pack_8, u_X5_pack_12, u_X5_pack_13, u_X5_pack_14, u_X5_pack_18, u_X5_pack_19, u_X5_pack_25, u_X5_pack_26, u_X5_pack_28, u_X5_pack_29, u_X5_pack_30, u_X5_pack_34, u_X5_pack_36, u_X5_pack_40, u_X5_pack_44, u_X5_pack_45, u_X5_pack_47, u_X5_pack_51, u_X5_pack_53, u_X5_pack_57, u_X5_pack_61, u_X5_pack_62, u_X5_pack_64, u_X5_pack_67, u_X5_pack_68, u_X5_pack_69, u_X5_pack_72, u_X5_pack_75, sa_put, sa_sel, sa_split, so_aload, so_bin, so_goto, so_iinc, so_iload, so_istore, so_push, so_ret, so_stat, so_virt, sa_nth, g1, g2, List.cons_append, List.nil_append, Nat.reduceEqDiff, Option.toList_none, Option.toList_some, if_false, if_true, reduceIte, or_true, true_or, z10, z00, true_imp_iff, false_imp_iff, not_false_eq_true, not_true_eq_false, true_and, and_true, Nat.zero_le, Nat.sub_zero, List.length_cons, List.length_nil, Nat.reduceAdd, Nat.reduceLT, Nat.reduceLeDiff]
      rw [nI_1, nI_add]
      refine ih (x + 1) r5 (by omega) (o5.trans (o4.trans (o3.trans (o2.trans ho)))) ?_
      unfold hbody cont
      rw [← List.append_assoc (sT 1 ++ table N), hl1]
      simpa [List.append_assoc] using hR5
  simp only [e_X5_pack, u_X5_pack_0, u_X5_pack_1, u_X5_pack_3, u_X5_pack_7, u_X5_pack_8, u_X5_pack_12, u_X5_pack_13, u_X5_pack_14, u_X5_pack_16, u_X5_pack_18, u_X5_pack_19, u_X5_pack_25, u_X5_pack_26, u_X5_pack_28, u_X5_pack_29, u_X5_pack_30, u_X5_pack_34, u_X5_pack_36, u_X5_pack_40, u_X5_pack_44, u_X5_pack_45, u_X5_pack_47, u_X5_pack_51, u_X5_pack_53, u_X5_pack_57, u_X5_pack_61, u_X5_pack_62, u_X5_pack_64, u_X5_pack_68, u_X5_pack_69, u_X5_pack_72, u_X5_pack_75, sa_put, sa_sel, sa_split, so_aload, so_goto, so_iinc, so_iload, so_istore, so_push, so_ret, so_stat, so_virt, sa_nth, g2, List.cons_append, List.nil_append, Nat.reduceEqDiff, Option.toList_none, Option.toList_some, if_false, if_true, reduceIte, or_true, true_or, z10, z00, true_imp_iff, false_imp_iff, not_false_eq_true, not_true_eq_false, true_and, and_true, Nat.zero_le, Nat.sub_zero, List.length_cons, List.length_nil, Nat.reduceAdd, Nat.reduceLT, Nat.reduceLeDiff]
  refine k_X0_addText (hL.1 F) hR (by decide) (by rw [sT1]; simp) (fun r1 o1 hR1 => ?_)
  simp only [u_X5_pack_0, u_X5_pack_1, u_X5_pack_3, u_X5_pack_6, u_X5_pack_7, u_X5_pack_8, u_X5_pack_12, u_X5_pack_13, u_X5_pack_14, u_X5_pack_18, u_X5_pack_19, u_X5_pack_25, u_X5_pack_26, u_X5_pack_28, u_X5_pack_29, u_X5_pack_30, u_X5_pack_34, u_X5_pack_36, u_X5_pack_40, u_X5_pack_44, u_X5_pack_45, u_X5_pack_47, u_X5_pack_51, u_X5_pack_53, u_X5_pack_57, u_X5_pack_61, u_X5_pack_62, u_X5_pack_64, u_X5_pack_68, u_X5_pack_69, u_X5_pack_72, u_X5_pack_75, sa_put, sa_sel, sa_split, so_aload, so_goto, so_iinc, so_iload, so_istore, so_push, so_ret, so_stat, so_virt, sa_nth, List.cons_append, List.nil_append, Nat.reduceEqDiff, Option.toList_none, Option.toList_some, if_false, if_true, reduceIte, or_true, true_or, z10, z00, true_imp_iff, false_imp_iff, not_false_eq_true, not_true_eq_false, true_and, and_true, Nat.zero_le, Nat.sub_zero, List.length_cons, List.length_nil, Nat.reduceAdd, Nat.reduceLT, Nat.reduceLeDiff]
  refine k_X5_packTable hL hR1 hF hI (by rw [sT1]; simp) (fun r2 o2 hR2 => ?_)
  simp only [u_X5_pack_0, u_X5_pack_1, u_X5_pack_3, u_X5_pack_7, u_X5_pack_8, u_X5_pack_11, u_X5_pack_12, u_X5_pack_13, u_X5_pack_14, u_X5_pack_18, u_X5_pack_19, u_X5_pack_25, u_X5_pack_26, u_X5_pack_28, u_X5_pack_29, u_X5_pack_30, u_X5_pack_34, u_X5_pack_36, u_X5_pack_40, u_X5_pack_44, u_X5_pack_45, u_X5_pack_47, u_X5_pack_51, u_X5_pack_53, u_X5_pack_57, u_X5_pack_61, u_X5_pack_62, u_X5_pack_64, u_X5_pack_68, u_X5_pack_69, u_X5_pack_72, u_X5_pack_75, sa_put, sa_sel, sa_split, so_aload, so_goto, so_iinc, so_iload, so_istore, so_push, so_ret, so_stat, so_virt, sa_nth, List.cons_append, List.nil_append, Nat.reduceEqDiff, Option.toList_none, Option.toList_some, if_false, if_true, reduceIte, or_true, true_or, z10, z00, true_imp_iff, false_imp_iff, not_false_eq_true, not_true_eq_false, true_and, and_true, Nat.zero_le, Nat.sub_zero, List.length_cons, List.length_nil, Nat.reduceAdd, Nat.reduceLT, Nat.reduceLeDiff]
  refine loop _ 0 r2 (Nat.zero_add _) (o2.trans o1) ?_
  simpa [hbody] using hR2
end HDS
