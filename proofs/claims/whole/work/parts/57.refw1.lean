/-! THE REFERENCE WRITES -/
def sWr (t0 : gI) (A0 : gA) (t : gI) (A : gA) (w : List Int32) : Prop := sfF t0 A0 t A ∧ sfR t0 A0 t A ∧ sfE t0 A0 t A ∧ i_written t = nI w.length ∧ ∀ j, j < w.length → w[j]? = some (a_fresh A j)
theorem sMF_of {t0 t : gI} {A0 A : gA} {N D : List (List Int32)} {T : List Int32} (h : sfF t0 A0 t A) (hM : sMF t0 A0 N D T) : sMF t A N D T := by
  obtain ⟨f1, f2, f3, f4, f5, f6⟩ := h
  obtain ⟨b1, b2, b3, e1, e2⟩ := hM
  refine ⟨b1, b2, b3, f1.trans e1, fun i hi => ?_⟩
  rw [f2, f3, f4, f5, f6]
  exact e2 i hi
section RW1
variable {C : gI → gA → sa_H} {t0 t : gI} {A0 A : gA} {w : List Int32} {N D : List (List Int32)} {T : List Int32} {Q : sa_Q}
theorem k_X11_write1 (hL : sM_L C) (hW : sWr t0 A0 t A w) (hlt : w.length < 4000) (c : Int32) (h : ∀ t' A', sWr t0 A0 t' A' (w ++ [c]) → Q none (C t' A')) : ct_X11_write1 0 0 [.inr (.inl (some 28)), .inl c] (C t A) Q := by
  have l1 := m_o hL
  have l2 := m_po hL
  have l3 := m_fresh hL
  have l4 := m_pfresh hL
  obtain ⟨f1, f2, f3, e1, e2⟩ := hW
  dsimp only [i_written] at e1
  simp only [e_X11_write1, u_X11_write1_0, u_X11_write1_1, u_X11_write1_4, u_X11_write1_5, u_X11_write1_8, u_X11_write1_9, u_X11_write1_10, u_X11_write1_11, u_X11_write1_12, u_X11_write1_15, u_X11_write1_16, u_X11_write1_17, u_X11_write1_20, sa_put, so_aload, so_bin, so_dup, so_get, so_iast, so_iload, so_push, so_put, so_ret, sa_nth, mo, l1, l2, l3, l4, sc_9, sf_0, sf_1, sf_i, sf_r, or_true, true_or, z10, z00, true_imp_iff, false_imp_iff, not_false_eq_true, not_true_eq_false, true_and, and_true, Nat.zero_le, Nat.sub_zero, List.length_cons, List.length_nil, Nat.reduceAdd, Nat.reduceLT, Nat.reduceLeDiff]
  rw [e1, nI_1, nI_clamp (by omega)]
  refine ⟨vp_in_nI hlt (by omega), h _ _ ⟨f1, f2, f3, by simp, fun j hj => ?_⟩⟩
  rw [List.length_append] at hj
  simp only [List.length_cons, List.length_nil] at hj
  dsimp only [a_fresh]
  by_cases hq : j = w.length
  · subst hq
    rw [pk_us]; simp
  · rw [pk_un hq, List.getElem?_append_left (by omega)]
    exact e2 j (by omega)
theorem k_X11_write2 (hL : sM_L C) (hW : sWr t0 A0 t A w) (hlt : w.length + 1 < 4000) (v : Int32) (h : ∀ t' A', sWr t0 A0 t' A' (w ++ [(v >>> (8 : Int32)) &&& 255, v &&& 255]) → Q none (C t' A')) : ct_X11_write2 0 0 [.inr (.inl (some 28)), .inl v] (C t A) Q := by
  have l1 := m_o hL
  have e31 : (8 : Int32) &&& 31 = 8 := by decide
  simp only [e_X11_write2, u_X11_write2_0, u_X11_write2_1, u_X11_write2_2, u_X11_write2_4, u_X11_write2_5, u_X11_write2_8, u_X11_write2_9, u_X11_write2_13, u_X11_write2_14, u_X11_write2_17, u_X11_write2_18, sa_sel, sa_split, so_aload, so_bin, so_iload, so_push, so_virt, sa_nth, mo, l1, e31, List.cons_append, List.nil_append, Nat.reduceEqDiff, Option.toList_none, Option.toList_some, if_false, if_true, reduceIte, or_true, true_or, z10, z00, true_imp_iff, false_imp_iff, not_false_eq_true, not_true_eq_false, true_and, and_true, Nat.zero_le, Nat.sub_zero, List.length_cons, List.length_nil, Nat.reduceAdd, Nat.reduceLT, Nat.reduceLeDiff]
  refine k_X11_write1 hL hW (by omega) _ (fun t1 A1 hW1 => ?_)
  simp only [u_X11_write2_0, u_X11_write2_1, u_X11_write2_2, u_X11_write2_4, u_X11_write2_5, u_X11_write2_8, u_X11_write2_9, u_X11_write2_12, u_X11_write2_13, u_X11_write2_14, u_X11_write2_17, u_X11_write2_18, sa_sel, sa_split, so_aload, so_bin, so_iload, so_push, so_virt, sa_nth, mo, l1, List.cons_append, List.nil_append, Nat.reduceEqDiff, Option.toList_none, Option.toList_some, if_false, if_true, reduceIte, or_true, true_or, z10, z00, true_imp_iff, false_imp_iff, not_false_eq_true, not_true_eq_false, true_and, and_true, Nat.zero_le, Nat.sub_zero, List.length_cons, List.length_nil, Nat.reduceAdd, Nat.reduceLT, Nat.reduceLeDiff]
  refine k_X11_write1 hL hW1 (by rw [List.length_append]; simp only [List.length_cons, List.length_nil]; omega) _ (fun t2 A2 hW2 => ?_)
  simp only [u_X11_write2_0, u_X11_write2_1, u_X11_write2_2, u_X11_write2_4, u_X11_write2_5, u_X11_write2_8, u_X11_write2_9, u_X11_write2_13, u_X11_write2_14, u_X11_write2_17, u_X11_write2_18, u_X11_write2_21, sa_sel, sa_split, so_aload, so_bin, so_iload, so_push, so_ret, so_virt, sa_nth, List.cons_append, List.nil_append, Nat.reduceEqDiff, Option.toList_none, Option.toList_some, if_false, if_true, reduceIte, or_true, true_or, z10, z00, true_imp_iff, false_imp_iff, not_false_eq_true, not_true_eq_false, true_and, and_true, Nat.zero_le, Nat.sub_zero, List.length_cons, List.length_nil, Nat.reduceAdd, Nat.reduceLT, Nat.reduceLeDiff]
  exact h t2 A2 (by simpa using hW2)
/-- the figures from the unit 10 ^ e down -/
def fd (v : Nat) : Nat → List Int32
  | 0 => [dg v 1]
  | e + 1 => dg v (10 ^ (e + 1)) :: fd v e
theorem fd_len (v : Nat) : ∀ e, (fd v e).length = e + 1
  | 0 => rfl
  | e + 1 => by simp [fd, fd_len v e]
theorem figs_fd (v e : Nat) (he : e ≤ 3) (h1 : e = 0 ∨ 10 ^ e ≤ v) (h2 : v < 10 ^ (e + 1)) : figs v = fd v e := by
  unfold figs
  match e, he with
  | 0, _ => rw [if_neg (by omega), if_neg (by omega), if_neg (by omega)]; rfl
  | 1, _ => rw [if_neg (by omega), if_neg (by omega), if_pos (by omega)]; rfl
  | 2, _ => rw [if_neg (by omega), if_pos (by omega), if_pos (by omega)]; rfl
  | 3, _ => rw [if_pos (by omega), if_pos (by omega), if_pos (by omega)]; rfl
  | e + 4, h => omega
theorem k_X11_writeFigures (hL : sM_L C) (hW : sWr t0 A0 t A w) {v n : Nat} (hv : v < 10000) (hn : n ≤ 8) (hlt : w.length + 12 < 4000) (h : ∀ t' A', sWr t0 A0 t' A' (w ++ (figs v ++ List.replicate (n - (figs v).length) 32)) → Q none (C t' A')) : ct_X11_writeFigures 0 0 [.inr (.inl (some 28)), .inl (nI v), .inl (nI n)] (C t A) Q := by
  have l1 := m_o hL
  have hf := figs_len v
  have blank : ∀ (m x : Nat) (o3 : Option sa_V) (d : Int32) (t1 : gI) (A1 : gA), (x + m = n ∨ (n ≤ x ∧ m = 0)) → (figs v).length ≤ x → sWr t0 A0 t1 A1 (w ++ (figs v ++ List.replicate (x - (figs v).length) 32)) → (n ≤ x → x = (figs v).length ∨ x = n) → sa_w tb_X11_writeFigures (60, [some (.inr (.inl (some 28))), some (.inl (nI v)), some (.inl (nI n)), o3, some (.inl d), some (.inl (nI x))], [], C t1 A1, 0, 0) Q := by
    intro m
    induction m with
    | zero =>
      intro x o3 d t1 A1 hx hfx hW1 hfin
      have hxb : x ≤ 8 ∨ x ≤ 4 := by rcases hfin (by omega) with z | z <;> omega
      rw [u_X11_writeFigures_60]
      simp only [u_X11_writeFigures_0, u_X11_writeFigures_1, u_X11_writeFigures_2, u_X11_writeFigures_3, u_X11_writeFigures_4, u_X11_writeFigures_5, u_X11_writeFigures_7, u_X11_writeFigures_10, u_X11_writeFigures_11, u_X11_writeFigures_13, u_X11_writeFigures_14, u_X11_writeFigures_15, u_X11_writeFigures_18, u_X11_writeFigures_19, u_X11_writeFigures_21, u_X11_writeFigures_22, u_X11_writeFigures_24, u_X11_writeFigures_26, u_X11_writeFigures_29, u_X11_writeFigures_30, u_X11_writeFigures_32, u_X11_writeFigures_33, u_X11_writeFigures_35, u_X11_writeFigures_36, u_X11_writeFigures_38, u_X11_writeFigures_39, u_X11_writeFigures_40, u_X11_writeFigures_46, u_X11_writeFigures_48, u_X11_writeFigures_50, u_X11_writeFigures_51, u_X11_writeFigures_53, u_X11_writeFigures_56, u_X11_writeFigures_58, u_X11_writeFigures_62, u_X11_writeFigures_63, u_X11_writeFigures_66, u_X11_writeFigures_67, u_X11_writeFigures_69, u_X11_writeFigures_75, u_X11_writeFigures_78, sa_put, sa_sel, sa_split, so_aload, so_bin, so_cmp, so_div, so_goto, so_if, so_iload, so_istore, so_push, so_ret, so_virt, sa_nth, mo, l1, List.cons_append, List.nil_append, Nat.reduceEqDiff, Option.toList_none, Option.toList_some, if_false, if_true, reduceIte, or_true, true_or, z10, z00, true_imp_iff, false_imp_iff, not_false_eq_true, not_true_eq_false, true_and, and_true, Nat.zero_le, Nat.sub_zero, List.length_cons, List.length_nil, Nat.reduceAdd, Nat.reduceLT, Nat.reduceLeDiff]
      rw [nI_leI (by omega) (by omega)]
      refine ⟨fun _ => h t1 A1 ?_, fun q => absurd (by omega) q⟩
      have : n - (figs v).length = x - (figs v).length := by rcases hfin (by omega) with z | z <;> omega
      rw [this]; exact hW1
    | succ m ih =>
      intro x o3 d t1 A1 hx hfx hW1 hfin
      rw [u_X11_writeFigures_60]
      simp only [u_X11_writeFigures_0, u_X11_writeFigures_1, u_X11_writeFigures_2, u_X11_writeFigures_3, u_X11_writeFigures_4, u_X11_writeFigures_5, u_X11_writeFigures_7, u_X11_writeFigures_10, u_X11_writeFigures_11, u_X11_writeFigures_13, u_X11_writeFigures_14, u_X11_writeFigures_15, u_X11_writeFigures_18, u_X11_writeFigures_19, u_X11_writeFigures_21, u_X11_writeFigures_22, u_X11_writeFigures_24, u_X11_writeFigures_26, u_X11_writeFigures_29, u_X11_writeFigures_30, u_X11_writeFigures_32, u_X11_writeFigures_33, u_X11_writeFigures_35, u_X11_writeFigures_36, u_X11_writeFigures_38, u_X11_writeFigures_39, u_X11_writeFigures_40, u_X11_writeFigures_46, u_X11_writeFigures_48, u_X11_writeFigures_50, u_X11_writeFigures_51, u_X11_writeFigures_53, u_X11_writeFigures_56, u_X11_writeFigures_58, u_X11_writeFigures_62, u_X11_writeFigures_63, u_X11_writeFigures_66, u_X11_writeFigures_67, u_X11_writeFigures_69, u_X11_writeFigures_75, u_X11_writeFigures_78, sa_put, sa_sel, sa_split, so_aload, so_bin, so_cmp, so_div, so_goto, so_if, so_iload, so_istore, so_push, so_ret, so_virt, sa_nth, mo, l1, List.cons_append, List.nil_append, Nat.reduceEqDiff, Option.toList_none, Option.toList_some, if_false, if_true, reduceIte, or_true, true_or, z10, z00, true_imp_iff, false_imp_iff, not_false_eq_true, not_true_eq_false, true_and, and_true, Nat.zero_le, Nat.sub_zero, List.length_cons, List.length_nil, Nat.reduceAdd, Nat.reduceLT, Nat.reduceLeDiff]
      rw [nI_leI (by omega) (by omega)]
      refine ⟨fun q => absurd q (by omega), fun _ => ?_⟩
      refine k_X11_write1 hL hW1 (by simp only [List.length_append, List.length_replicate]; omega) _ (fun t2 A2 hW2 => ?_)
      simp only [u_X11_writeFigures_0, u_X11_writeFigures_1, u_X11_writeFigures_2, u_X11_writeFigures_3, u_X11_writeFigures_4, u_X11_writeFigures_5, u_X11_writeFigures_7, u_X11_writeFigures_10, u_X11_writeFigures_11, u_X11_writeFigures_13, u_X11_writeFigures_14, u_X11_writeFigures_15, u_X11_writeFigures_18, u_X11_writeFigures_19, u_X11_writeFigures_21, u_X11_writeFigures_22, u_X11_writeFigures_24, u_X11_writeFigures_26, u_X11_writeFigures_29, u_X11_writeFigures_30, u_X11_writeFigures_32, u_X11_writeFigures_33, u_X11_writeFigures_35, u_X11_writeFigures_36, u_X11_writeFigures_38, u_X11_writeFigures_39, u_X11_writeFigures_40, u_X11_writeFigures_46, u_X11_writeFigures_48, u_X11_writeFigures_50, u_X11_writeFigures_51, u_X11_writeFigures_53, u_X11_writeFigures_56, u_X11_writeFigures_58, u_X11_writeFigures_62, u_X11_writeFigures_63, u_X11_writeFigures_66, u_X11_writeFigures_67, u_X11_writeFigures_69, u_X11_writeFigures_72, u_X11_writeFigures_75, u_X11_writeFigures_78, sa_put, sa_sel, sa_split, so_aload, so_bin, so_cmp, so_div, so_goto, so_if, so_iinc, so_iload, so_istore, so_push, so_ret, so_virt, sa_nth, List.cons_append, List.nil_append, Nat.reduceEqDiff, Option.toList_none, Option.toList_some, if_false, if_true, reduceIte, or_true, true_or, z10, z00, true_imp_iff, false_imp_iff, not_false_eq_true, not_true_eq_false, true_and, and_true, Nat.zero_le, Nat.sub_zero, List.length_cons, List.length_nil, Nat.reduceAdd, Nat.reduceLT, Nat.reduceLeDiff]
      rw [nI_1]
      refine ih (x + 1) o3 d t2 A2 (by omega) (by omega) ?_ (fun q => by omega)
      rw [show x + 1 - (figs v).length = x - (figs v).length + 1 by omega, List.replicate_succ', ← List.append_assoc (figs v), ← List.append_assoc w]
      exact hW2
  have digits : ∀ (e d : Nat) (o3 : Option sa_V) (t1 : gI) (A1 : gA) (w1 : List Int32), e ≤ 3 → d + e + 1 = (figs v).length → w1 ++ fd v e = w ++ figs v → w1.length ≤ w.length + 4 → sWr t0 A0 t1 A1 w1 → sa_w tb_X11_writeFigures (24, [some (.inr (.inl (some 28))), some (.inl (nI v)), some (.inl (nI n)), o3, some (.inl (nI d)), some (.inl (nI (10 ^ e)))], [], C t1 A1, 0, 0) Q := by
    intro e
    induction e with
    | zero =>
      intro d o3 t1 A1 w1 he hd hw hwl hW1
      rw [u_X11_writeFigures_24]
      simp only [u_X11_writeFigures_0, u_X11_writeFigures_1, u_X11_writeFigures_2, u_X11_writeFigures_3, u_X11_writeFigures_4, u_X11_writeFigures_5, u_X11_writeFigures_7, u_X11_writeFigures_10, u_X11_writeFigures_11, u_X11_writeFigures_13, u_X11_writeFigures_14, u_X11_writeFigures_15, u_X11_writeFigures_18, u_X11_writeFigures_19, u_X11_writeFigures_21, u_X11_writeFigures_22, u_X11_writeFigures_26, u_X11_writeFigures_29, u_X11_writeFigures_30, u_X11_writeFigures_32, u_X11_writeFigures_33, u_X11_writeFigures_35, u_X11_writeFigures_36, u_X11_writeFigures_38, u_X11_writeFigures_39, u_X11_writeFigures_40, u_X11_writeFigures_46, u_X11_writeFigures_48, u_X11_writeFigures_50, u_X11_writeFigures_51, u_X11_writeFigures_53, u_X11_writeFigures_56, u_X11_writeFigures_58, u_X11_writeFigures_62, u_X11_writeFigures_63, u_X11_writeFigures_66, u_X11_writeFigures_67, u_X11_writeFigures_69, u_X11_writeFigures_75, u_X11_writeFigures_78, sa_put, sa_sel, sa_split, so_aload, so_bin, so_cmp, so_div, so_goto, so_if, so_iload, so_istore, so_push, so_ret, so_virt, sa_nth, mo, l1, List.cons_append, List.nil_append, Nat.reduceEqDiff, Option.toList_none, Option.toList_some, if_false, if_true, reduceIte, or_true, true_or, z10, z00, true_imp_iff, false_imp_iff, not_false_eq_true, not_true_eq_false, true_and, and_true, Nat.zero_le, Nat.sub_zero, List.length_cons, List.length_nil, Nat.reduceAdd, Nat.reduceLT, Nat.reduceLeDiff]
      refine ⟨fun q => absurd q (nI_nle (by decide) (by decide)), fun _ => ⟨nI_ne0 (by decide) (by decide), by decide, ?_⟩⟩
      rw [pk_div (by omega) (by decide) (by decide), show (10 : Int32) = nI 10 from rfl, pk_rem (by
        have := Nat.div_le_self v (10 ^ 0)
        omega) (by omega) (by omega), show (48 : Int32) = nI 48 from rfl, nI_add]
      refine k_X11_write1 hL hW1 (by omega) _ (fun t2 A2 hW2 => ?_)
      simp only [u_X11_writeFigures_0, u_X11_writeFigures_1, u_X11_writeFigures_2, u_X11_writeFigures_3, u_X11_writeFigures_4, u_X11_writeFigures_5, u_X11_writeFigures_7, u_X11_writeFigures_10, u_X11_writeFigures_11, u_X11_writeFigures_13, u_X11_writeFigures_14, u_X11_writeFigures_15, u_X11_writeFigures_18, u_X11_writeFigures_19, u_X11_writeFigures_21, u_X11_writeFigures_22, u_X11_writeFigures_26, u_X11_writeFigures_29, u_X11_writeFigures_30, u_X11_writeFigures_32, u_X11_writeFigures_33, u_X11_writeFigures_35, u_X11_writeFigures_36, u_X11_writeFigures_38, u_X11_writeFigures_39, u_X11_writeFigures_40, u_X11_writeFigures_43, u_X11_writeFigures_46, u_X11_writeFigures_48, u_X11_writeFigures_50, u_X11_writeFigures_51, u_X11_writeFigures_53, u_X11_writeFigures_56, u_X11_writeFigures_58, u_X11_writeFigures_62, u_X11_writeFigures_63, u_X11_writeFigures_66, u_X11_writeFigures_67, u_X11_writeFigures_69, u_X11_writeFigures_75, u_X11_writeFigures_78, sa_put, sa_sel, sa_split, so_aload, so_bin, so_cmp, so_div, so_goto, so_if, so_iinc, so_iload, so_istore, so_push, so_ret, so_virt, sa_nth, mo, l1, List.cons_append, List.nil_append, Nat.reduceEqDiff, Option.toList_none, Option.toList_some, if_false, if_true, reduceIte, or_true, true_or, z10, z00, true_imp_iff, false_imp_iff, not_false_eq_true, not_true_eq_false, true_and, and_true, Nat.zero_le, Nat.sub_zero, List.length_cons, List.length_nil, Nat.reduceAdd, Nat.reduceLT, Nat.reduceLeDiff]
      refine ⟨by decide, ?_⟩
      rw [show (10 : Int32) = nI 10 from rfl, pk_div (by decide) (by decide) (by decide), show 10 ^ 0 / 10 = 0 by decide]
      rw [u_X11_writeFigures_24]
      simp only [u_X11_writeFigures_0, u_X11_writeFigures_1, u_X11_writeFigures_2, u_X11_writeFigures_3, u_X11_writeFigures_4, u_X11_writeFigures_5, u_X11_writeFigures_7, u_X11_writeFigures_10, u_X11_writeFigures_11, u_X11_writeFigures_13, u_X11_writeFigures_14, u_X11_writeFigures_15, u_X11_writeFigures_18, u_X11_writeFigures_19, u_X11_writeFigures_21, u_X11_writeFigures_22, u_X11_writeFigures_26, u_X11_writeFigures_29, u_X11_writeFigures_30, u_X11_writeFigures_32, u_X11_writeFigures_33, u_X11_writeFigures_35, u_X11_writeFigures_36, u_X11_writeFigures_38, u_X11_writeFigures_39, u_X11_writeFigures_40, u_X11_writeFigures_46, u_X11_writeFigures_48, u_X11_writeFigures_50, u_X11_writeFigures_51, u_X11_writeFigures_53, u_X11_writeFigures_56, u_X11_writeFigures_58, u_X11_writeFigures_62, u_X11_writeFigures_63, u_X11_writeFigures_66, u_X11_writeFigures_67, u_X11_writeFigures_69, u_X11_writeFigures_75, u_X11_writeFigures_78, sa_put, sa_sel, sa_split, so_aload, so_bin, so_cmp, so_div, so_goto, so_if, so_iload, so_istore, so_push, so_ret, so_virt, sa_nth, mo, l1, List.cons_append, List.nil_append, Nat.reduceEqDiff, Option.toList_none, Option.toList_some, if_false, if_true, reduceIte, or_true, true_or, z10, z00, true_imp_iff, false_imp_iff, not_false_eq_true, not_true_eq_false, true_and, and_true, Nat.zero_le, Nat.sub_zero, List.length_cons, List.length_nil, Nat.reduceAdd, Nat.reduceLT, Nat.reduceLeDiff]
      refine ⟨fun _ => ?_, fun q => absurd (by decide) q⟩
      rw [nI_1]
      have e9 : d + 1 = (figs v).length := by omega
      rw [e9]
      have hW3 : sWr t0 A0 t2 A2 (w ++ (figs v ++ List.replicate ((figs v).length - (figs v).length) 32)) := by
        rw [Nat.sub_self, List.replicate_zero, List.append_nil, ← hw]
        exact hW2
      rcases Nat.lt_or_ge (figs v).length n with z | z
      · exact blank (n - (figs v).length) _ _ _ t2 A2 (Or.inl (by omega)) (Nat.le_refl _) hW3 (fun q => Or.inl rfl)
      · exact blank 0 _ _ _ t2 A2 (Or.inr ⟨z, rfl⟩) (Nat.le_refl _) hW3 (fun q => Or.inl rfl)
    | succ e ih =>
      intro d o3 t1 A1 w1 he hd hw hwl hW1
      have hp : 10 ^ (e + 1) ≤ 1000 := by
        have : e = 0 ∨ e = 1 ∨ e = 2 := by omega
        rcases this with rfl | rfl | rfl <;> decide
      have hp0 : 0 < 10 ^ (e + 1) := Nat.pow_pos (by decide)
      rw [u_X11_writeFigures_24]
      simp only [u_X11_writeFigures_0, u_X11_writeFigures_1, u_X11_writeFigures_2, u_X11_writeFigures_3, u_X11_writeFigures_4, u_X11_writeFigures_5, u_X11_writeFigures_7, u_X11_writeFigures_10, u_X11_writeFigures_11, u_X11_writeFigures_13, u_X11_writeFigures_14, u_X11_writeFigures_15, u_X11_writeFigures_18, u_X11_writeFigures_19, u_X11_writeFigures_21, u_X11_writeFigures_22, u_X11_writeFigures_26, u_X11_writeFigures_29, u_X11_writeFigures_30, u_X11_writeFigures_32, u_X11_writeFigures_33, u_X11_writeFigures_35, u_X11_writeFigures_36, u_X11_writeFigures_38, u_X11_writeFigures_39, u_X11_writeFigures_40, u_X11_writeFigures_46, u_X11_writeFigures_48, u_X11_writeFigures_50, u_X11_writeFigures_51, u_X11_writeFigures_53, u_X11_writeFigures_56, u_X11_writeFigures_58, u_X11_writeFigures_62, u_X11_writeFigures_63, u_X11_writeFigures_66, u_X11_writeFigures_67, u_X11_writeFigures_69, u_X11_writeFigures_75, u_X11_writeFigures_78, sa_put, sa_sel, sa_split, so_aload, so_bin, so_cmp, so_div, so_goto, so_if, so_iload, so_istore, so_push, so_ret, so_virt, sa_nth, mo, l1, List.cons_append, List.nil_append, Nat.reduceEqDiff, Option.toList_none, Option.toList_some, if_false, if_true, reduceIte, or_true, true_or, z10, z00, true_imp_iff, false_imp_iff, not_false_eq_true, not_true_eq_false, true_and, and_true, Nat.zero_le, Nat.sub_zero, List.length_cons, List.length_nil, Nat.reduceAdd, Nat.reduceLT, Nat.reduceLeDiff]
      refine ⟨fun q => absurd q (nI_nle hp0 (by omega)), fun _ => ⟨nI_ne0 hp0 (by omega), by decide, ?_⟩⟩
      rw [pk_div (by omega) hp0 (by omega), show (10 : Int32) = nI 10 from rfl, pk_rem (by
        have := Nat.div_le_self v (10 ^ (e + 1))
        omega) (by omega) (by omega), show (48 : Int32) = nI 48 from rfl, nI_add]
      refine k_X11_write1 hL hW1 (by omega) _ (fun t2 A2 hW2 => ?_)
      simp only [u_X11_writeFigures_0, u_X11_writeFigures_1, u_X11_writeFigures_2, u_X11_writeFigures_3, u_X11_writeFigures_4, u_X11_writeFigures_5, u_X11_writeFigures_7, u_X11_writeFigures_10, u_X11_writeFigures_11, u_X11_writeFigures_13, u_X11_writeFigures_14, u_X11_writeFigures_15, u_X11_writeFigures_18, u_X11_writeFigures_19, u_X11_writeFigures_21, u_X11_writeFigures_22, u_X11_writeFigures_26, u_X11_writeFigures_29, u_X11_writeFigures_30, u_X11_writeFigures_32, u_X11_writeFigures_33, u_X11_writeFigures_35, u_X11_writeFigures_36, u_X11_writeFigures_38, u_X11_writeFigures_39, u_X11_writeFigures_40, u_X11_writeFigures_43, u_X11_writeFigures_46, u_X11_writeFigures_48, u_X11_writeFigures_50, u_X11_writeFigures_51, u_X11_writeFigures_53, u_X11_writeFigures_56, u_X11_writeFigures_58, u_X11_writeFigures_62, u_X11_writeFigures_63, u_X11_writeFigures_66, u_X11_writeFigures_67, u_X11_writeFigures_69, u_X11_writeFigures_75, u_X11_writeFigures_78, sa_put, sa_sel, sa_split, so_aload, so_bin, so_cmp, so_div, so_goto, so_if, so_iinc, so_iload, so_istore, so_push, so_ret, so_virt, sa_nth, mo, l1, List.cons_append, List.nil_append, Nat.reduceEqDiff, Option.toList_none, Option.toList_some, if_false, if_true, reduceIte, or_true, true_or, z10, z00, true_imp_iff, false_imp_iff, not_false_eq_true, not_true_eq_false, true_and, and_true, Nat.zero_le, Nat.sub_zero, List.length_cons, List.length_nil, Nat.reduceAdd, Nat.reduceLT, Nat.reduceLeDiff]
      refine ⟨by decide, ?_⟩
      rw [show (10 : Int32) = nI 10 from rfl, pk_div (by omega) (by omega) (by omega), show 10 ^ (e + 1) / 10 = 10 ^ e by rw [Nat.pow_succ]; omega, nI_1]
      have hwe := congrArg List.length hw
      rw [List.length_append, List.length_append, fd_len] at hwe
      refine ih (d + 1) o3 t2 A2 _ (by omega) (by omega) ?_ (by rw [List.length_append]; simp only [List.length_cons, List.length_nil]; omega) hW2
      rw [List.append_assoc]
      exact hw
  have units : ∀ (m e : Nat), e + m = 3 → (e = 0 ∨ 10 ^ e ≤ v) → sa_w tb_X11_writeFigures (2, [some (.inr (.inl (some 28))), some (.inl (nI v)), some (.inl (nI n)), some (.inl (nI (10 ^ e))), none, none], [], C t A, 0, 0) Q := by
    intro m
    induction m with
    | zero =>
      intro e he hev
      have he3 : e = 3 := by omega
      subst he3
      have ff := figs_fd v 3 (by omega) hev (by omega)
      rw [u_X11_writeFigures_2]
      simp only [u_X11_writeFigures_0, u_X11_writeFigures_1, u_X11_writeFigures_3, u_X11_writeFigures_4, u_X11_writeFigures_5, u_X11_writeFigures_7, u_X11_writeFigures_10, u_X11_writeFigures_11, u_X11_writeFigures_13, u_X11_writeFigures_14, u_X11_writeFigures_15, u_X11_writeFigures_18, u_X11_writeFigures_19, u_X11_writeFigures_21, u_X11_writeFigures_22, u_X11_writeFigures_26, u_X11_writeFigures_29, u_X11_writeFigures_30, u_X11_writeFigures_32, u_X11_writeFigures_33, u_X11_writeFigures_35, u_X11_writeFigures_36, u_X11_writeFigures_38, u_X11_writeFigures_39, u_X11_writeFigures_40, u_X11_writeFigures_46, u_X11_writeFigures_48, u_X11_writeFigures_50, u_X11_writeFigures_51, u_X11_writeFigures_53, u_X11_writeFigures_56, u_X11_writeFigures_58, u_X11_writeFigures_60, u_X11_writeFigures_62, u_X11_writeFigures_63, u_X11_writeFigures_66, u_X11_writeFigures_67, u_X11_writeFigures_69, u_X11_writeFigures_75, u_X11_writeFigures_78, sa_put, sa_sel, sa_split, so_aload, so_bin, so_cmp, so_div, so_goto, so_if, so_iload, so_istore, so_push, so_ret, so_virt, sa_nth, mo, l1, List.cons_append, List.nil_append, Nat.reduceEqDiff, Option.toList_none, Option.toList_some, if_false, if_true, reduceIte, or_true, true_or, z10, z00, true_imp_iff, false_imp_iff, not_false_eq_true, not_true_eq_false, true_and, and_true, Nat.zero_le, Nat.sub_zero, List.length_cons, List.length_nil, Nat.reduceAdd, Nat.reduceLT, Nat.reduceLeDiff]
      refine ⟨by decide, ?_⟩
      rw [pk_div (by omega) (by decide) (by decide), show (9 : Int32) = nI 9 from rfl, nI_leI (by have := Nat.div_le_self v (10 ^ 3); omega) (by omega)]
      refine ⟨fun _ => ?_, fun q => absurd (by omega) q⟩
      exact digits 3 0 _ t A w (by omega) (by rw [ff, fd_len]) (by rw [ff]) (by omega) hW
    | succ m ih =>
      intro e he hev
      have hp0 : 0 < 10 ^ e := Nat.pow_pos (by decide)
      have hp : 10 ^ e ≤ 1000 := by
        have : e = 0 ∨ e = 1 ∨ e = 2 := by omega
        rcases this with rfl | rfl | rfl <;> decide
      rw [u_X11_writeFigures_2]
      simp only [u_X11_writeFigures_0, u_X11_writeFigures_1, u_X11_writeFigures_3, u_X11_writeFigures_4, u_X11_writeFigures_5, u_X11_writeFigures_7, u_X11_writeFigures_10, u_X11_writeFigures_11, u_X11_writeFigures_13, u_X11_writeFigures_14, u_X11_writeFigures_15, u_X11_writeFigures_18, u_X11_writeFigures_19, u_X11_writeFigures_21, u_X11_writeFigures_22, u_X11_writeFigures_26, u_X11_writeFigures_29, u_X11_writeFigures_30, u_X11_writeFigures_32, u_X11_writeFigures_33, u_X11_writeFigures_35, u_X11_writeFigures_36, u_X11_writeFigures_38, u_X11_writeFigures_39, u_X11_writeFigures_40, u_X11_writeFigures_46, u_X11_writeFigures_48, u_X11_writeFigures_50, u_X11_writeFigures_51, u_X11_writeFigures_53, u_X11_writeFigures_56, u_X11_writeFigures_58, u_X11_writeFigures_60, u_X11_writeFigures_62, u_X11_writeFigures_63, u_X11_writeFigures_66, u_X11_writeFigures_67, u_X11_writeFigures_69, u_X11_writeFigures_75, u_X11_writeFigures_78, sa_put, sa_sel, sa_split, so_aload, so_bin, so_cmp, so_div, so_goto, so_if, so_iload, so_istore, so_push, so_ret, so_virt, sa_nth, mo, l1, List.cons_append, List.nil_append, Nat.reduceEqDiff, Option.toList_none, Option.toList_some, if_false, if_true, reduceIte, or_true, true_or, z10, z00, true_imp_iff, false_imp_iff, not_false_eq_true, not_true_eq_false, true_and, and_true, Nat.zero_le, Nat.sub_zero, List.length_cons, List.length_nil, Nat.reduceAdd, Nat.reduceLT, Nat.reduceLeDiff]
      refine ⟨nI_ne0 hp0 (by omega), ?_⟩
      rw [pk_div (by omega) hp0 (by omega), show (9 : Int32) = nI 9 from rfl, nI_leI (by have := Nat.div_le_self v (10 ^ e); omega) (by omega)]
      refine ⟨fun q => ?_, fun q => ?_⟩
      · have hlt2 : v < 10 ^ (e + 1) := by
          rw [Nat.pow_succ]
          have := (Nat.div_lt_iff_lt_mul hp0 (x := v) (y := 10)).mp (by omega)
          omega
        have ff := figs_fd v e (by omega) hev hlt2
        exact digits e 0 _ t A w (by omega) (by rw [ff, fd_len]; omega) (by rw [ff]) (by omega) hW
      · rw [show (10 : Int32) = nI 10 from rfl, pk_mul, ← Nat.pow_succ]
        refine ih (e + 1) (by omega) (Or.inr ?_)
        rw [Nat.pow_succ]
        have := (Nat.le_div_iff_mul_le hp0 (x := 10) (y := v)).mp (by omega)
        omega
  simp only [e_X11_writeFigures, u_X11_writeFigures_0, u_X11_writeFigures_1, u_X11_writeFigures_3, u_X11_writeFigures_4, u_X11_writeFigures_5, u_X11_writeFigures_7, u_X11_writeFigures_10, u_X11_writeFigures_11, u_X11_writeFigures_13, u_X11_writeFigures_14, u_X11_writeFigures_15, u_X11_writeFigures_18, u_X11_writeFigures_19, u_X11_writeFigures_21, u_X11_writeFigures_22, u_X11_writeFigures_24, u_X11_writeFigures_26, u_X11_writeFigures_29, u_X11_writeFigures_30, u_X11_writeFigures_32, u_X11_writeFigures_33, u_X11_writeFigures_35, u_X11_writeFigures_36, u_X11_writeFigures_38, u_X11_writeFigures_39, u_X11_writeFigures_40, u_X11_writeFigures_46, u_X11_writeFigures_48, u_X11_writeFigures_50, u_X11_writeFigures_51, u_X11_writeFigures_53, u_X11_writeFigures_56, u_X11_writeFigures_58, u_X11_writeFigures_60, u_X11_writeFigures_62, u_X11_writeFigures_63, u_X11_writeFigures_66, u_X11_writeFigures_67, u_X11_writeFigures_69, u_X11_writeFigures_75, u_X11_writeFigures_78, sa_put, sa_sel, sa_split, so_aload, so_bin, so_cmp, so_div, so_goto, so_if, so_iload, so_istore, so_push, so_ret, so_virt, sa_nth, List.cons_append, List.nil_append, Nat.reduceEqDiff, Option.toList_none, Option.toList_some, if_false, if_true, reduceIte, or_true, true_or, z10, z00, true_imp_iff, false_imp_iff, not_false_eq_true, not_true_eq_false, true_and, and_true, Nat.zero_le, Nat.sub_zero, List.length_cons, List.length_nil, Nat.reduceAdd, Nat.reduceLT, Nat.reduceLeDiff]
  exact units 3 0 rfl (Or.inl rfl)
theorem k_X11_writeEnd (hL : sM_L C) (hW : sWr t0 A0 t A w) {v : Nat} (hv : v < 10000) (hlt : w.length + 20 < 4000) (h : ∀ t' A', sWr t0 A0 t' A' (w ++ szF v) → Q none (C t' A')) : ct_X11_writeEnd 0 0 [.inr (.inl (some 28)), .inl (nI v)] (C t A) Q := by
  have l1 := m_o hL
  have hf := figs_len v
  simp only [e_X11_writeEnd, u_X11_writeEnd_0, u_X11_writeEnd_1, u_X11_writeEnd_2, u_X11_writeEnd_3, u_X11_writeEnd_7, u_X11_writeEnd_9, u_X11_writeEnd_13, u_X11_writeEnd_15, sa_sel, sa_split, so_aload, so_iload, so_push, so_virt, sa_nth, mo, l1, List.cons_append, List.nil_append, Nat.reduceEqDiff, Option.toList_none, Option.toList_some, if_false, if_true, reduceIte, or_true, true_or, z10, z00, true_imp_iff, false_imp_iff, not_false_eq_true, not_true_eq_false, true_and, and_true, Nat.zero_le, Nat.sub_zero, List.length_cons, List.length_nil, Nat.reduceAdd, Nat.reduceLT, Nat.reduceLeDiff]
  refine k_X11_writeFigures (n := 4) hL hW hv (by omega) (by omega) (fun t1 A1 hW1 => ?_)
  simp only [u_X11_writeEnd_0, u_X11_writeEnd_1, u_X11_writeEnd_2, u_X11_writeEnd_3, u_X11_writeEnd_6, u_X11_writeEnd_7, u_X11_writeEnd_9, u_X11_writeEnd_13, u_X11_writeEnd_15, sa_sel, sa_split, so_aload, so_iload, so_push, so_virt, sa_nth, mo, l1, List.cons_append, List.nil_append, Nat.reduceEqDiff, Option.toList_none, Option.toList_some, if_false, if_true, reduceIte, or_true, true_or, z10, z00, true_imp_iff, false_imp_iff, not_false_eq_true, not_true_eq_false, true_and, and_true, Nat.zero_le, Nat.sub_zero, List.length_cons, List.length_nil, Nat.reduceAdd, Nat.reduceLT, Nat.reduceLeDiff]
  refine k_X11_write1 hL hW1 (by simp only [List.length_append, List.length_replicate]; omega) _ (fun t2 A2 hW2 => ?_)
  simp only [u_X11_writeEnd_0, u_X11_writeEnd_1, u_X11_writeEnd_2, u_X11_writeEnd_3, u_X11_writeEnd_7, u_X11_writeEnd_9, u_X11_writeEnd_12, u_X11_writeEnd_13, u_X11_writeEnd_15, sa_sel, sa_split, so_aload, so_iload, so_push, so_virt, sa_nth, mo, l1, List.cons_append, List.nil_append, Nat.reduceEqDiff, Option.toList_none, Option.toList_some, if_false, if_true, reduceIte, or_true, true_or, z10, z00, true_imp_iff, false_imp_iff, not_false_eq_true, not_true_eq_false, true_and, and_true, Nat.zero_le, Nat.sub_zero, List.length_cons, List.length_nil, Nat.reduceAdd, Nat.reduceLT, Nat.reduceLeDiff]
  refine k_X11_write1 hL hW2 (by simp only [List.length_append, List.length_replicate, List.length_cons, List.length_nil]; omega) _ (fun t3 A3 hW3 => ?_)
  simp only [u_X11_writeEnd_0, u_X11_writeEnd_1, u_X11_writeEnd_2, u_X11_writeEnd_3, u_X11_writeEnd_7, u_X11_writeEnd_9, u_X11_writeEnd_13, u_X11_writeEnd_15, u_X11_writeEnd_18, sa_sel, sa_split, so_aload, so_iload, so_push, so_ret, so_virt, sa_nth, List.cons_append, List.nil_append, Nat.reduceEqDiff, Option.toList_none, Option.toList_some, if_false, if_true, reduceIte, or_true, true_or, z10, z00, true_imp_iff, false_imp_iff, not_false_eq_true, not_true_eq_false, true_and, and_true, Nat.zero_le, Nat.sub_zero, List.length_cons, List.length_nil, Nat.reduceAdd, Nat.reduceLT, Nat.reduceLeDiff]
  refine h t3 A3 ?_
  unfold szF
  rw [sT3]
  simpa [List.append_assoc] using hW3
end RW1
