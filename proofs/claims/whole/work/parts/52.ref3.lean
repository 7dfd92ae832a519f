/-! THE REFERENCE'S ENTRIES: other, told, got -/
def sME (t : gI) (A : gA) (N D : List (List Int32)) (B U K : List Int32) : Prop :=
  N.length ≤ 126 ∧ D.length = N.length ∧ B.length = N.length ∧ U.length = N.length ∧ K.length = N.length ∧ i_entries t = nI N.length ∧ ∀ i, i < N.length →
    a_eNameSize A i = nI (N.getD i []).length ∧ a_eSize A i = nI (D.getD i []).length ∧ B[i]? = some (a_eAt A i) ∧ (∀ k, k < (N.getD i []).length → (N.getD i [])[k]? = some (a_eName A (20 * i + k))) ∧ (∀ k, k < (D.getD i []).length → (D.getD i [])[k]? = some (a_eData A (60 * i + k))) ∧
    ((1 < (K[i]?).getD 1) ↔ (i_form t = 1 ∧ 1 < a_eLinks A i)) ∧ (1 < (K[i]?).getD 1 → U[i]? = some (a_eNumber A i))
def sIE (N D : List (List Int32)) : Prop := (∀ l ∈ N, l.length ≤ 20) ∧ ∀ l ∈ D, l.length ≤ 60
theorem lkd_iff {U K : List Int32} {i j : Nat} (hi : i < 2 ^ 30) (hj : j < 2 ^ 30) : lkd U K (nI i) (nI j) ↔ (1 < (K[i]?).getD 1 ∧ 1 < (K[j]?).getD 1 ∧ (U[i]?).getD 0 = (U[j]?).getD 0) := by
  unfold lkd
  rw [at_nI (by omega), at_nI (by omega), at_nI (by omega), at_nI (by omega)]
theorem fstG_one {U K : List Int32} {i r s : Nat} (hr : fstG U K i r) (hs : fstG U K i s) : r = s := by
  rcases Nat.lt_trichotomy r s with q | q | q
  · exfalso
    have h1 := hs.2 r q
    rcases hr.1 with e | e
    · subst e
      rcases hs.1 with e2 | e2
      · omega
      · omega
    · exact h1 e.2
  · exact q
  · exfalso
    have h1 := hr.2 s q
    rcases hs.1 with e | e
    · subst e
      rcases hr.1 with e2 | e2
      · omega
      · omega
    · exact h1 e.2
theorem lstG_one {U K : List Int32} {n i r s : Nat} (hi : i < n) (hr : lstG U K n i r) (hs : lstG U K n i s) : r = s := by
  have br : r < n := by rcases hr.1 with e | e <;> omega
  have bs : s < n := by rcases hs.1 with e | e <;> omega
  rcases Nat.lt_trichotomy r s with q | q | q
  · exfalso
    have h1 := hr.2 s q bs
    rcases hs.1 with e | e
    · rcases hr.1 with e2 | e2 <;> omega
    · exact h1 e.2.2
  · exact q
  · exfalso
    have h1 := hs.2 r q br
    rcases hr.1 with e | e
    · rcases hs.1 with e2 | e2 <;> omega
    · exact h1 e.2.2
section RF3
variable {C : gI → gA → sa_H} {t : gI} {A : gA} {N D : List (List Int32)} {B U K : List Int32} {Q : sa_Q}
theorem k_X11_isLinked (hL : sM_L C) (hM : sME t A N D B U K) {i : Nat} (hi : i < N.length) (h1 : 1 < (K[i]?).getD 1 → Q (some (.inl 1)) (C t A)) (h0 : ¬ 1 < (K[i]?).getD 1 → Q (some (.inl 0)) (C t A)) : ct_X11_isLinked 0 0 [.inr (.inl (some 28)), .inl (nI i)] (C t A) Q := by
  have l1 := m_o hL
  have l3 := m_eLinks hL
  obtain ⟨b1, b2, b3, b4, b5, e1, e2⟩ := hM
  obtain ⟨s1, s2, s3, s4, s5, s6, s7⟩ := e2 i hi
  dsimp only [i_form, a_eLinks] at s6
  simp only [e_X11_isLinked, u_X11_isLinked_0, u_X11_isLinked_1, u_X11_isLinked_4, u_X11_isLinked_5, u_X11_isLinked_8, u_X11_isLinked_9, u_X11_isLinked_12, u_X11_isLinked_13, u_X11_isLinked_14, u_X11_isLinked_15, u_X11_isLinked_18, u_X11_isLinked_19, u_X11_isLinked_22, u_X11_isLinked_23, so_aload, so_cmp, so_get, so_goto, so_iald, so_iload, so_push, so_zret, sa_nth, mo, l1, l3, sc_9, or_true, true_or, z10, z00, true_imp_iff, false_imp_iff, not_false_eq_true, not_true_eq_false, true_and, and_true, Nat.zero_le, Nat.sub_zero, List.length_cons, List.length_nil, Nat.reduceAdd, Nat.reduceLT, Nat.reduceLeDiff]
  rw [nI_clamp (by omega)]
  refine ⟨fun q => ⟨vp_in_nI (by omega) (by omega), fun q1 => h0 (fun c => ?_), fun q1 => h1 (s6.mpr ⟨q, ?_⟩)⟩, fun q => h0 (fun c => q (s6.mp c).1)⟩
  · have := (s6.mp c).2; rw [← i32_nle] at this; exact this q1
  · rw [← i32_nle]; exact q1
theorem k_X11_other (hL : sM_L C) (hM : sME t A N D B U K) {i : Nat} (hi : i < N.length) (la : Int32) (hl : la = 1 → ∀ r, lstG U K N.length i r → r < N.length → Q (some (.inl (nI r))) (C t A)) (hf : la = 0 → ∀ r, fstG U K i r → r < N.length → Q (some (.inl (nI r))) (C t A)) (hla : la = 0 ∨ la = 1) : ct_X11_other 0 0 [.inr (.inl (some 28)), .inl (nI i), .inl la] (C t A) Q := by
  have l1 := m_o hL
  have l3 := m_eNumber hL
  obtain ⟨b1, b2, b3, b4, b5, e1, e2⟩ := id hM
  dsimp only [i_entries] at e1
  have num : ∀ j, j < N.length → 1 < (K[j]?).getD 1 → (U[j]?).getD 0 = A.2.2.2.2.2.2.2.2.2.2.2.2.1 j := by
    intro j hj hk
    have := (e2 j hj).2.2.2.2.2.2 hk
    rw [this]; rfl
  have self : 1 < (K[i]?).getD 1 → lkd U K (nI i) (nI i) := fun q => (lkd_iff (by omega) (by omega)).mpr ⟨q, q, rfl⟩
  have loop : ∀ (m x s : Nat) (f : Int32), x + m = N.length → s < N.length → ((f = 0 ∧ s = i ∧ ∀ j, j < x → ¬ lkd U K (nI i) (nI j)) ∨ (f = 1 ∧ s < x ∧ lkd U K (nI i) (nI s) ∧ (la = 1 → ∀ j, s < j → j < x → ¬ lkd U K (nI i) (nI j)) ∧ (la = 0 → ∀ j, j < s → ¬ lkd U K (nI i) (nI j)))) →
      sa_w tb_X11_other (8, [some (.inr (.inl (some 28))), some (.inl (nI i)), some (.inl la), some (.inl (nI s)), some (.inl f), some (.inl (nI x))], [], C t A, 0, 0) Q := by
    intro m
    induction m with
    | zero =>
      intro x s f hx hs hv
      simp only [u_X11_other_0, u_X11_other_1, u_X11_other_2, u_X11_other_3, u_X11_other_5, u_X11_other_6, u_X11_other_8, u_X11_other_10, u_X11_other_11, u_X11_other_14, u_X11_other_17, u_X11_other_18, u_X11_other_19, u_X11_other_25, u_X11_other_26, u_X11_other_28, u_X11_other_34, u_X11_other_35, u_X11_other_38, u_X11_other_40, u_X11_other_41, u_X11_other_42, u_X11_other_45, u_X11_other_46, u_X11_other_47, u_X11_other_50, u_X11_other_51, u_X11_other_54, u_X11_other_56, u_X11_other_59, u_X11_other_61, u_X11_other_62, u_X11_other_63, u_X11_other_65, u_X11_other_68, u_X11_other_71, u_X11_other_72, sa_put, sa_sel, sa_split, so_aload, so_cmp, so_get, so_goto, so_iald, so_if, so_iinc, so_iload, so_iret, so_istore, so_push, so_virt, sa_nth, mo, l1, l3, List.cons_append, List.nil_append, Nat.reduceEqDiff, Option.toList_none, Option.toList_some, if_false, if_true, reduceIte, sc_9, or_true, true_or, z10, z00, true_imp_iff, false_imp_iff, not_false_eq_true, not_true_eq_false, true_and, and_true, Nat.zero_le, Nat.sub_zero, List.length_cons, List.length_nil, Nat.reduceAdd, Nat.reduceLT, Nat.reduceLeDiff]
      rw [e1, nI_leI (by omega) (by omega)]
      refine ⟨fun _ => ?_, fun q => absurd (by omega) q⟩
      rcases hla with q | q
      · refine hf q s ?_ hs
        rcases hv with ⟨v1, v2, v3⟩ | ⟨v1, v2, v3, v4, v5⟩
        · exact ⟨Or.inl v2, fun j hj => v3 j (by omega)⟩
        · refine ⟨?_, v5 q⟩
          have hk := ((lkd_iff (by omega) (by omega)).mp v3).1
          rcases Nat.lt_trichotomy s i with z | z | z
          · exact Or.inr ⟨z, v3⟩
          · exact Or.inl z
          · exact absurd (self hk) (v5 q i z)
      · refine hl q s ?_ hs
        rcases hv with ⟨v1, v2, v3⟩ | ⟨v1, v2, v3, v4, v5⟩
        · exact ⟨Or.inl v2, fun j hj hjn => v3 j (by omega)⟩
        · refine ⟨?_, fun j hj hjn => v4 q j hj (by omega)⟩
          have hk := ((lkd_iff (by omega) (by omega)).mp v3).1
          rcases Nat.lt_trichotomy s i with z | z | z
          · exact absurd (self hk) (v4 q i z (by omega))
          · exact Or.inl z
          · exact Or.inr ⟨z, hs, v3⟩
    | succ m ih =>
      intro x s f hx hs hv
      have hxn : x < N.length := by omega
      have next : ¬ lkd U K (nI i) (nI x) → sa_w tb_X11_other (65, [some (.inr (.inl (some 28))), some (.inl (nI i)), some (.inl la), some (.inl (nI s)), some (.inl f), some (.inl (nI x))], [], C t A, 0, 0) Q := by
        intro hn
        simp only [u_X11_other_0, u_X11_other_1, u_X11_other_2, u_X11_other_3, u_X11_other_5, u_X11_other_6, u_X11_other_10, u_X11_other_11, u_X11_other_14, u_X11_other_17, u_X11_other_18, u_X11_other_19, u_X11_other_25, u_X11_other_26, u_X11_other_28, u_X11_other_34, u_X11_other_35, u_X11_other_38, u_X11_other_40, u_X11_other_41, u_X11_other_42, u_X11_other_45, u_X11_other_46, u_X11_other_47, u_X11_other_50, u_X11_other_51, u_X11_other_54, u_X11_other_56, u_X11_other_59, u_X11_other_61, u_X11_other_62, u_X11_other_63, u_X11_other_65, u_X11_other_68, u_X11_other_71, u_X11_other_72, sa_put, sa_sel, sa_split, so_aload, so_cmp, so_get, so_goto, so_iald, so_if, so_iinc, so_iload, so_iret, so_istore, so_push, so_virt, sa_nth, mo, l1, l3, List.cons_append, List.nil_append, Nat.reduceEqDiff, Option.toList_none, Option.toList_some, if_false, if_true, reduceIte, sc_9, or_true, true_or, z10, z00, true_imp_iff, false_imp_iff, not_false_eq_true, not_true_eq_false, true_and, and_true, Nat.zero_le, Nat.sub_zero, List.length_cons, List.length_nil, Nat.reduceAdd, Nat.reduceLT, Nat.reduceLeDiff]
        rw [nI_1]
        refine ih (x + 1) s f (by omega) hs ?_
        have ext : ∀ j, j < x + 1 → j = x ∨ j < x := fun j hj => by omega
        rcases hv with ⟨v1, v2, v3⟩ | ⟨v1, v2, v3, v4, v5⟩
        · refine Or.inl ⟨v1, v2, fun j hj => ?_⟩
          rcases ext j hj with z | z
          · subst z; exact hn
          · exact v3 j z
        · refine Or.inr ⟨v1, by omega, v3, fun q j h1 h2 => ?_, v5⟩
          rcases ext j h2 with z | z
          · subst z; exact hn
          · exact v4 q j h1 z
      simp only [u_X11_other_0, u_X11_other_1, u_X11_other_2, u_X11_other_3, u_X11_other_5, u_X11_other_6, u_X11_other_8, u_X11_other_10, u_X11_other_11, u_X11_other_14, u_X11_other_17, u_X11_other_18, u_X11_other_19, u_X11_other_25, u_X11_other_26, u_X11_other_28, u_X11_other_34, u_X11_other_35, u_X11_other_38, u_X11_other_40, u_X11_other_41, u_X11_other_42, u_X11_other_45, u_X11_other_46, u_X11_other_47, u_X11_other_50, u_X11_other_51, u_X11_other_54, u_X11_other_56, u_X11_other_59, u_X11_other_61, u_X11_other_62, u_X11_other_63, u_X11_other_68, u_X11_other_71, u_X11_other_72, sa_put, sa_sel, sa_split, so_aload, so_cmp, so_get, so_goto, so_iald, so_if, so_iload, so_iret, so_istore, so_push, so_virt, sa_nth, mo, l1, l3, List.cons_append, List.nil_append, Nat.reduceEqDiff, Option.toList_none, Option.toList_some, if_false, if_true, reduceIte, sc_9, or_true, true_or, z10, z00, true_imp_iff, false_imp_iff, not_false_eq_true, not_true_eq_false, true_and, and_true, Nat.zero_le, Nat.sub_zero, List.length_cons, List.length_nil, Nat.reduceAdd, Nat.reduceLT, Nat.reduceLeDiff]
      rw [e1, nI_leI (by omega) (by omega)]
      refine ⟨fun q => absurd q (by omega), fun _ => ?_⟩
      refine k_X11_isLinked hL hM hi (fun q1 => ?_) (fun q1 => ?_)
      · simp only [u_X11_other_0, u_X11_other_1, u_X11_other_2, u_X11_other_3, u_X11_other_5, u_X11_other_6, u_X11_other_8, u_X11_other_10, u_X11_other_11, u_X11_other_14, u_X11_other_17, u_X11_other_18, u_X11_other_19, u_X11_other_22, u_X11_other_25, u_X11_other_26, u_X11_other_28, u_X11_other_34, u_X11_other_35, u_X11_other_38, u_X11_other_40, u_X11_other_41, u_X11_other_42, u_X11_other_45, u_X11_other_46, u_X11_other_47, u_X11_other_50, u_X11_other_51, u_X11_other_54, u_X11_other_56, u_X11_other_59, u_X11_other_61, u_X11_other_62, u_X11_other_63, u_X11_other_68, u_X11_other_71, u_X11_other_72, sa_put, sa_sel, sa_split, so_aload, so_cmp, so_get, so_goto, so_iald, so_if, so_iload, so_iret, so_istore, so_push, so_virt, sa_nth, mo, l1, l3, List.cons_append, List.nil_append, Nat.reduceEqDiff, Option.toList_none, Option.toList_some, if_false, if_true, reduceIte, sc_9, or_true, true_or, z10, z00, true_imp_iff, false_imp_iff, not_false_eq_true, not_true_eq_false, true_and, and_true, Nat.zero_le, Nat.sub_zero, List.length_cons, List.length_nil, Nat.reduceAdd, Nat.reduceLT, Nat.reduceLeDiff]
        refine k_X11_isLinked hL hM hxn (fun q2 => ?_) (fun q2 => ?_)
        · simp only [u_X11_other_0, u_X11_other_1, u_X11_other_2, u_X11_other_3, u_X11_other_5, u_X11_other_6, u_X11_other_8, u_X11_other_10, u_X11_other_11, u_X11_other_14, u_X11_other_17, u_X11_other_18, u_X11_other_19, u_X11_other_25, u_X11_other_26, u_X11_other_28, u_X11_other_31, u_X11_other_34, u_X11_other_35, u_X11_other_38, u_X11_other_40, u_X11_other_41, u_X11_other_42, u_X11_other_45, u_X11_other_46, u_X11_other_47, u_X11_other_50, u_X11_other_51, u_X11_other_54, u_X11_other_56, u_X11_other_59, u_X11_other_61, u_X11_other_62, u_X11_other_63, u_X11_other_68, u_X11_other_71, u_X11_other_72, sa_put, sa_sel, sa_split, so_aload, so_cmp, so_get, so_goto, so_iald, so_if, so_iload, so_iret, so_istore, so_push, so_virt, sa_nth, mo, l1, l3, List.cons_append, List.nil_append, Nat.reduceEqDiff, Option.toList_none, Option.toList_some, if_false, if_true, reduceIte, sc_9, or_true, true_or, z10, z00, true_imp_iff, false_imp_iff, not_false_eq_true, not_true_eq_false, true_and, and_true, Nat.zero_le, Nat.sub_zero, List.length_cons, List.length_nil, Nat.reduceAdd, Nat.reduceLT, Nat.reduceLeDiff]
          rw [nI_clamp (by omega), nI_clamp (by omega)]
          refine ⟨vp_in_nI (by omega) (by omega), vp_in_nI (by omega) (by omega), fun q3 => ?_, fun q3 => ?_⟩
          · have hlk : lkd U K (nI i) (nI x) := (lkd_iff (by omega) (by omega)).mpr ⟨q1, q2, by rw [num i hi q1, num x hxn q2]; exact q3.symm⟩
            have take : (la = 0 → f = 0) → sa_w tb_X11_other (65, [some (.inr (.inl (some 28))), some (.inl (nI i)), some (.inl la), some (.inl (nI x)), some (.inl 1), some (.inl (nI x))], [], C t A, 0, 0) Q := by
              intro hz
              simp only [u_X11_other_0, u_X11_other_1, u_X11_other_2, u_X11_other_3, u_X11_other_5, u_X11_other_6, u_X11_other_10, u_X11_other_11, u_X11_other_14, u_X11_other_17, u_X11_other_18, u_X11_other_19, u_X11_other_25, u_X11_other_26, u_X11_other_28, u_X11_other_34, u_X11_other_35, u_X11_other_38, u_X11_other_40, u_X11_other_41, u_X11_other_42, u_X11_other_45, u_X11_other_46, u_X11_other_47, u_X11_other_50, u_X11_other_51, u_X11_other_54, u_X11_other_56, u_X11_other_59, u_X11_other_61, u_X11_other_62, u_X11_other_63, u_X11_other_65, u_X11_other_68, u_X11_other_71, u_X11_other_72, sa_put, sa_sel, sa_split, so_aload, so_cmp, so_get, so_goto, so_iald, so_if, so_iinc, so_iload, so_iret, so_istore, so_push, so_virt, sa_nth, mo, l1, l3, List.cons_append, List.nil_append, Nat.reduceEqDiff, Option.toList_none, Option.toList_some, if_false, if_true, reduceIte, sc_9, or_true, true_or, z10, z00, true_imp_iff, false_imp_iff, not_false_eq_true, not_true_eq_false, true_and, and_true, Nat.zero_le, Nat.sub_zero, List.length_cons, List.length_nil, Nat.reduceAdd, Nat.reduceLT, Nat.reduceLeDiff]
              rw [nI_1]
              refine ih (x + 1) x 1 (by omega) hxn (Or.inr ⟨rfl, by omega, hlk, fun _ j h1 h2 => absurd h1 (by omega), fun q j hj => ?_⟩)
              rcases hv with ⟨v1, v2, v3⟩ | ⟨v1, v2, v3, v4, v5⟩
              · exact v3 j hj
              · rw [hz q] at v1; exact absurd v1 (by decide)
            refine ⟨fun q4 => ⟨fun q5 => take (fun _ => q5), fun q5 => ?_⟩, fun q4 => take (fun q5 => absurd q5 q4)⟩
            simp only [u_X11_other_0, u_X11_other_1, u_X11_other_2, u_X11_other_3, u_X11_other_5, u_X11_other_6, u_X11_other_10, u_X11_other_11, u_X11_other_14, u_X11_other_17, u_X11_other_18, u_X11_other_19, u_X11_other_25, u_X11_other_26, u_X11_other_28, u_X11_other_34, u_X11_other_35, u_X11_other_38, u_X11_other_40, u_X11_other_41, u_X11_other_42, u_X11_other_45, u_X11_other_46, u_X11_other_47, u_X11_other_50, u_X11_other_51, u_X11_other_54, u_X11_other_56, u_X11_other_59, u_X11_other_61, u_X11_other_62, u_X11_other_63, u_X11_other_65, u_X11_other_68, u_X11_other_71, u_X11_other_72, sa_put, sa_sel, sa_split, so_aload, so_cmp, so_get, so_goto, so_iald, so_if, so_iinc, so_iload, so_iret, so_istore, so_push, so_virt, sa_nth, mo, l1, l3, List.cons_append, List.nil_append, Nat.reduceEqDiff, Option.toList_none, Option.toList_some, if_false, if_true, reduceIte, sc_9, or_true, true_or, z10, z00, true_imp_iff, false_imp_iff, not_false_eq_true, not_true_eq_false, true_and, and_true, Nat.zero_le, Nat.sub_zero, List.length_cons, List.length_nil, Nat.reduceAdd, Nat.reduceLT, Nat.reduceLeDiff]
            rw [nI_1]
            refine ih (x + 1) s f (by omega) hs ?_
            rcases hv with ⟨v1, v2, v3⟩ | ⟨v1, v2, v3, v4, v5⟩
            · exact absurd v1 q5
            · exact Or.inr ⟨v1, by omega, v3, fun q => by rw [q4] at q; exact absurd q (by decide), v5⟩
          · refine next (fun c => q3 ?_)
            have := ((lkd_iff (by omega) (by omega)).mp c).2.2
            rw [num i hi q1, num x hxn q2] at this
            exact this.symm
        · simp only [u_X11_other_0, u_X11_other_1, u_X11_other_2, u_X11_other_3, u_X11_other_5, u_X11_other_6, u_X11_other_8, u_X11_other_10, u_X11_other_11, u_X11_other_14, u_X11_other_17, u_X11_other_18, u_X11_other_19, u_X11_other_25, u_X11_other_26, u_X11_other_28, u_X11_other_31, u_X11_other_34, u_X11_other_35, u_X11_other_38, u_X11_other_40, u_X11_other_41, u_X11_other_42, u_X11_other_45, u_X11_other_46, u_X11_other_47, u_X11_other_50, u_X11_other_51, u_X11_other_54, u_X11_other_56, u_X11_other_59, u_X11_other_61, u_X11_other_62, u_X11_other_63, u_X11_other_68, u_X11_other_71, u_X11_other_72, sa_put, sa_sel, sa_split, so_aload, so_cmp, so_get, so_goto, so_iald, so_if, so_iload, so_iret, so_istore, so_push, so_virt, sa_nth, mo, l1, l3, List.cons_append, List.nil_append, Nat.reduceEqDiff, Option.toList_none, Option.toList_some, if_false, if_true, reduceIte, sc_9, or_true, true_or, z10, z00, true_imp_iff, false_imp_iff, not_false_eq_true, not_true_eq_false, true_and, and_true, Nat.zero_le, Nat.sub_zero, List.length_cons, List.length_nil, Nat.reduceAdd, Nat.reduceLT, Nat.reduceLeDiff]
          exact next (fun c => q2 ((lkd_iff (by omega) (by omega)).mp c).2.1)
      · simp only [u_X11_other_0, u_X11_other_1, u_X11_other_2, u_X11_other_3, u_X11_other_5, u_X11_other_6, u_X11_other_8, u_X11_other_10, u_X11_other_11, u_X11_other_14, u_X11_other_17, u_X11_other_18, u_X11_other_19, u_X11_other_22, u_X11_other_25, u_X11_other_26, u_X11_other_28, u_X11_other_34, u_X11_other_35, u_X11_other_38, u_X11_other_40, u_X11_other_41, u_X11_other_42, u_X11_other_45, u_X11_other_46, u_X11_other_47, u_X11_other_50, u_X11_other_51, u_X11_other_54, u_X11_other_56, u_X11_other_59, u_X11_other_61, u_X11_other_62, u_X11_other_63, u_X11_other_68, u_X11_other_71, u_X11_other_72, sa_put, sa_sel, sa_split, so_aload, so_cmp, so_get, so_goto, so_iald, so_if, so_iload, so_iret, so_istore, so_push, so_virt, sa_nth, mo, l1, l3, List.cons_append, List.nil_append, Nat.reduceEqDiff, Option.toList_none, Option.toList_some, if_false, if_true, reduceIte, sc_9, or_true, true_or, z10, z00, true_imp_iff, false_imp_iff, not_false_eq_true, not_true_eq_false, true_and, and_true, Nat.zero_le, Nat.sub_zero, List.length_cons, List.length_nil, Nat.reduceAdd, Nat.reduceLT, Nat.reduceLeDiff]
        exact next (fun c => q1 ((lkd_iff (by omega) (by omega)).mp c).1)
  simp only [e_X11_other, u_X11_other_0, u_X11_other_1, u_X11_other_2, u_X11_other_3, u_X11_other_5, u_X11_other_6, u_X11_other_10, u_X11_other_11, u_X11_other_14, u_X11_other_17, u_X11_other_18, u_X11_other_19, u_X11_other_25, u_X11_other_26, u_X11_other_28, u_X11_other_34, u_X11_other_35, u_X11_other_38, u_X11_other_40, u_X11_other_41, u_X11_other_42, u_X11_other_45, u_X11_other_46, u_X11_other_47, u_X11_other_50, u_X11_other_51, u_X11_other_54, u_X11_other_56, u_X11_other_59, u_X11_other_61, u_X11_other_62, u_X11_other_63, u_X11_other_65, u_X11_other_68, u_X11_other_71, u_X11_other_72, sa_put, sa_sel, sa_split, so_aload, so_cmp, so_get, so_goto, so_iald, so_if, so_iinc, so_iload, so_iret, so_istore, so_push, so_virt, sa_nth, mo, l1, l3, List.cons_append, List.nil_append, Nat.reduceEqDiff, Option.toList_none, Option.toList_some, if_false, if_true, reduceIte, sc_9, or_true, true_or, z10, z00, true_imp_iff, false_imp_iff, not_false_eq_true, not_true_eq_false, true_and, and_true, Nat.zero_le, Nat.sub_zero, List.length_cons, List.length_nil, Nat.reduceAdd, Nat.reduceLT, Nat.reduceLeDiff]
  exact loop N.length 0 i 0 (by omega) hi (Or.inl ⟨rfl, rfl, fun j hj => absurd hj (by omega)⟩)
theorem k_X11_told (hL : sM_L C) (hM : sME t A N D B U K) (hI : sIE N D) (i w k : Int32) (h2 : ((¬ ∃ j, j < N.length ∧ i = nI j) ∨ (¬ w = 0 ∧ ¬ w = 1 ∧ ¬ w = 2 ∧ ¬ w = 3 ∧ ¬ w = 4)) → Q (some (.inl (-2))) (C t A)) (h0 : ∀ j, j < N.length → i = nI j → w = 0 → Q (some (.inl (nI (N.getD j []).length))) (C t A)) (h1 : ∀ j r, j < N.length → i = nI j → w = 1 → lstG U K N.length j r → Q (some (.inl (nI (D.getD r []).length))) (C t A)) (h3 : ∀ j v, j < N.length → i = nI j → w = 2 → B[j]? = some v → Q (some (.inl v)) (C t A)) (h4 : ∀ j r, j < N.length → i = nI j → w = 3 → fstG U K j r → Q (some (.inl (nI r))) (C t A)) (h5 : ∀ j, j < N.length → i = nI j → w = 4 → Q (some (.inl (sS_at (N.getD j []) k))) (C t A)) : ct_X11_told 0 0 [.inr (.inl (some 28)), .inl i, .inl w, .inl k] (C t A) Q := by
  have l1 := m_o hL
  have l3 := m_eNameSize hL
  have l4 := m_eSize hL
  have l5 := m_eAt hL
  have l6 := m_eName hL
  obtain ⟨b1, b2, b3, b4, b5, e1, e2⟩ := id hM
  dsimp only [i_entries] at e1
  have inn : (0 ≤ i ∧ i ≤ nI N.length - 1) ↔ ∃ j, j < N.length ∧ i = nI j := by
    have := in_row (l := List.replicate N.length 0) (by simp; omega) i
    simpa using this
  simp only [e_X11_told, u_X11_told_0, u_X11_told_1, u_X11_told_2, u_X11_told_3, u_X11_told_6, u_X11_told_7, u_X11_told_8, u_X11_told_14, u_X11_told_15, u_X11_told_16, u_X11_told_17, u_X11_told_23, u_X11_told_25, u_X11_told_26, u_X11_told_27, u_X11_told_56, u_X11_told_57, u_X11_told_60, u_X11_told_61, u_X11_told_62, u_X11_told_63, u_X11_told_64, u_X11_told_67, u_X11_told_68, u_X11_told_69, u_X11_told_70, u_X11_told_74, u_X11_told_75, u_X11_told_76, u_X11_told_79, u_X11_told_80, u_X11_told_81, u_X11_told_82, u_X11_told_83, u_X11_told_84, u_X11_told_85, u_X11_told_89, u_X11_told_90, u_X11_told_91, u_X11_told_92, u_X11_told_95, u_X11_told_96, u_X11_told_97, u_X11_told_98, u_X11_told_99, u_X11_told_105, u_X11_told_106, u_X11_told_109, u_X11_told_111, u_X11_told_112, u_X11_told_113, u_X11_told_114, u_X11_told_115, u_X11_told_116, u_X11_told_119, u_X11_told_120, sa_sel, sa_split, sa_sw, so_aload, so_bin, so_get, so_goto, so_iald, so_iload, so_iret, so_push, so_stat, so_sw, so_virt, sa_nth, mo, l1, List.cons_append, List.nil_append, Nat.reduceEqDiff, Option.toList_none, Option.toList_some, if_false, if_true, reduceIte, sc_9, or_true, true_or, z10, z00, true_imp_iff, false_imp_iff, not_false_eq_true, not_true_eq_false, true_and, and_true, Nat.zero_le, Nat.sub_zero, List.length_cons, List.length_nil, Nat.reduceAdd, Nat.reduceLT, Nat.reduceLeDiff]
  rw [e1]
  refine k_X11_in i 0 _ (fun q1 q2 => ?_) (fun q1 => ?_)
  · obtain ⟨j, hj, rfl⟩ := inn.mp ⟨q1, q2⟩
    obtain ⟨s1, s2, s3, s4, s5, s6, s7⟩ := e2 j hj
    dsimp only [a_eNameSize] at s1
    dsimp only [a_eName] at s4
    dsimp only [a_eAt] at s3
    have hl20 := getD_mem_le N 20 j hI.1
    simp only [u_X11_told_0, u_X11_told_1, u_X11_told_2, u_X11_told_3, u_X11_told_6, u_X11_told_7, u_X11_told_8, u_X11_told_11, u_X11_told_14, u_X11_told_15, u_X11_told_16, u_X11_told_17, u_X11_told_23, u_X11_told_25, u_X11_told_26, u_X11_told_27, u_X11_told_56, u_X11_told_57, u_X11_told_60, u_X11_told_61, u_X11_told_62, u_X11_told_63, u_X11_told_64, u_X11_told_67, u_X11_told_68, u_X11_told_69, u_X11_told_70, u_X11_told_74, u_X11_told_75, u_X11_told_76, u_X11_told_79, u_X11_told_80, u_X11_told_81, u_X11_told_82, u_X11_told_83, u_X11_told_84, u_X11_told_85, u_X11_told_89, u_X11_told_90, u_X11_told_91, u_X11_told_92, u_X11_told_95, u_X11_told_96, u_X11_told_97, u_X11_told_98, u_X11_told_99, u_X11_told_105, u_X11_told_106, u_X11_told_109, u_X11_told_111, u_X11_told_112, u_X11_told_113, u_X11_told_114, u_X11_told_115, u_X11_told_116, u_X11_told_119, u_X11_told_120, sa_sel, sa_split, sa_sw, so_aload, so_bin, so_get, so_goto, so_iald, so_if, so_iload, so_iret, so_push, so_stat, so_sw, so_virt, sa_nth, List.cons_append, List.nil_append, Nat.reduceEqDiff, Option.toList_none, Option.toList_some, if_false, if_true, reduceIte, sc_9, or_true, true_or, z10, z00, true_imp_iff, false_imp_iff, not_false_eq_true, not_true_eq_false, true_and, and_true, Nat.zero_le, Nat.sub_zero, List.length_cons, List.length_nil, Nat.reduceAdd, Nat.reduceLT, Nat.reduceLeDiff]
    refine k_X11_in w 0 4 (fun w1 w2 => ?_) (fun w1 => ?_)
    · simp only [u_X11_told_0, u_X11_told_1, u_X11_told_2, u_X11_told_3, u_X11_told_6, u_X11_told_7, u_X11_told_8, u_X11_told_14, u_X11_told_15, u_X11_told_16, u_X11_told_17, u_X11_told_20, u_X11_told_23, u_X11_told_25, u_X11_told_26, u_X11_told_27, u_X11_told_56, u_X11_told_57, u_X11_told_60, u_X11_told_61, u_X11_told_62, u_X11_told_63, u_X11_told_64, u_X11_told_67, u_X11_told_68, u_X11_told_69, u_X11_told_70, u_X11_told_74, u_X11_told_75, u_X11_told_76, u_X11_told_79, u_X11_told_80, u_X11_told_81, u_X11_told_82, u_X11_told_83, u_X11_told_84, u_X11_told_85, u_X11_told_89, u_X11_told_90, u_X11_told_91, u_X11_told_92, u_X11_told_95, u_X11_told_96, u_X11_told_97, u_X11_told_98, u_X11_told_99, u_X11_told_105, u_X11_told_106, u_X11_told_109, u_X11_told_111, u_X11_told_112, u_X11_told_113, u_X11_told_114, u_X11_told_115, u_X11_told_116, u_X11_told_119, u_X11_told_120, sa_sel, sa_split, sa_sw, so_aload, so_bin, so_get, so_goto, so_iald, so_if, so_iload, so_iret, so_push, so_stat, so_sw, so_virt, sa_nth, mo, l1, l3, l5, List.cons_append, List.nil_append, Nat.reduceEqDiff, Option.toList_none, Option.toList_some, if_false, if_true, reduceIte, sc_9, or_true, true_or, z10, z00, true_imp_iff, false_imp_iff, not_false_eq_true, not_true_eq_false, true_and, and_true, Nat.zero_le, Nat.sub_zero, List.length_cons, List.length_nil, Nat.reduceAdd, Nat.reduceLT, Nat.reduceLeDiff]
      rw [nI_clamp (by omega), s1]
      refine ⟨fun q => ⟨vp_in_nI (by omega) (by omega), h0 j hj rfl q⟩, fun n0 => ⟨fun q => ?_, fun n1 => ⟨fun q => ⟨vp_in_nI (by omega) (by omega), h3 j _ hj rfl q s3⟩, fun n2 => ⟨fun q => ?_, fun n3 => ⟨vp_in_nI (by omega) (by omega), ?_⟩⟩⟩⟩⟩
      · refine k_X11_other hL hM hj 1 (fun _ r hr hrn => ?_) (fun c => absurd c (by decide)) (Or.inr rfl)
        simp only [u_X11_told_0, u_X11_told_1, u_X11_told_2, u_X11_told_3, u_X11_told_6, u_X11_told_7, u_X11_told_8, u_X11_told_14, u_X11_told_15, u_X11_told_16, u_X11_told_17, u_X11_told_23, u_X11_told_25, u_X11_told_26, u_X11_told_27, u_X11_told_56, u_X11_told_57, u_X11_told_60, u_X11_told_61, u_X11_told_62, u_X11_told_63, u_X11_told_64, u_X11_told_67, u_X11_told_68, u_X11_told_69, u_X11_told_70, u_X11_told_73, u_X11_told_74, u_X11_told_75, u_X11_told_76, u_X11_told_79, u_X11_told_80, u_X11_told_81, u_X11_told_82, u_X11_told_83, u_X11_told_84, u_X11_told_85, u_X11_told_89, u_X11_told_90, u_X11_told_91, u_X11_told_92, u_X11_told_95, u_X11_told_96, u_X11_told_97, u_X11_told_98, u_X11_told_99, u_X11_told_105, u_X11_told_106, u_X11_told_109, u_X11_told_111, u_X11_told_112, u_X11_told_113, u_X11_told_114, u_X11_told_115, u_X11_told_116, u_X11_told_119, u_X11_told_120, sa_sel, sa_split, sa_sw, so_aload, so_bin, so_get, so_goto, so_iald, so_iload, so_iret, so_push, so_stat, so_sw, so_virt, sa_nth, mo, l1, l4, List.cons_append, List.nil_append, Nat.reduceEqDiff, Option.toList_none, Option.toList_some, if_false, if_true, reduceIte, sc_9, or_true, true_or, z10, z00, true_imp_iff, false_imp_iff, not_false_eq_true, not_true_eq_false, true_and, and_true, Nat.zero_le, Nat.sub_zero, List.length_cons, List.length_nil, Nat.reduceAdd, Nat.reduceLT, Nat.reduceLeDiff]
        rw [nI_clamp (by omega)]
        have := (e2 r hrn).2.1
        dsimp only [a_eSize] at this
        rw [this]
        exact ⟨vp_in_nI (by omega) (by omega), h1 j r hj rfl q hr⟩
      · refine k_X11_other hL hM hj 0 (fun c => absurd c (by decide)) (fun _ r hr hrn => ?_) (Or.inl rfl)
        simp only [u_X11_told_0, u_X11_told_1, u_X11_told_2, u_X11_told_3, u_X11_told_6, u_X11_told_7, u_X11_told_8, u_X11_told_14, u_X11_told_15, u_X11_told_16, u_X11_told_17, u_X11_told_23, u_X11_told_25, u_X11_told_26, u_X11_told_27, u_X11_told_56, u_X11_told_57, u_X11_told_60, u_X11_told_61, u_X11_told_62, u_X11_told_63, u_X11_told_64, u_X11_told_67, u_X11_told_68, u_X11_told_69, u_X11_told_70, u_X11_told_74, u_X11_told_75, u_X11_told_76, u_X11_told_79, u_X11_told_80, u_X11_told_81, u_X11_told_82, u_X11_told_83, u_X11_told_84, u_X11_told_85, u_X11_told_88, u_X11_told_89, u_X11_told_90, u_X11_told_91, u_X11_told_92, u_X11_told_95, u_X11_told_96, u_X11_told_97, u_X11_told_98, u_X11_told_99, u_X11_told_105, u_X11_told_106, u_X11_told_109, u_X11_told_111, u_X11_told_112, u_X11_told_113, u_X11_told_114, u_X11_told_115, u_X11_told_116, u_X11_told_119, u_X11_told_120, sa_sel, sa_split, sa_sw, so_aload, so_bin, so_get, so_goto, so_iald, so_iload, so_iret, so_push, so_stat, so_sw, so_virt, sa_nth, List.cons_append, List.nil_append, Nat.reduceEqDiff, Option.toList_none, Option.toList_some, if_false, if_true, reduceIte, sc_9, or_true, true_or, z10, z00, true_imp_iff, false_imp_iff, not_false_eq_true, not_true_eq_false, true_and, and_true, Nat.zero_le, Nat.sub_zero, List.length_cons, List.length_nil, Nat.reduceAdd, Nat.reduceLT, Nat.reduceLeDiff]
        exact h4 j r hj rfl q hr
      · have hw4 : w = 4 := by
          obtain ⟨v, hv, rfl⟩ := nI_of (by rw [i32_nlt]; exact w1)
          have hv4 : v ≤ 4 := (nI_leI (b := 4) hv (by omega)).mp w2
          have : v ≠ 0 := fun e => n0 (by rw [e]; rfl)
          have : v ≠ 1 := fun e => n1 (by rw [e]; rfl)
          have : v ≠ 2 := fun e => n2 (by rw [e]; rfl)
          have : v ≠ 3 := fun e => n3 (by rw [e]; rfl)
          rw [show v = 4 by omega]; rfl
        have h9 := h5 j hj rfl hw4
        have ink : (0 ≤ k ∧ k ≤ nI (N.getD j []).length - 1) ↔ ∃ x, x < (N.getD j []).length ∧ k = nI x := in_row (by omega) k
        refine k_X11_in k 0 _ (fun k1 k2 => ?_) (fun k1 => ?_)
        · obtain ⟨x, hx, rfl⟩ := ink.mp ⟨k1, k2⟩
          simp only [u_X11_told_0, u_X11_told_1, u_X11_told_2, u_X11_told_3, u_X11_told_6, u_X11_told_7, u_X11_told_8, u_X11_told_14, u_X11_told_15, u_X11_told_16, u_X11_told_17, u_X11_told_23, u_X11_told_25, u_X11_told_26, u_X11_told_27, u_X11_told_56, u_X11_told_57, u_X11_told_60, u_X11_told_61, u_X11_told_62, u_X11_told_63, u_X11_told_64, u_X11_told_67, u_X11_told_68, u_X11_told_69, u_X11_told_70, u_X11_told_74, u_X11_told_75, u_X11_told_76, u_X11_told_79, u_X11_told_80, u_X11_told_81, u_X11_told_82, u_X11_told_83, u_X11_told_84, u_X11_told_85, u_X11_told_89, u_X11_told_90, u_X11_told_91, u_X11_told_92, u_X11_told_95, u_X11_told_96, u_X11_told_97, u_X11_told_98, u_X11_told_99, u_X11_told_102, u_X11_told_105, u_X11_told_106, u_X11_told_109, u_X11_told_111, u_X11_told_112, u_X11_told_113, u_X11_told_114, u_X11_told_115, u_X11_told_116, u_X11_told_119, u_X11_told_120, sa_sel, sa_split, sa_sw, so_aload, so_bin, so_get, so_goto, so_iald, so_if, so_iload, so_iret, so_push, so_stat, so_sw, so_virt, sa_nth, mo, l1, l6, List.cons_append, List.nil_append, Nat.reduceEqDiff, Option.toList_none, Option.toList_some, if_false, if_true, reduceIte, sc_9, or_true, true_or, z10, z00, true_imp_iff, false_imp_iff, not_false_eq_true, not_true_eq_false, true_and, and_true, Nat.zero_le, Nat.sub_zero, List.length_cons, List.length_nil, Nat.reduceAdd, Nat.reduceLT, Nat.reduceLeDiff]
          rw [show (20 : Int32) = nI 20 from rfl, pk_mul, nI_add, nI_clamp (by omega)]
          rw [sS_at_nI (by omega), s4 x hx, Option.getD_some] at h9
          exact ⟨vp_in_nI (by omega) (by omega), h9⟩
        · simp only [u_X11_told_0, u_X11_told_1, u_X11_told_2, u_X11_told_3, u_X11_told_6, u_X11_told_7, u_X11_told_8, u_X11_told_14, u_X11_told_15, u_X11_told_16, u_X11_told_17, u_X11_told_23, u_X11_told_25, u_X11_told_26, u_X11_told_27, u_X11_told_56, u_X11_told_57, u_X11_told_60, u_X11_told_61, u_X11_told_62, u_X11_told_63, u_X11_told_64, u_X11_told_67, u_X11_told_68, u_X11_told_69, u_X11_told_70, u_X11_told_74, u_X11_told_75, u_X11_told_76, u_X11_told_79, u_X11_told_80, u_X11_told_81, u_X11_told_82, u_X11_told_83, u_X11_told_84, u_X11_told_85, u_X11_told_89, u_X11_told_90, u_X11_told_91, u_X11_told_92, u_X11_told_95, u_X11_told_96, u_X11_told_97, u_X11_told_98, u_X11_told_99, u_X11_told_102, u_X11_told_105, u_X11_told_106, u_X11_told_109, u_X11_told_111, u_X11_told_112, u_X11_told_113, u_X11_told_114, u_X11_told_115, u_X11_told_116, u_X11_told_119, u_X11_told_120, sa_sel, sa_split, sa_sw, so_aload, so_bin, so_get, so_goto, so_iald, so_if, so_iload, so_iret, so_push, so_stat, so_sw, so_virt, sa_nth, List.cons_append, List.nil_append, Nat.reduceEqDiff, Option.toList_none, Option.toList_some, if_false, if_true, reduceIte, sc_9, or_true, true_or, z10, z00, true_imp_iff, false_imp_iff, not_false_eq_true, not_true_eq_false, true_and, and_true, Nat.zero_le, Nat.sub_zero, List.length_cons, List.length_nil, Nat.reduceAdd, Nat.reduceLT, Nat.reduceLeDiff]
          have e9 : sS_at (N.getD j []) k = -1 := by
            unfold sS_at
            split
            · rfl
            · next hk0 =>
              obtain ⟨x, hx, rfl⟩ := nI_of hk0
              rw [nI_clamp hx]
              rcases Nat.lt_or_ge x (N.getD j []).length with z | z
              · exact absurd (ink.mpr ⟨x, z, rfl⟩) k1
              · rw [List.getElem?_eq_none z]; rfl
          rw [e9] at h9
          exact h9
    · simp only [u_X11_told_0, u_X11_told_1, u_X11_told_2, u_X11_told_3, u_X11_told_6, u_X11_told_7, u_X11_told_8, u_X11_told_14, u_X11_told_15, u_X11_told_16, u_X11_told_17, u_X11_told_20, u_X11_told_23, u_X11_told_25, u_X11_told_26, u_X11_told_27, u_X11_told_56, u_X11_told_57, u_X11_told_60, u_X11_told_61, u_X11_told_62, u_X11_told_63, u_X11_told_64, u_X11_told_67, u_X11_told_68, u_X11_told_69, u_X11_told_70, u_X11_told_74, u_X11_told_75, u_X11_told_76, u_X11_told_79, u_X11_told_80, u_X11_told_81, u_X11_told_82, u_X11_told_83, u_X11_told_84, u_X11_told_85, u_X11_told_89, u_X11_told_90, u_X11_told_91, u_X11_told_92, u_X11_told_95, u_X11_told_96, u_X11_told_97, u_X11_told_98, u_X11_told_99, u_X11_told_105, u_X11_told_106, u_X11_told_109, u_X11_told_111, u_X11_told_112, u_X11_told_113, u_X11_told_114, u_X11_told_115, u_X11_told_116, u_X11_told_119, u_X11_told_120, sa_sel, sa_split, sa_sw, so_aload, so_bin, so_get, so_goto, so_iald, so_if, so_iload, so_iret, so_push, so_stat, so_sw, so_virt, sa_nth, List.cons_append, List.nil_append, Nat.reduceEqDiff, Option.toList_none, Option.toList_some, if_false, if_true, reduceIte, sc_9, or_true, true_or, z10, z00, true_imp_iff, false_imp_iff, not_false_eq_true, not_true_eq_false, true_and, and_true, Nat.zero_le, Nat.sub_zero, List.length_cons, List.length_nil, Nat.reduceAdd, Nat.reduceLT, Nat.reduceLeDiff]
      refine h2 (Or.inr ⟨?_, ?_, ?_, ?_, ?_⟩) <;> intro e <;> subst e <;> exact w1 (by decide)
  · simp only [u_X11_told_0, u_X11_told_1, u_X11_told_2, u_X11_told_3, u_X11_told_6, u_X11_told_7, u_X11_told_8, u_X11_told_11, u_X11_told_14, u_X11_told_15, u_X11_told_16, u_X11_told_17, u_X11_told_23, u_X11_told_25, u_X11_told_26, u_X11_told_27, u_X11_told_56, u_X11_told_57, u_X11_told_60, u_X11_told_61, u_X11_told_62, u_X11_told_63, u_X11_told_64, u_X11_told_67, u_X11_told_68, u_X11_told_69, u_X11_told_70, u_X11_told_74, u_X11_told_75, u_X11_told_76, u_X11_told_79, u_X11_told_80, u_X11_told_81, u_X11_told_82, u_X11_told_83, u_X11_told_84, u_X11_told_85, u_X11_told_89, u_X11_told_90, u_X11_told_91, u_X11_told_92, u_X11_told_95, u_X11_told_96, u_X11_told_97, u_X11_told_98, u_X11_told_99, u_X11_told_105, u_X11_told_106, u_X11_told_109, u_X11_told_111, u_X11_told_112, u_X11_told_113, u_X11_told_114, u_X11_told_115, u_X11_told_116, u_X11_told_119, u_X11_told_120, sa_sel, sa_split, sa_sw, so_aload, so_bin, so_get, so_goto, so_iald, so_if, so_iload, so_iret, so_push, so_stat, so_sw, so_virt, sa_nth, List.cons_append, List.nil_append, Nat.reduceEqDiff, Option.toList_none, Option.toList_some, if_false, if_true, reduceIte, sc_9, or_true, true_or, z10, z00, true_imp_iff, false_imp_iff, not_false_eq_true, not_true_eq_false, true_and, and_true, Nat.zero_le, Nat.sub_zero, List.length_cons, List.length_nil, Nat.reduceAdd, Nat.reduceLT, Nat.reduceLeDiff]
    exact h2 (Or.inl (fun q => q1 (inn.mpr q)))
theorem k_X11_got (hL : sM_L C) (hM : sME t A N D B U K) (hI : sIE N D) (i k : Int32) (h1 : ((¬ ∃ j, j < N.length ∧ i = nI j) ∨ ∃ j r, j < N.length ∧ i = nI j ∧ lstG U K N.length j r ∧ ¬ ∃ x, x < (D.getD r []).length ∧ k = nI x) → ∀ t', i_thrown t' = 1 → sME t' A N D B U K → sfF t A t' A → sfR t A t' A → i_place t' = i_place t → Q (some (.inl 0)) (C t' A)) (h0 : ∀ j r x v, j < N.length → i = nI j → lstG U K N.length j r → k = nI x → (D.getD r [])[x]? = some v → ∀ t', i_thrown t' = 0 → sME t' A N D B U K → sfF t A t' A → sfR t A t' A → i_place t' = i_place t → Q (some (.inl v)) (C t' A)) : ct_X11_got 0 0 [.inr (.inl (some 28)), .inl i, .inl k] (C t A) Q := by
  have l1 := m_o hL
  have l2 := m_po hL
  have l4 := m_eSize hL
  have l5 := m_eData hL
  obtain ⟨b1, b2, b3, b4, b5, e1, e2⟩ := id hM
  dsimp only [i_entries] at e1
  have inn : (0 ≤ i ∧ i ≤ nI N.length - 1) ↔ ∃ j, j < N.length ∧ i = nI j := by
    have := in_row (l := List.replicate N.length 0) (by simp; omega) i
    simpa using this
  simp only [e_X11_got, u_X11_got_0, u_X11_got_1, u_X11_got_2, u_X11_got_3, u_X11_got_6, u_X11_got_7, u_X11_got_8, u_X11_got_14, u_X11_got_15, u_X11_got_16, u_X11_got_17, u_X11_got_23, u_X11_got_24, u_X11_got_25, u_X11_got_26, u_X11_got_27, u_X11_got_28, u_X11_got_31, u_X11_got_32, u_X11_got_33, u_X11_got_34, u_X11_got_37, u_X11_got_38, u_X11_got_39, u_X11_got_40, u_X11_got_41, u_X11_got_47, u_X11_got_48, u_X11_got_51, u_X11_got_52, u_X11_got_55, u_X11_got_56, u_X11_got_59, u_X11_got_62, u_X11_got_63, u_X11_got_66, u_X11_got_67, u_X11_got_70, u_X11_got_72, u_X11_got_73, u_X11_got_74, u_X11_got_75, u_X11_got_76, u_X11_got_77, sa_put, sa_sel, sa_split, so_aload, so_bin, so_cmp, so_get, so_goto, so_iald, so_if, so_iload, so_iret, so_istore, so_push, so_put, so_stat, so_virt, sa_nth, mo, l1, List.cons_append, List.nil_append, Nat.reduceEqDiff, Option.toList_none, Option.toList_some, if_false, if_true, reduceIte, sc_9, sf_0, sf_1, sf_i, sf_r, or_true, true_or, z10, z00, true_imp_iff, false_imp_iff, not_false_eq_true, not_true_eq_false, true_and, and_true, Nat.zero_le, Nat.sub_zero, List.length_cons, List.length_nil, Nat.reduceAdd, Nat.reduceLT, Nat.reduceLeDiff]
  rw [e1]
  refine k_X11_in i 0 _ (fun q1 q2 => ?_) (fun q1 => ?_)
  · obtain ⟨j, hj, rfl⟩ := inn.mp ⟨q1, q2⟩
    simp only [u_X11_got_0, u_X11_got_1, u_X11_got_2, u_X11_got_3, u_X11_got_6, u_X11_got_7, u_X11_got_8, u_X11_got_11, u_X11_got_14, u_X11_got_15, u_X11_got_16, u_X11_got_17, u_X11_got_23, u_X11_got_24, u_X11_got_25, u_X11_got_26, u_X11_got_27, u_X11_got_28, u_X11_got_31, u_X11_got_32, u_X11_got_33, u_X11_got_34, u_X11_got_37, u_X11_got_38, u_X11_got_39, u_X11_got_40, u_X11_got_41, u_X11_got_47, u_X11_got_48, u_X11_got_51, u_X11_got_52, u_X11_got_55, u_X11_got_56, u_X11_got_59, u_X11_got_62, u_X11_got_63, u_X11_got_66, u_X11_got_67, u_X11_got_70, u_X11_got_72, u_X11_got_73, u_X11_got_74, u_X11_got_75, u_X11_got_76, u_X11_got_77, sa_put, sa_sel, sa_split, so_aload, so_bin, so_cmp, so_get, so_goto, so_iald, so_if, so_iload, so_iret, so_istore, so_push, so_put, so_stat, so_virt, sa_nth, mo, l1, List.cons_append, List.nil_append, Nat.reduceEqDiff, Option.toList_none, Option.toList_some, if_false, if_true, reduceIte, sc_9, sf_0, sf_1, sf_i, sf_r, or_true, true_or, z10, z00, true_imp_iff, false_imp_iff, not_false_eq_true, not_true_eq_false, true_and, and_true, Nat.zero_le, Nat.sub_zero, List.length_cons, List.length_nil, Nat.reduceAdd, Nat.reduceLT, Nat.reduceLeDiff]
    refine k_X11_other hL hM hj 1 (fun _ r hr hrn => ?_) (fun c => absurd c (by decide)) (Or.inr rfl)
    simp only [u_X11_got_0, u_X11_got_1, u_X11_got_2, u_X11_got_3, u_X11_got_6, u_X11_got_7, u_X11_got_8, u_X11_got_14, u_X11_got_15, u_X11_got_16, u_X11_got_17, u_X11_got_20, u_X11_got_23, u_X11_got_24, u_X11_got_25, u_X11_got_26, u_X11_got_27, u_X11_got_28, u_X11_got_31, u_X11_got_32, u_X11_got_33, u_X11_got_34, u_X11_got_37, u_X11_got_38, u_X11_got_39, u_X11_got_40, u_X11_got_41, u_X11_got_47, u_X11_got_48, u_X11_got_51, u_X11_got_52, u_X11_got_55, u_X11_got_56, u_X11_got_59, u_X11_got_62, u_X11_got_63, u_X11_got_66, u_X11_got_67, u_X11_got_70, u_X11_got_72, u_X11_got_73, u_X11_got_74, u_X11_got_75, u_X11_got_76, u_X11_got_77, sa_put, sa_sel, sa_split, so_aload, so_bin, so_cmp, so_get, so_goto, so_iald, so_if, so_iload, so_iret, so_istore, so_push, so_put, so_stat, so_virt, sa_nth, mo, l1, l4, List.cons_append, List.nil_append, Nat.reduceEqDiff, Option.toList_none, Option.toList_some, if_false, if_true, reduceIte, sc_9, sf_0, sf_1, sf_i, sf_r, or_true, true_or, z10, z00, true_imp_iff, false_imp_iff, not_false_eq_true, not_true_eq_false, true_and, and_true, Nat.zero_le, Nat.sub_zero, List.length_cons, List.length_nil, Nat.reduceAdd, Nat.reduceLT, Nat.reduceLeDiff]
    have hD := e2 r hrn
    have h60 := getD_mem_le D 60 r hI.2
    obtain ⟨s1, s2, s3, s4, s5, s6, s7⟩ := hD
    dsimp only [a_eSize] at s2
    dsimp only [a_eData] at s5
    rw [nI_clamp (by omega), s2]
    refine ⟨fun q => absurd q (nI_ne_m1 (by omega)), fun _ => ⟨vp_in_nI (by omega) (by omega), ?_⟩⟩
    have ink : (0 ≤ k ∧ k ≤ nI (D.getD r []).length - 1) ↔ ∃ x, x < (D.getD r []).length ∧ k = nI x := in_row (by omega) k
    refine k_X11_in k 0 _ (fun k1 k2 => ?_) (fun k1 => ?_)
    · obtain ⟨x, hx, rfl⟩ := ink.mp ⟨k1, k2⟩
      simp only [u_X11_got_0, u_X11_got_1, u_X11_got_2, u_X11_got_3, u_X11_got_6, u_X11_got_7, u_X11_got_8, u_X11_got_14, u_X11_got_15, u_X11_got_16, u_X11_got_17, u_X11_got_23, u_X11_got_24, u_X11_got_25, u_X11_got_26, u_X11_got_27, u_X11_got_28, u_X11_got_31, u_X11_got_32, u_X11_got_33, u_X11_got_34, u_X11_got_37, u_X11_got_38, u_X11_got_39, u_X11_got_40, u_X11_got_41, u_X11_got_44, u_X11_got_47, u_X11_got_48, u_X11_got_51, u_X11_got_52, u_X11_got_55, u_X11_got_56, u_X11_got_59, u_X11_got_62, u_X11_got_63, u_X11_got_66, u_X11_got_67, u_X11_got_70, u_X11_got_72, u_X11_got_73, u_X11_got_74, u_X11_got_75, u_X11_got_76, u_X11_got_77, sa_put, sa_sel, sa_split, so_aload, so_bin, so_cmp, so_get, so_goto, so_iald, so_if, so_iload, so_iret, so_istore, so_push, so_put, so_stat, so_virt, sa_nth, mo, l1, l2, l5, List.cons_append, List.nil_append, Nat.reduceEqDiff, Option.toList_none, Option.toList_some, if_false, if_true, reduceIte, sc_9, sf_0, sf_1, sf_i, sf_r, or_true, true_or, z10, z00, true_imp_iff, false_imp_iff, not_false_eq_true, not_true_eq_false, true_and, and_true, Nat.zero_le, Nat.sub_zero, List.length_cons, List.length_nil, Nat.reduceAdd, Nat.reduceLT, Nat.reduceLeDiff]
      rw [show (60 : Int32) = nI 60 from rfl, pk_mul, nI_add, nI_clamp (by omega)]
      refine ⟨fun _ => ⟨vp_in_nI (by omega) (by omega), ?_⟩, fun q => absurd (by decide) q⟩
      exact h0 j r x _ hj rfl hr rfl (s5 x hx) _ rfl hM ⟨rfl, rfl, rfl, rfl, rfl, rfl⟩ ⟨rfl, rfl⟩ rfl
    · simp only [u_X11_got_0, u_X11_got_1, u_X11_got_2, u_X11_got_3, u_X11_got_6, u_X11_got_7, u_X11_got_8, u_X11_got_14, u_X11_got_15, u_X11_got_16, u_X11_got_17, u_X11_got_23, u_X11_got_24, u_X11_got_25, u_X11_got_26, u_X11_got_27, u_X11_got_28, u_X11_got_31, u_X11_got_32, u_X11_got_33, u_X11_got_34, u_X11_got_37, u_X11_got_38, u_X11_got_39, u_X11_got_40, u_X11_got_41, u_X11_got_44, u_X11_got_47, u_X11_got_48, u_X11_got_51, u_X11_got_52, u_X11_got_55, u_X11_got_56, u_X11_got_59, u_X11_got_62, u_X11_got_63, u_X11_got_66, u_X11_got_67, u_X11_got_70, u_X11_got_72, u_X11_got_73, u_X11_got_74, u_X11_got_75, u_X11_got_76, u_X11_got_77, sa_put, sa_sel, sa_split, so_aload, so_bin, so_cmp, so_get, so_goto, so_iald, so_if, so_iload, so_iret, so_istore, so_push, so_put, so_stat, so_virt, sa_nth, mo, l1, l2, l5, List.cons_append, List.nil_append, Nat.reduceEqDiff, Option.toList_none, Option.toList_some, if_false, if_true, reduceIte, sc_9, sf_0, sf_1, sf_i, sf_r, or_true, true_or, z10, z00, true_imp_iff, false_imp_iff, not_false_eq_true, not_true_eq_false, true_and, and_true, Nat.zero_le, Nat.sub_zero, List.length_cons, List.length_nil, Nat.reduceAdd, Nat.reduceLT, Nat.reduceLeDiff]
      refine ⟨fun q => absurd q (by decide), fun _ => ?_⟩
      exact h1 (Or.inr ⟨j, r, hj, rfl, hr, fun c => k1 (ink.mpr c)⟩) _ rfl hM ⟨rfl, rfl, rfl, rfl, rfl, rfl⟩ ⟨rfl, rfl⟩ rfl
  · simp only [u_X11_got_0, u_X11_got_1, u_X11_got_2, u_X11_got_3, u_X11_got_6, u_X11_got_7, u_X11_got_8, u_X11_got_11, u_X11_got_14, u_X11_got_15, u_X11_got_16, u_X11_got_17, u_X11_got_23, u_X11_got_24, u_X11_got_25, u_X11_got_26, u_X11_got_27, u_X11_got_28, u_X11_got_31, u_X11_got_32, u_X11_got_33, u_X11_got_34, u_X11_got_37, u_X11_got_38, u_X11_got_39, u_X11_got_40, u_X11_got_41, u_X11_got_47, u_X11_got_48, u_X11_got_51, u_X11_got_52, u_X11_got_55, u_X11_got_56, u_X11_got_59, u_X11_got_62, u_X11_got_63, u_X11_got_66, u_X11_got_67, u_X11_got_70, u_X11_got_72, u_X11_got_73, u_X11_got_74, u_X11_got_75, u_X11_got_76, u_X11_got_77, sa_put, sa_sel, sa_split, so_aload, so_bin, so_cmp, so_get, so_goto, so_iald, so_if, so_iload, so_iret, so_istore, so_push, so_put, so_stat, so_virt, sa_nth, mo, l1, l2, l4, l5, List.cons_append, List.nil_append, Nat.reduceEqDiff, Option.toList_none, Option.toList_some, if_false, if_true, reduceIte, sc_9, sf_0, sf_1, sf_i, sf_r, or_true, true_or, z10, z00, true_imp_iff, false_imp_iff, not_false_eq_true, not_true_eq_false, true_and, and_true, Nat.zero_le, Nat.sub_zero, List.length_cons, List.length_nil, Nat.reduceAdd, Nat.reduceLT, Nat.reduceLeDiff]
    refine ⟨fun q => absurd q (by decide), fun _ => ?_⟩
    exact h1 (Or.inl (fun q => q1 (inn.mpr q))) _ rfl hM ⟨rfl, rfl, rfl, rfl, rfl, rfl⟩ ⟨rfl, rfl⟩ rfl
end RF3
