/-! FORM 1 WRITTEN -/
def cntP (f : Nat → Bool) : Nat → Nat
  | 0 => 0
  | n + 1 => cntP f n + if f n = true then 1 else 0
theorem cntP_le (f : Nat → Bool) : ∀ n, cntP f n ≤ n
  | 0 => Nat.le_refl _
  | n + 1 => by
    have := cntP_le f n
    unfold cntP
    split <;> omega
theorem cntP_zero (f : Nat → Bool) : ∀ n, cntP f n = 0 ↔ ∀ j, j < n → f j = false
  | 0 => ⟨fun _ j hj => absurd hj (by omega), fun _ => rfl⟩
  | n + 1 => by
    have ih := cntP_zero f n
    unfold cntP
    constructor
    · intro h j hj
      by_cases hf : f n = true
      · rw [if_pos hf] at h; omega
      · rcases Nat.lt_or_ge j n with z | z
        · exact ih.mp (by omega) j z
        · rw [show j = n by omega]; simpa using hf
    · intro h
      have h1 := ih.mpr (fun j hj => h j (by omega))
      have h2 := h n (by omega)
      rw [h1, h2]; simp
theorem cntP_t {f : Nat → Bool} {n : Nat} (h : f n = true) : cntP f (n + 1) = cntP f n + 1 := by show cntP f n + _ = _; rw [if_pos h]
theorem cntP_f {f : Nat → Bool} {n : Nat} (h : f n = false) : cntP f (n + 1) = cntP f n := by show cntP f n + _ = _; rw [if_neg (by rw [h]; decide)]; rfl
def isR (T : List Int32) (j : Nat) : Bool := decide (T.getD j (-1) = -1)
def smR (T : List Int32) (i j : Nat) : Bool := decide (sF_h T (nI j) = sF_h T (nI i))
def fullB (T : List Int32) (n i : Nat) : Bool := decide (cntP (fun j => decide (i < j) && smR T i j) n = 0)
theorem fullB_iff (T : List Int32) (n i : Nat) : fullB T n i = true ↔ ∀ j, i < j → j < n → sF_h T (nI j) ≠ sF_h T (nI i) := by
  unfold fullB
  rw [decide_eq_true_iff, cntP_zero]
  constructor
  · intro h j h1 h2 e
    have := h j h2
    unfold smR at this
    simp [h1, e] at this
  · intro h j hj
    by_cases hi : i < j
    · have := h j hi hj
      unfold smR
      simp [this]
    · simp [hi]
def rtN (T : List Int32) (i : Nat) : Nat := (sF_h T (nI i)).toNatClampNeg
def nbr (T : List Int32) (i : Nat) : Nat := cntP (isR T) (rtN T i) + 1
def two (v : Int32) : List Int32 := [(v >>> (8 : Int32)) &&& 255, v &&& 255]
def nHead (number links len size sum : Int32) : List Int32 := [199, 113] ++ two number ++ [links, len + 1] ++ two size ++ two sum
def nEnd (len : Nat) : List Int32 := [0] ++ (if (len + 1) % 2 = 1 then [0] else [])
def nFile (N D : List (List Int32)) (T : List Int32) (i : Nat) : List Int32 :=
  let s : List Int32 := if fullB T N.length i = true then cont D T i else []
  nHead (nI (nbr T i)) (nI (cntP (smR T i) N.length)) (nI (N.getD i []).length) (nI s.length) (sm_of s &&& 65535) ++ N.getD i [] ++ nEnd (N.getD i []).length ++ s ++ pad s.length 0
def nBody (N D : List (List Int32)) (T : List Int32) : Nat → List Int32
  | 0 => []
  | i + 1 => nBody N D T i ++ nFile N D T i
def numL (N D : List (List Int32)) (T : List Int32) : List Int32 := nBody N D T N.length ++ (nHead 0 1 8 0 0 ++ sT 0 ++ nEnd 8)
theorem nHead_len (a b c d e : Int32) : (nHead a b c d e).length = 10 := rfl
theorem nEnd_len (n : Nat) : (nEnd n).length ≤ 2 := by unfold nEnd; split <;> simp
theorem nFile_len (N D : List (List Int32)) (T : List Int32) (hI : sIF N D T) (i : Nat) : (nFile N D T i).length ≤ 93 := by
  have h1 := getD_mem_le N 20 i hI.1
  have h2 := row_le60 hI (sF_h T (nI i))
  unfold nFile
  have h3 := nEnd_len (N.getD i []).length
  have h4 := pad_len (if fullB T N.length i = true then cont D T i else []).length 0
  have h5 : (if fullB T N.length i = true then cont D T i else []).length ≤ 60 := by
    split
    · exact h2
    · simp
  simp only [List.length_append, nHead_len]
  omega
theorem nBody_len (N D : List (List Int32)) (T : List Int32) (hI : sIF N D T) : ∀ i, (nBody N D T i).length ≤ 93 * i
  | 0 => by simp [nBody]
  | i + 1 => by
    have h1 := nBody_len N D T hI i
    have h2 := nFile_len N D T hI i
    unfold nBody
    rw [List.length_append]
    omega
section NFI
variable {C : gF → sa_H} {F : gF} {N D : List (List Int32)} {T : List Int32} {Q : sa_Q}
theorem k_X3_numberOf (hL : sF_L C) (hR : sF_R F N D T) (hI : sIF N D T) {i : Nat} (hi : i < N.length) (h : Q (some (.inl (nI (nbr T i)))) (C F)) : ct_X3_numberOf 0 0 [.inr (.inl (some 1)), .inl (nI i)] (C F) Q := by
  have g1 : ∀ F, sa_nth (C F) 1 = some (.inr (3, [.inr (.inl (some 2)), .inr (.inl (some 5)), .inr (.inl (some 8))])) := fun F => (hL.1 F.2.2).2.1 F.1 F.2.1
  have hn := hR.1.2.2.1
  have hT := hR.2.2.2.1
  obtain ⟨rt, hrn, hrt⟩ := root_lt hI hT hi (by omega)
  have hrN : rtN T i = rt := by unfold rtN; rw [hrt, nI_clamp (by omega)]
  have loop : ∀ (m x : Nat), x + m = rt → sa_w tb_X3_numberOf (4, [some (.inr (.inl (some 1))), some (.inl (nI i)), some (.inl (nI (cntP (isR T) x + 1))), some (.inl (nI x))], [], C F, 0, 0) Q := by
    intro m
    induction m with
    | zero =>
      intro x hx
      simp only [u_X3_numberOf_0, u_X3_numberOf_1, u_X3_numberOf_2, u_X3_numberOf_3, u_X3_numberOf_4, u_X3_numberOf_5, u_X3_numberOf_6, u_X3_numberOf_7, u_X3_numberOf_13, u_X3_numberOf_14, u_X3_numberOf_15, u_X3_numberOf_21, u_X3_numberOf_24, u_X3_numberOf_27, u_X3_numberOf_30, u_X3_numberOf_31, sa_put, sa_sel, sa_split, so_aload, so_goto, so_iinc, so_iload, so_iret, so_istore, so_push, so_virt, sa_nth, g1, List.cons_append, List.nil_append, Nat.reduceEqDiff, Option.toList_none, Option.toList_some, if_false, if_true, reduceIte, or_true, true_or, z10, z00, true_imp_iff, false_imp_iff, not_false_eq_true, not_true_eq_false, true_and, and_true, Nat.zero_le, Nat.sub_zero, List.length_cons, List.length_nil, Nat.reduceAdd, Nat.reduceLT, Nat.reduceLeDiff]
      refine k_X3_holder hL hR _ ?_
      rw [hrt]
      simp only [u_X3_numberOf_0, u_X3_numberOf_1, u_X3_numberOf_2, u_X3_numberOf_3, u_X3_numberOf_5, u_X3_numberOf_6, u_X3_numberOf_7, u_X3_numberOf_10, u_X3_numberOf_13, u_X3_numberOf_14, u_X3_numberOf_15, u_X3_numberOf_21, u_X3_numberOf_24, u_X3_numberOf_27, u_X3_numberOf_30, u_X3_numberOf_31, sa_put, sa_sel, sa_split, so_aload, so_cmp, so_goto, so_iinc, so_iload, so_iret, so_istore, so_push, so_virt, sa_nth, g1, List.cons_append, List.nil_append, Nat.reduceEqDiff, Option.toList_none, Option.toList_some, if_false, if_true, reduceIte, or_true, true_or, z10, z00, true_imp_iff, false_imp_iff, not_false_eq_true, not_true_eq_false, true_and, and_true, Nat.zero_le, Nat.sub_zero, List.length_cons, List.length_nil, Nat.reduceAdd, Nat.reduceLT, Nat.reduceLeDiff]
      rw [nI_leI (by omega) (by omega)]
      refine ⟨fun _ => ?_, fun q => absurd (by omega) q⟩
      unfold nbr at h
      rw [hrN] at h
      rw [show x = rt by omega]
      exact h
    | succ m ih =>
      intro x hx
      have hcx := cntP_le (isR T) x
      simp only [u_X3_numberOf_0, u_X3_numberOf_1, u_X3_numberOf_2, u_X3_numberOf_3, u_X3_numberOf_4, u_X3_numberOf_5, u_X3_numberOf_6, u_X3_numberOf_7, u_X3_numberOf_13, u_X3_numberOf_14, u_X3_numberOf_15, u_X3_numberOf_21, u_X3_numberOf_24, u_X3_numberOf_27, u_X3_numberOf_30, u_X3_numberOf_31, sa_put, sa_sel, sa_split, so_aload, so_goto, so_iinc, so_iload, so_iret, so_istore, so_push, so_virt, sa_nth, g1, List.cons_append, List.nil_append, Nat.reduceEqDiff, Option.toList_none, Option.toList_some, if_false, if_true, reduceIte, or_true, true_or, z10, z00, true_imp_iff, false_imp_iff, not_false_eq_true, not_true_eq_false, true_and, and_true, Nat.zero_le, Nat.sub_zero, List.length_cons, List.length_nil, Nat.reduceAdd, Nat.reduceLT, Nat.reduceLeDiff]
      refine k_X3_holder hL hR _ ?_
      rw [hrt]
      simp only [u_X3_numberOf_0, u_X3_numberOf_1, u_X3_numberOf_2, u_X3_numberOf_3, u_X3_numberOf_5, u_X3_numberOf_6, u_X3_numberOf_7, u_X3_numberOf_10, u_X3_numberOf_13, u_X3_numberOf_14, u_X3_numberOf_15, u_X3_numberOf_21, u_X3_numberOf_24, u_X3_numberOf_27, u_X3_numberOf_30, u_X3_numberOf_31, sa_put, sa_sel, sa_split, so_aload, so_cmp, so_goto, so_iinc, so_iload, so_iret, so_istore, so_push, so_virt, sa_nth, g1, List.cons_append, List.nil_append, Nat.reduceEqDiff, Option.toList_none, Option.toList_some, if_false, if_true, reduceIte, or_true, true_or, z10, z00, true_imp_iff, false_imp_iff, not_false_eq_true, not_true_eq_false, true_and, and_true, Nat.zero_le, Nat.sub_zero, List.length_cons, List.length_nil, Nat.reduceAdd, Nat.reduceLT, Nat.reduceLeDiff]
      rw [nI_leI (by omega) (by omega)]
      refine ⟨fun q => absurd q (by omega), fun _ => ?_⟩
      have hTx : T[x]? = some (T.getD x (-1)) := by
        rw [List.getD_eq_getElem?_getD, List.getElem?_eq_getElem (by omega)]; rfl
      refine k_X3_isLink hL hR _ (fun q => ?_) (fun q => ?_)
      · simp only [u_X3_numberOf_0, u_X3_numberOf_1, u_X3_numberOf_2, u_X3_numberOf_3, u_X3_numberOf_5, u_X3_numberOf_6, u_X3_numberOf_7, u_X3_numberOf_13, u_X3_numberOf_14, u_X3_numberOf_15, u_X3_numberOf_18, u_X3_numberOf_21, u_X3_numberOf_24, u_X3_numberOf_27, u_X3_numberOf_30, u_X3_numberOf_31, sa_put, sa_sel, sa_split, so_aload, so_goto, so_if, so_iinc, so_iload, so_iret, so_istore, so_push, so_virt, sa_nth, g1, List.cons_append, List.nil_append, Nat.reduceEqDiff, Option.toList_none, Option.toList_some, if_false, if_true, reduceIte, or_true, true_or, z10, z00, true_imp_iff, false_imp_iff, not_false_eq_true, not_true_eq_false, true_and, and_true, Nat.zero_le, Nat.sub_zero, List.length_cons, List.length_nil, Nat.reduceAdd, Nat.reduceLT, Nat.reduceLeDiff]
        rw [nI_1]
        have := ih (x + 1) (by omega)
        have e : cntP (isR T) (x + 1) = cntP (isR T) x := by
          have h9 := (sF_link hI (by omega) hTx).mp q
          exact cntP_f (by unfold isR; exact decide_eq_false h9)
        rw [e] at this
        exact this
      · simp only [u_X3_numberOf_0, u_X3_numberOf_1, u_X3_numberOf_2, u_X3_numberOf_3, u_X3_numberOf_5, u_X3_numberOf_6, u_X3_numberOf_7, u_X3_numberOf_13, u_X3_numberOf_14, u_X3_numberOf_15, u_X3_numberOf_18, u_X3_numberOf_21, u_X3_numberOf_24, u_X3_numberOf_27, u_X3_numberOf_30, u_X3_numberOf_31, sa_put, sa_sel, sa_split, so_aload, so_goto, so_if, so_iinc, so_iload, so_iret, so_istore, so_push, so_virt, sa_nth, g1, List.cons_append, List.nil_append, Nat.reduceEqDiff, Option.toList_none, Option.toList_some, if_false, if_true, reduceIte, or_true, true_or, z10, z00, true_imp_iff, false_imp_iff, not_false_eq_true, not_true_eq_false, true_and, and_true, Nat.zero_le, Nat.sub_zero, List.length_cons, List.length_nil, Nat.reduceAdd, Nat.reduceLT, Nat.reduceLeDiff]
        rw [nI_1, nI_1]
        have := ih (x + 1) (by omega)
        have e : cntP (isR T) (x + 1) = cntP (isR T) x + 1 := by
          have h9 : T.getD x (-1) = -1 := by
            rcases Decidable.em (T.getD x (-1) = -1) with z | z
            · exact z
            · exact absurd q ((sF_link hI (by omega) hTx).mpr z)
          exact cntP_t (by unfold isR; rw [h9]; rfl)
        rw [e] at this
        exact this
  simp only [e_X3_numberOf, u_X3_numberOf_0, u_X3_numberOf_1, u_X3_numberOf_2, u_X3_numberOf_3, u_X3_numberOf_5, u_X3_numberOf_6, u_X3_numberOf_7, u_X3_numberOf_13, u_X3_numberOf_14, u_X3_numberOf_15, u_X3_numberOf_21, u_X3_numberOf_24, u_X3_numberOf_27, u_X3_numberOf_30, u_X3_numberOf_31, sa_put, sa_sel, sa_split, so_aload, so_goto, so_iinc, so_iload, so_iret, so_istore, so_push, so_virt, sa_nth, List.cons_append, List.nil_append, Nat.reduceEqDiff, Option.toList_none, Option.toList_some, if_false, if_true, reduceIte, or_true, true_or, z10, z00, true_imp_iff, false_imp_iff, not_false_eq_true, not_true_eq_false, true_and, and_true, Nat.zero_le, Nat.sub_zero, List.length_cons, List.length_nil, Nat.reduceAdd, Nat.reduceLT, Nat.reduceLeDiff]
  exact loop rt 0 (by omega)
theorem k_X3_linksOf (hL : sF_L C) (hR : sF_R F N D T) {i : Nat} (h : Q (some (.inl (nI (cntP (smR T i) N.length)))) (C F)) : ct_X3_linksOf 0 0 [.inr (.inl (some 1)), .inl (nI i)] (C F) Q := by
  have g1 : ∀ F, sa_nth (C F) 1 = some (.inr (3, [.inr (.inl (some 2)), .inr (.inl (some 5)), .inr (.inl (some 8))])) := fun F => (hL.1 F.2.2).2.1 F.1 F.2.1
  have hn := hR.1.2.2.1
  have loop : ∀ (m x : Nat), x + m = N.length → sa_w tb_X3_linksOf (4, [some (.inr (.inl (some 1))), some (.inl (nI i)), some (.inl (nI (cntP (smR T i) x))), some (.inl (nI x))], [], C F, 0, 0) Q := by
    intro m
    induction m with
    | zero =>
      intro x hx
      simp only [u_X3_linksOf_0, u_X3_linksOf_1, u_X3_linksOf_2, u_X3_linksOf_3, u_X3_linksOf_4, u_X3_linksOf_5, u_X3_linksOf_6, u_X3_linksOf_12, u_X3_linksOf_13, u_X3_linksOf_14, u_X3_linksOf_18, u_X3_linksOf_19, u_X3_linksOf_25, u_X3_linksOf_28, u_X3_linksOf_31, u_X3_linksOf_34, u_X3_linksOf_35, sa_put, sa_sel, sa_split, so_aload, so_goto, so_iinc, so_iload, so_iret, so_istore, so_push, so_virt, sa_nth, g1, List.cons_append, List.nil_append, Nat.reduceEqDiff, Option.toList_none, Option.toList_some, if_false, if_true, reduceIte, or_true, true_or, z10, z00, true_imp_iff, false_imp_iff, not_false_eq_true, not_true_eq_false, true_and, and_true, Nat.zero_le, Nat.sub_zero, List.length_cons, List.length_nil, Nat.reduceAdd, Nat.reduceLT, Nat.reduceLeDiff]
      refine k_X8_count (hL.1 F.2.2) hR.1 ?_
      simp only [u_X3_linksOf_0, u_X3_linksOf_1, u_X3_linksOf_2, u_X3_linksOf_3, u_X3_linksOf_5, u_X3_linksOf_6, u_X3_linksOf_9, u_X3_linksOf_12, u_X3_linksOf_13, u_X3_linksOf_14, u_X3_linksOf_18, u_X3_linksOf_19, u_X3_linksOf_25, u_X3_linksOf_28, u_X3_linksOf_31, u_X3_linksOf_34, u_X3_linksOf_35, sa_put, sa_sel, sa_split, so_aload, so_cmp, so_goto, so_iinc, so_iload, so_iret, so_istore, so_push, so_virt, sa_nth, g1, List.cons_append, List.nil_append, Nat.reduceEqDiff, Option.toList_none, Option.toList_some, if_false, if_true, reduceIte, or_true, true_or, z10, z00, true_imp_iff, false_imp_iff, not_false_eq_true, not_true_eq_false, true_and, and_true, Nat.zero_le, Nat.sub_zero, List.length_cons, List.length_nil, Nat.reduceAdd, Nat.reduceLT, Nat.reduceLeDiff]
      rw [nI_leI (by omega) (by omega)]
      refine ⟨fun _ => ?_, fun q => absurd (by omega) q⟩
      rw [show x = N.length by omega]
      exact h
    | succ m ih =>
      intro x hx
      have hcx := cntP_le (smR T i) x
      simp only [u_X3_linksOf_0, u_X3_linksOf_1, u_X3_linksOf_2, u_X3_linksOf_3, u_X3_linksOf_4, u_X3_linksOf_5, u_X3_linksOf_6, u_X3_linksOf_12, u_X3_linksOf_13, u_X3_linksOf_14, u_X3_linksOf_18, u_X3_linksOf_19, u_X3_linksOf_25, u_X3_linksOf_28, u_X3_linksOf_31, u_X3_linksOf_34, u_X3_linksOf_35, sa_put, sa_sel, sa_split, so_aload, so_goto, so_iinc, so_iload, so_iret, so_istore, so_push, so_virt, sa_nth, g1, List.cons_append, List.nil_append, Nat.reduceEqDiff, Option.toList_none, Option.toList_some, if_false, if_true, reduceIte, or_true, true_or, z10, z00, true_imp_iff, false_imp_iff, not_false_eq_true, not_true_eq_false, true_and, and_true, Nat.zero_le, Nat.sub_zero, List.length_cons, List.length_nil, Nat.reduceAdd, Nat.reduceLT, Nat.reduceLeDiff]
      refine k_X8_count (hL.1 F.2.2) hR.1 ?_
      simp only [u_X3_linksOf_0, u_X3_linksOf_1, u_X3_linksOf_2, u_X3_linksOf_3, u_X3_linksOf_5, u_X3_linksOf_6, u_X3_linksOf_9, u_X3_linksOf_12, u_X3_linksOf_13, u_X3_linksOf_14, u_X3_linksOf_18, u_X3_linksOf_19, u_X3_linksOf_25, u_X3_linksOf_28, u_X3_linksOf_31, u_X3_linksOf_34, u_X3_linksOf_35, sa_put, sa_sel, sa_split, so_aload, so_cmp, so_goto, so_iinc, so_iload, so_iret, so_istore, so_push, so_virt, sa_nth, g1, List.cons_append, List.nil_append, Nat.reduceEqDiff, Option.toList_none, Option.toList_some, if_false, if_true, reduceIte, or_true, true_or, z10, z00, true_imp_iff, false_imp_iff, not_false_eq_true, not_true_eq_false, true_and, and_true, Nat.zero_le, Nat.sub_zero, List.length_cons, List.length_nil, Nat.reduceAdd, Nat.reduceLT, Nat.reduceLeDiff]
      rw [nI_leI (by omega) (by omega)]
      refine ⟨fun q => absurd q (by omega), fun _ => ?_⟩
      refine k_X3_holder hL hR _ ?_
      simp only [u_X3_linksOf_0, u_X3_linksOf_1, u_X3_linksOf_2, u_X3_linksOf_3, u_X3_linksOf_5, u_X3_linksOf_6, u_X3_linksOf_12, u_X3_linksOf_13, u_X3_linksOf_14, u_X3_linksOf_17, u_X3_linksOf_18, u_X3_linksOf_19, u_X3_linksOf_25, u_X3_linksOf_28, u_X3_linksOf_31, u_X3_linksOf_34, u_X3_linksOf_35, sa_put, sa_sel, sa_split, so_aload, so_goto, so_iinc, so_iload, so_iret, so_istore, so_push, so_virt, sa_nth, g1, List.cons_append, List.nil_append, Nat.reduceEqDiff, Option.toList_none, Option.toList_some, if_false, if_true, reduceIte, or_true, true_or, z10, z00, true_imp_iff, false_imp_iff, not_false_eq_true, not_true_eq_false, true_and, and_true, Nat.zero_le, Nat.sub_zero, List.length_cons, List.length_nil, Nat.reduceAdd, Nat.reduceLT, Nat.reduceLeDiff]
      refine k_X3_holder hL hR _ ?_
      simp only [u_X3_linksOf_0, u_X3_linksOf_1, u_X3_linksOf_2, u_X3_linksOf_3, u_X3_linksOf_5, u_X3_linksOf_6, u_X3_linksOf_12, u_X3_linksOf_13, u_X3_linksOf_14, u_X3_linksOf_18, u_X3_linksOf_19, u_X3_linksOf_22, u_X3_linksOf_25, u_X3_linksOf_28, u_X3_linksOf_31, u_X3_linksOf_34, u_X3_linksOf_35, sa_put, sa_sel, sa_split, so_aload, so_cmp, so_goto, so_iinc, so_iload, so_iret, so_istore, so_push, so_virt, sa_nth, g1, List.cons_append, List.nil_append, Nat.reduceEqDiff, Option.toList_none, Option.toList_some, if_false, if_true, reduceIte, or_true, true_or, z10, z00, true_imp_iff, false_imp_iff, not_false_eq_true, not_true_eq_false, true_and, and_true, Nat.zero_le, Nat.sub_zero, List.length_cons, List.length_nil, Nat.reduceAdd, Nat.reduceLT, Nat.reduceLeDiff]
      rw [nI_1, nI_1]
      have := ih (x + 1) (by omega)
      refine ⟨fun q => ?_, fun q => ?_⟩
      · have e : cntP (smR T i) (x + 1) = cntP (smR T i) x + 1 := by
          exact cntP_t (by unfold smR; rw [q]; simp)
        rw [e] at this; exact this
      · have e : cntP (smR T i) (x + 1) = cntP (smR T i) x := by
          exact cntP_f (by unfold smR; exact decide_eq_false q)
        rw [e] at this; exact this
  simp only [e_X3_linksOf, u_X3_linksOf_0, u_X3_linksOf_1, u_X3_linksOf_2, u_X3_linksOf_3, u_X3_linksOf_5, u_X3_linksOf_6, u_X3_linksOf_12, u_X3_linksOf_13, u_X3_linksOf_14, u_X3_linksOf_18, u_X3_linksOf_19, u_X3_linksOf_25, u_X3_linksOf_28, u_X3_linksOf_31, u_X3_linksOf_34, u_X3_linksOf_35, sa_put, sa_sel, sa_split, so_aload, so_goto, so_iinc, so_iload, so_iret, so_istore, so_push, so_virt, sa_nth, List.cons_append, List.nil_append, Nat.reduceEqDiff, Option.toList_none, Option.toList_some, if_false, if_true, reduceIte, or_true, true_or, z10, z00, true_imp_iff, false_imp_iff, not_false_eq_true, not_true_eq_false, true_and, and_true, Nat.zero_le, Nat.sub_zero, List.length_cons, List.length_nil, Nat.reduceAdd, Nat.reduceLT, Nat.reduceLeDiff]
  exact loop N.length 0 (by omega)
theorem k_X3_isLastOfGroup (hL : sF_L C) (hR : sF_R F N D T) {i : Nat} (hi : i < N.length) (h1 : fullB T N.length i = true → Q (some (.inl 1)) (C F)) (h0 : fullB T N.length i = false → Q (some (.inl 0)) (C F)) : ct_X3_isLastOfGroup 0 0 [.inr (.inl (some 1)), .inl (nI i)] (C F) Q := by
  have g1 : ∀ F, sa_nth (C F) 1 = some (.inr (3, [.inr (.inl (some 2)), .inr (.inl (some 5)), .inr (.inl (some 8))])) := fun F => (hL.1 F.2.2).2.1 F.1 F.2.1
  have hn := hR.1.2.2.1
  have loop : ∀ (m x : Nat), x + m = N.length → (∀ j, i < j → j < x → sF_h T (nI j) ≠ sF_h T (nI i)) → i < x → sa_w tb_X3_isLastOfGroup (4, [some (.inr (.inl (some 1))), some (.inl (nI i)), some (.inl (nI x))], [], C F, 0, 0) Q := by
    intro m
    induction m with
    | zero =>
      intro x hx he hix
      simp only [u_X3_isLastOfGroup_0, u_X3_isLastOfGroup_1, u_X3_isLastOfGroup_2, u_X3_isLastOfGroup_3, u_X3_isLastOfGroup_4, u_X3_isLastOfGroup_5, u_X3_isLastOfGroup_6, u_X3_isLastOfGroup_12, u_X3_isLastOfGroup_13, u_X3_isLastOfGroup_14, u_X3_isLastOfGroup_18, u_X3_isLastOfGroup_19, u_X3_isLastOfGroup_25, u_X3_isLastOfGroup_26, u_X3_isLastOfGroup_27, u_X3_isLastOfGroup_30, u_X3_isLastOfGroup_33, u_X3_isLastOfGroup_34, sa_put, sa_sel, sa_split, so_aload, so_bin, so_goto, so_iinc, so_iload, so_istore, so_push, so_virt, so_zret, sa_nth, g1, List.cons_append, List.nil_append, Nat.reduceEqDiff, Option.toList_none, Option.toList_some, if_false, if_true, reduceIte, or_true, true_or, z10, z00, true_imp_iff, false_imp_iff, not_false_eq_true, not_true_eq_false, true_and, and_true, Nat.zero_le, Nat.sub_zero, List.length_cons, List.length_nil, Nat.reduceAdd, Nat.reduceLT, Nat.reduceLeDiff]
      refine k_X8_count (hL.1 F.2.2) hR.1 ?_
      simp only [u_X3_isLastOfGroup_0, u_X3_isLastOfGroup_1, u_X3_isLastOfGroup_2, u_X3_isLastOfGroup_3, u_X3_isLastOfGroup_5, u_X3_isLastOfGroup_6, u_X3_isLastOfGroup_9, u_X3_isLastOfGroup_12, u_X3_isLastOfGroup_13, u_X3_isLastOfGroup_14, u_X3_isLastOfGroup_18, u_X3_isLastOfGroup_19, u_X3_isLastOfGroup_25, u_X3_isLastOfGroup_26, u_X3_isLastOfGroup_27, u_X3_isLastOfGroup_30, u_X3_isLastOfGroup_33, u_X3_isLastOfGroup_34, sa_put, sa_sel, sa_split, so_aload, so_bin, so_cmp, so_goto, so_iinc, so_iload, so_istore, so_push, so_virt, so_zret, sa_nth, g1, List.cons_append, List.nil_append, Nat.reduceEqDiff, Option.toList_none, Option.toList_some, if_false, if_true, reduceIte, or_true, true_or, z10, z00, true_imp_iff, false_imp_iff, not_false_eq_true, not_true_eq_false, true_and, and_true, Nat.zero_le, Nat.sub_zero, List.length_cons, List.length_nil, Nat.reduceAdd, Nat.reduceLT, Nat.reduceLeDiff]
      rw [nI_leI (by omega) (by omega)]
      refine ⟨fun _ => h1 ((fullB_iff T N.length i).mpr (fun j a b => he j a (by omega))), fun q => absurd (by omega) q⟩
    | succ m ih =>
      intro x hx he hix
      simp only [u_X3_isLastOfGroup_0, u_X3_isLastOfGroup_1, u_X3_isLastOfGroup_2, u_X3_isLastOfGroup_3, u_X3_isLastOfGroup_4, u_X3_isLastOfGroup_5, u_X3_isLastOfGroup_6, u_X3_isLastOfGroup_12, u_X3_isLastOfGroup_13, u_X3_isLastOfGroup_14, u_X3_isLastOfGroup_18, u_X3_isLastOfGroup_19, u_X3_isLastOfGroup_25, u_X3_isLastOfGroup_26, u_X3_isLastOfGroup_27, u_X3_isLastOfGroup_30, u_X3_isLastOfGroup_33, u_X3_isLastOfGroup_34, sa_put, sa_sel, sa_split, so_aload, so_bin, so_goto, so_iinc, so_iload, so_istore, so_push, so_virt, so_zret, sa_nth, g1, List.cons_append, List.nil_append, Nat.reduceEqDiff, Option.toList_none, Option.toList_some, if_false, if_true, reduceIte, or_true, true_or, z10, z00, true_imp_iff, false_imp_iff, not_false_eq_true, not_true_eq_false, true_and, and_true, Nat.zero_le, Nat.sub_zero, List.length_cons, List.length_nil, Nat.reduceAdd, Nat.reduceLT, Nat.reduceLeDiff]
      refine k_X8_count (hL.1 F.2.2) hR.1 ?_
      simp only [u_X3_isLastOfGroup_0, u_X3_isLastOfGroup_1, u_X3_isLastOfGroup_2, u_X3_isLastOfGroup_3, u_X3_isLastOfGroup_5, u_X3_isLastOfGroup_6, u_X3_isLastOfGroup_9, u_X3_isLastOfGroup_12, u_X3_isLastOfGroup_13, u_X3_isLastOfGroup_14, u_X3_isLastOfGroup_18, u_X3_isLastOfGroup_19, u_X3_isLastOfGroup_25, u_X3_isLastOfGroup_26, u_X3_isLastOfGroup_27, u_X3_isLastOfGroup_30, u_X3_isLastOfGroup_33, u_X3_isLastOfGroup_34, sa_put, sa_sel, sa_split, so_aload, so_bin, so_cmp, so_goto, so_iinc, so_iload, so_istore, so_push, so_virt, so_zret, sa_nth, g1, List.cons_append, List.nil_append, Nat.reduceEqDiff, Option.toList_none, Option.toList_some, if_false, if_true, reduceIte, or_true, true_or, z10, z00, true_imp_iff, false_imp_iff, not_false_eq_true, not_true_eq_false, true_and, and_true, Nat.zero_le, Nat.sub_zero, List.length_cons, List.length_nil, Nat.reduceAdd, Nat.reduceLT, Nat.reduceLeDiff]
      rw [nI_leI (by omega) (by omega)]
      refine ⟨fun q => absurd q (by omega), fun _ => ?_⟩
      refine k_X3_holder hL hR _ ?_
      simp only [u_X3_isLastOfGroup_0, u_X3_isLastOfGroup_1, u_X3_isLastOfGroup_2, u_X3_isLastOfGroup_3, u_X3_isLastOfGroup_5, u_X3_isLastOfGroup_6, u_X3_isLastOfGroup_12, u_X3_isLastOfGroup_13, u_X3_isLastOfGroup_14, u_X3_isLastOfGroup_17, u_X3_isLastOfGroup_18, u_X3_isLastOfGroup_19, u_X3_isLastOfGroup_25, u_X3_isLastOfGroup_26, u_X3_isLastOfGroup_27, u_X3_isLastOfGroup_30, u_X3_isLastOfGroup_33, u_X3_isLastOfGroup_34, sa_put, sa_sel, sa_split, so_aload, so_bin, so_goto, so_iinc, so_iload, so_istore, so_push, so_virt, so_zret, sa_nth, g1, List.cons_append, List.nil_append, Nat.reduceEqDiff, Option.toList_none, Option.toList_some, if_false, if_true, reduceIte, or_true, true_or, z10, z00, true_imp_iff, false_imp_iff, not_false_eq_true, not_true_eq_false, true_and, and_true, Nat.zero_le, Nat.sub_zero, List.length_cons, List.length_nil, Nat.reduceAdd, Nat.reduceLT, Nat.reduceLeDiff]
      refine k_X3_holder hL hR _ ?_
      simp only [u_X3_isLastOfGroup_0, u_X3_isLastOfGroup_1, u_X3_isLastOfGroup_2, u_X3_isLastOfGroup_3, u_X3_isLastOfGroup_5, u_X3_isLastOfGroup_6, u_X3_isLastOfGroup_12, u_X3_isLastOfGroup_13, u_X3_isLastOfGroup_14, u_X3_isLastOfGroup_18, u_X3_isLastOfGroup_19, u_X3_isLastOfGroup_22, u_X3_isLastOfGroup_25, u_X3_isLastOfGroup_26, u_X3_isLastOfGroup_27, u_X3_isLastOfGroup_30, u_X3_isLastOfGroup_33, u_X3_isLastOfGroup_34, sa_put, sa_sel, sa_split, so_aload, so_bin, so_cmp, so_goto, so_iinc, so_iload, so_istore, so_push, so_virt, so_zret, sa_nth, g1, List.cons_append, List.nil_append, Nat.reduceEqDiff, Option.toList_none, Option.toList_some, if_false, if_true, reduceIte, or_true, true_or, z10, z00, true_imp_iff, false_imp_iff, not_false_eq_true, not_true_eq_false, true_and, and_true, Nat.zero_le, Nat.sub_zero, List.length_cons, List.length_nil, Nat.reduceAdd, Nat.reduceLT, Nat.reduceLeDiff]
      rw [nI_1]
      refine ⟨fun q => h0 ?_, fun q => ih (x + 1) (by omega) (fun j a b => ?_) (by omega)⟩
      · cases hfb : fullB T N.length i with
        | false => rfl
        | true => exact absurd q ((fullB_iff T N.length i).mp hfb x hix (by omega))
      · rcases Nat.lt_or_ge j x with z | z
        · exact he j a z
        · rw [show j = x by omega]; exact q
  simp only [e_X3_isLastOfGroup, u_X3_isLastOfGroup_0, u_X3_isLastOfGroup_1, u_X3_isLastOfGroup_2, u_X3_isLastOfGroup_3, u_X3_isLastOfGroup_5, u_X3_isLastOfGroup_6, u_X3_isLastOfGroup_12, u_X3_isLastOfGroup_13, u_X3_isLastOfGroup_14, u_X3_isLastOfGroup_18, u_X3_isLastOfGroup_19, u_X3_isLastOfGroup_25, u_X3_isLastOfGroup_26, u_X3_isLastOfGroup_27, u_X3_isLastOfGroup_30, u_X3_isLastOfGroup_33, u_X3_isLastOfGroup_34, sa_put, sa_sel, sa_split, so_aload, so_bin, so_goto, so_iinc, so_iload, so_istore, so_push, so_virt, so_zret, sa_nth, List.cons_append, List.nil_append, Nat.reduceEqDiff, Option.toList_none, Option.toList_some, if_false, if_true, reduceIte, or_true, true_or, z10, z00, true_imp_iff, false_imp_iff, not_false_eq_true, not_true_eq_false, true_and, and_true, Nat.zero_le, Nat.sub_zero, List.length_cons, List.length_nil, Nat.reduceAdd, Nat.reduceLT, Nat.reduceLeDiff]
  rw [nI_1]
  exact loop (N.length - (i + 1)) (i + 1) (by omega) (fun j a b => absurd a (by omega)) (by omega)
end NFI
section NPK
variable {C : sB_T → gF → sa_H} {r : sB_T} {F : gF} {l : List Int32} {N D : List (List Int32)} {T : List Int32} {Q : sa_Q}
theorem k_X7_packHead (hL : sP_L C) (hR : sB_R 1500 r l) (a b c d e : Int32) (hlt : l.length + 10 ≤ 1500) (h : ∀ r', r'.2.2 = r.2.2 → sB_R 1500 r' (l ++ nHead a b c d e) → Q none (C r' F)) : ct_X7_packHead 0 0 [.inl a, .inl b, .inl c, .inl d, .inl e, .inr (.inl (some 11))] (C r F) Q := by
  have g2 := p_11 hL
  have ln : ∀ (x y : List Int32), (x ++ y).length = x.length + y.length := fun x y => List.length_append
  simp only [e_X7_packHead, u_X7_packHead_0, u_X7_packHead_2, u_X7_packHead_5, u_X7_packHead_10, u_X7_packHead_12, u_X7_packHead_17, u_X7_packHead_18, u_X7_packHead_23, u_X7_packHead_24, u_X7_packHead_29, u_X7_packHead_30, u_X7_packHead_31, u_X7_packHead_32, u_X7_packHead_37, u_X7_packHead_38, u_X7_packHead_43, u_X7_packHead_45, sa_sel, sa_split, so_aload, so_bin, so_iload, so_push, so_virt, sa_nth, g2, List.cons_append, List.nil_append, Nat.reduceEqDiff, Option.toList_none, Option.toList_some, if_false, if_true, reduceIte, or_true, true_or, z10, z00, true_imp_iff, false_imp_iff, not_false_eq_true, not_true_eq_false, true_and, and_true, Nat.zero_le, Nat.sub_zero, List.length_cons, List.length_nil, Nat.reduceAdd, Nat.reduceLT, Nat.reduceLeDiff]
  refine k_X0_add (hL.1 F) hR _ (by omega) (fun r1 o1 hR1 => ?_)
  simp only [u_X7_packHead_0, u_X7_packHead_2, u_X7_packHead_5, u_X7_packHead_8, u_X7_packHead_10, u_X7_packHead_12, u_X7_packHead_17, u_X7_packHead_18, u_X7_packHead_23, u_X7_packHead_24, u_X7_packHead_29, u_X7_packHead_30, u_X7_packHead_31, u_X7_packHead_32, u_X7_packHead_37, u_X7_packHead_38, u_X7_packHead_43, u_X7_packHead_45, sa_sel, sa_split, so_aload, so_bin, so_iload, so_push, so_virt, sa_nth, g2, List.cons_append, List.nil_append, Nat.reduceEqDiff, Option.toList_none, Option.toList_some, if_false, if_true, reduceIte, or_true, true_or, z10, z00, true_imp_iff, false_imp_iff, not_false_eq_true, not_true_eq_false, true_and, and_true, Nat.zero_le, Nat.sub_zero, List.length_cons, List.length_nil, Nat.reduceAdd, Nat.reduceLT, Nat.reduceLeDiff]
  refine k_X0_add (hL.1 F) hR1 _ (by simp only [ln, List.length_cons, List.length_nil]; omega) (fun r2 o2 hR2 => ?_)
  simp only [u_X7_packHead_0, u_X7_packHead_2, u_X7_packHead_5, u_X7_packHead_10, u_X7_packHead_12, u_X7_packHead_15, u_X7_packHead_17, u_X7_packHead_18, u_X7_packHead_23, u_X7_packHead_24, u_X7_packHead_29, u_X7_packHead_30, u_X7_packHead_31, u_X7_packHead_32, u_X7_packHead_37, u_X7_packHead_38, u_X7_packHead_43, u_X7_packHead_45, sa_sel, sa_split, so_aload, so_bin, so_iload, so_push, so_virt, sa_nth, g2, List.cons_append, List.nil_append, Nat.reduceEqDiff, Option.toList_none, Option.toList_some, if_false, if_true, reduceIte, or_true, true_or, z10, z00, true_imp_iff, false_imp_iff, not_false_eq_true, not_true_eq_false, true_and, and_true, Nat.zero_le, Nat.sub_zero, List.length_cons, List.length_nil, Nat.reduceAdd, Nat.reduceLT, Nat.reduceLeDiff]
  refine k_X0_addTwo (hL.1 F) hR2 _ (by simp only [ln, List.length_cons, List.length_nil]; omega) (fun r3 o3 hR3 => ?_)
  simp only [u_X7_packHead_0, u_X7_packHead_2, u_X7_packHead_5, u_X7_packHead_10, u_X7_packHead_12, u_X7_packHead_17, u_X7_packHead_18, u_X7_packHead_21, u_X7_packHead_23, u_X7_packHead_24, u_X7_packHead_29, u_X7_packHead_30, u_X7_packHead_31, u_X7_packHead_32, u_X7_packHead_37, u_X7_packHead_38, u_X7_packHead_43, u_X7_packHead_45, sa_sel, sa_split, so_aload, so_bin, so_iload, so_push, so_virt, sa_nth, g2, List.cons_append, List.nil_append, Nat.reduceEqDiff, Option.toList_none, Option.toList_some, if_false, if_true, reduceIte, or_true, true_or, z10, z00, true_imp_iff, false_imp_iff, not_false_eq_true, not_true_eq_false, true_and, and_true, Nat.zero_le, Nat.sub_zero, List.length_cons, List.length_nil, Nat.reduceAdd, Nat.reduceLT, Nat.reduceLeDiff]
  refine k_X0_add (hL.1 F) hR3 _ (by simp only [ln, List.length_cons, List.length_nil]; omega) (fun r4 o4 hR4 => ?_)
  simp only [u_X7_packHead_0, u_X7_packHead_2, u_X7_packHead_5, u_X7_packHead_10, u_X7_packHead_12, u_X7_packHead_17, u_X7_packHead_18, u_X7_packHead_23, u_X7_packHead_24, u_X7_packHead_27, u_X7_packHead_29, u_X7_packHead_30, u_X7_packHead_31, u_X7_packHead_32, u_X7_packHead_37, u_X7_packHead_38, u_X7_packHead_43, u_X7_packHead_45, sa_sel, sa_split, so_aload, so_bin, so_iload, so_push, so_virt, sa_nth, g2, List.cons_append, List.nil_append, Nat.reduceEqDiff, Option.toList_none, Option.toList_some, if_false, if_true, reduceIte, or_true, true_or, z10, z00, true_imp_iff, false_imp_iff, not_false_eq_true, not_true_eq_false, true_and, and_true, Nat.zero_le, Nat.sub_zero, List.length_cons, List.length_nil, Nat.reduceAdd, Nat.reduceLT, Nat.reduceLeDiff]
  refine k_X0_add (hL.1 F) hR4 _ (by simp only [ln, List.length_cons, List.length_nil]; omega) (fun r5 o5 hR5 => ?_)
  simp only [u_X7_packHead_0, u_X7_packHead_2, u_X7_packHead_5, u_X7_packHead_10, u_X7_packHead_12, u_X7_packHead_17, u_X7_packHead_18, u_X7_packHead_23, u_X7_packHead_24, u_X7_packHead_29, u_X7_packHead_30, u_X7_packHead_31, u_X7_packHead_32, u_X7_packHead_35, u_X7_packHead_37, u_X7_packHead_38, u_X7_packHead_43, u_X7_packHead_45, sa_sel, sa_split, so_aload, so_bin, so_iload, so_push, so_virt, sa_nth, g2, List.cons_append, List.nil_append, Nat.reduceEqDiff, Option.toList_none, Option.toList_some, if_false, if_true, reduceIte, or_true, true_or, z10, z00, true_imp_iff, false_imp_iff, not_false_eq_true, not_true_eq_false, true_and, and_true, Nat.zero_le, Nat.sub_zero, List.length_cons, List.length_nil, Nat.reduceAdd, Nat.reduceLT, Nat.reduceLeDiff]
  refine k_X0_addTwo (hL.1 F) hR5 _ (by simp only [ln, List.length_cons, List.length_nil]; omega) (fun r6 o6 hR6 => ?_)
  simp only [u_X7_packHead_0, u_X7_packHead_2, u_X7_packHead_5, u_X7_packHead_10, u_X7_packHead_12, u_X7_packHead_17, u_X7_packHead_18, u_X7_packHead_23, u_X7_packHead_24, u_X7_packHead_29, u_X7_packHead_30, u_X7_packHead_31, u_X7_packHead_32, u_X7_packHead_37, u_X7_packHead_38, u_X7_packHead_41, u_X7_packHead_43, u_X7_packHead_45, sa_sel, sa_split, so_aload, so_bin, so_iload, so_push, so_virt, sa_nth, g2, List.cons_append, List.nil_append, Nat.reduceEqDiff, Option.toList_none, Option.toList_some, if_false, if_true, reduceIte, or_true, true_or, z10, z00, true_imp_iff, false_imp_iff, not_false_eq_true, not_true_eq_false, true_and, and_true, Nat.zero_le, Nat.sub_zero, List.length_cons, List.length_nil, Nat.reduceAdd, Nat.reduceLT, Nat.reduceLeDiff]
  refine k_X0_addTwo (hL.1 F) hR6 _ (by simp only [ln, List.length_cons, List.length_nil]; omega) (fun r7 o7 hR7 => ?_)
  simp only [u_X7_packHead_0, u_X7_packHead_2, u_X7_packHead_5, u_X7_packHead_10, u_X7_packHead_12, u_X7_packHead_17, u_X7_packHead_18, u_X7_packHead_23, u_X7_packHead_24, u_X7_packHead_29, u_X7_packHead_30, u_X7_packHead_31, u_X7_packHead_32, u_X7_packHead_37, u_X7_packHead_38, u_X7_packHead_43, u_X7_packHead_45, u_X7_packHead_48, sa_sel, sa_split, so_aload, so_bin, so_iload, so_push, so_ret, so_virt, sa_nth, List.cons_append, List.nil_append, Nat.reduceEqDiff, Option.toList_none, Option.toList_some, if_false, if_true, reduceIte, or_true, true_or, z10, z00, true_imp_iff, false_imp_iff, not_false_eq_true, not_true_eq_false, true_and, and_true, Nat.zero_le, Nat.sub_zero, List.length_cons, List.length_nil, Nat.reduceAdd, Nat.reduceLT, Nat.reduceLeDiff]
  refine h r7 (o7.trans (o6.trans (o5.trans (o4.trans (o3.trans (o2.trans o1)))))) ?_
  unfold nHead two
  simpa [List.append_assoc] using hR7
theorem k_X7_packNameEnd (hL : sP_L C) (hR : sB_R 1500 r l) {v : Nat} (hv : v < 2 ^ 30) (hlt : l.length + 2 ≤ 1500) (h : ∀ r', r'.2.2 = r.2.2 → sB_R 1500 r' (l ++ nEnd v) → Q none (C r' F)) : ct_X7_packNameEnd 0 0 [.inl (nI v), .inr (.inl (some 11))] (C r F) Q := by
  have g2 := p_11 hL
  simp only [e_X7_packNameEnd, u_X7_packNameEnd_0, u_X7_packNameEnd_1, u_X7_packNameEnd_2, u_X7_packNameEnd_6, u_X7_packNameEnd_7, u_X7_packNameEnd_8, u_X7_packNameEnd_14, u_X7_packNameEnd_15, u_X7_packNameEnd_16, sa_sel, sa_split, so_aload, so_bin, so_push, so_stat, so_virt, sa_nth, g2, List.cons_append, List.nil_append, Nat.reduceEqDiff, Option.toList_none, Option.toList_some, if_false, if_true, reduceIte, or_true, true_or, z10, z00, true_imp_iff, false_imp_iff, not_false_eq_true, not_true_eq_false, true_and, and_true, Nat.zero_le, Nat.sub_zero, List.length_cons, List.length_nil, Nat.reduceAdd, Nat.reduceLT, Nat.reduceLeDiff]
  refine k_X0_add (hL.1 F) hR _ (by omega) (fun r1 o1 hR1 => ?_)
  simp only [u_X7_packNameEnd_0, u_X7_packNameEnd_1, u_X7_packNameEnd_2, u_X7_packNameEnd_5, u_X7_packNameEnd_6, u_X7_packNameEnd_7, u_X7_packNameEnd_8, u_X7_packNameEnd_14, u_X7_packNameEnd_15, u_X7_packNameEnd_16, sa_sel, sa_split, so_aload, so_bin, so_iload, so_push, so_stat, so_virt, sa_nth, g2, List.cons_append, List.nil_append, Nat.reduceEqDiff, Option.toList_none, Option.toList_some, if_false, if_true, reduceIte, or_true, true_or, z10, z00, true_imp_iff, false_imp_iff, not_false_eq_true, not_true_eq_false, true_and, and_true, Nat.zero_le, Nat.sub_zero, List.length_cons, List.length_nil, Nat.reduceAdd, Nat.reduceLT, Nat.reduceLeDiff]
  rw [nI_1]
  refine k_X10_isOdd (by omega) (fun q => ?_) (fun q => ?_)
  · simp only [u_X7_packNameEnd_0, u_X7_packNameEnd_1, u_X7_packNameEnd_2, u_X7_packNameEnd_6, u_X7_packNameEnd_7, u_X7_packNameEnd_8, u_X7_packNameEnd_11, u_X7_packNameEnd_14, u_X7_packNameEnd_15, u_X7_packNameEnd_16, sa_sel, sa_split, so_aload, so_bin, so_if, so_push, so_stat, so_virt, sa_nth, g2, List.cons_append, List.nil_append, Nat.reduceEqDiff, Option.toList_none, Option.toList_some, if_false, if_true, reduceIte, or_true, true_or, z10, z00, true_imp_iff, false_imp_iff, not_false_eq_true, not_true_eq_false, true_and, and_true, Nat.zero_le, Nat.sub_zero, List.length_cons, List.length_nil, Nat.reduceAdd, Nat.reduceLT, Nat.reduceLeDiff]
    refine k_X0_add (hL.1 F) hR1 _ (by rw [List.length_append]; simp only [List.length_cons, List.length_nil]; omega) (fun r2 o2 hR2 => ?_)
    simp only [u_X7_packNameEnd_0, u_X7_packNameEnd_1, u_X7_packNameEnd_2, u_X7_packNameEnd_6, u_X7_packNameEnd_7, u_X7_packNameEnd_8, u_X7_packNameEnd_14, u_X7_packNameEnd_15, u_X7_packNameEnd_16, u_X7_packNameEnd_19, sa_sel, sa_split, so_aload, so_bin, so_push, so_ret, so_stat, so_virt, sa_nth, List.cons_append, List.nil_append, Nat.reduceEqDiff, Option.toList_none, Option.toList_some, if_false, if_true, reduceIte, or_true, true_or, z10, z00, true_imp_iff, false_imp_iff, not_false_eq_true, not_true_eq_false, true_and, and_true, Nat.zero_le, Nat.sub_zero, List.length_cons, List.length_nil, Nat.reduceAdd, Nat.reduceLT, Nat.reduceLeDiff]
    refine h r2 (o2.trans o1) ?_
    unfold nEnd
    rw [if_pos q]
    simpa [List.append_assoc] using hR2
  · simp only [u_X7_packNameEnd_0, u_X7_packNameEnd_1, u_X7_packNameEnd_2, u_X7_packNameEnd_6, u_X7_packNameEnd_7, u_X7_packNameEnd_8, u_X7_packNameEnd_11, u_X7_packNameEnd_14, u_X7_packNameEnd_15, u_X7_packNameEnd_16, u_X7_packNameEnd_19, sa_sel, sa_split, so_aload, so_bin, so_if, so_push, so_ret, so_stat, so_virt, sa_nth, g2, List.cons_append, List.nil_append, Nat.reduceEqDiff, Option.toList_none, Option.toList_some, if_false, if_true, reduceIte, or_true, true_or, z10, z00, true_imp_iff, false_imp_iff, not_false_eq_true, not_true_eq_false, true_and, and_true, Nat.zero_le, Nat.sub_zero, List.length_cons, List.length_nil, Nat.reduceAdd, Nat.reduceLT, Nat.reduceLeDiff]
    refine h r1 o1 ?_
    unfold nEnd
    rw [if_neg (by omega), List.append_nil]
    exact hR1
theorem k_X7_packFile (hL : sP_L C) (hR : sB_R 1500 r l) (hF : sF_R F N D T) (hI : sIF N D T) {i : Nat} (hi : i < N.length) (hlt : l.length + 93 ≤ 1500) (h : ∀ r', r'.2.2 = r.2.2 → sB_R 1500 r' (l ++ nFile N D T i) → Q none (C r' F)) : ct_X7_packFile 0 0 [.inr (.inl (some 1)), .inl (nI i), .inr (.inl (some 11))] (C r F) Q := by
  have g1 := p_1 hL
  have g2 := p_11 hL
  have hn := hF.1.2.2.1
  have h20 := getD_mem_le N 20 i hI.1
  have h60 := row_le60 hI (sF_h T (nI i))
  have hne := nEnd_len (N.getD i []).length
  have ln : ∀ (x y : List Int32), (x ++ y).length = x.length + y.length := fun x y => List.length_append
  have tail : ∀ (f : Int32) (s : List Int32), s.length ≤ 60 → ((f = 1 ∧ s = cont D T i ∧ fullB T N.length i = true) ∨ (f = 0 ∧ s = [] ∧ fullB T N.length i = false)) → sa_w tb_X7_packFile (36, [some (.inr (.inl (some 1))), some (.inl (nI i)), some (.inr (.inl (some 11))), some (.inl f), some (.inl (nI s.length)), some (.inl (sm_of s &&& 65535))], [], C r F, 0, 0) Q := by
    intro f s hs hc
    have hfs : (if fullB T N.length i = true then cont D T i else []) = s := by
      rcases hc with ⟨-, e, hb⟩ | ⟨-, e, hb⟩
      · rw [if_pos hb, e]
      · rw [if_neg (by rw [hb]; decide), e]
    rw [u_X7_packFile_36]
    simp only [u_X7_packFile_0, u_X7_packFile_1, u_X7_packFile_2, u_X7_packFile_6, u_X7_packFile_7, u_X7_packFile_10, u_X7_packFile_11, u_X7_packFile_12, u_X7_packFile_18, u_X7_packFile_19, u_X7_packFile_21, u_X7_packFile_22, u_X7_packFile_25, u_X7_packFile_26, u_X7_packFile_27, u_X7_packFile_33, u_X7_packFile_34, u_X7_packFile_37, u_X7_packFile_38, u_X7_packFile_42, u_X7_packFile_43, u_X7_packFile_47, u_X7_packFile_48, u_X7_packFile_53, u_X7_packFile_55, u_X7_packFile_56, u_X7_packFile_60, u_X7_packFile_61, u_X7_packFile_62, u_X7_packFile_66, u_X7_packFile_67, u_X7_packFile_71, u_X7_packFile_75, u_X7_packFile_78, u_X7_packFile_79, u_X7_packFile_80, u_X7_packFile_81, u_X7_packFile_86, u_X7_packFile_92, u_X7_packFile_93, u_X7_packFile_94, sa_put, sa_sel, sa_split, so_aload, so_if, so_iload, so_istore, so_push, so_stat, so_virt, sa_nth, g1, g2, List.cons_append, List.nil_append, Nat.reduceEqDiff, Option.toList_none, Option.toList_some, if_false, if_true, reduceIte, or_true, true_or, z10, z00, true_imp_iff, false_imp_iff, not_false_eq_true, not_true_eq_false, true_and, and_true, Nat.zero_le, Nat.sub_zero, List.length_cons, List.length_nil, Nat.reduceAdd, Nat.reduceLT, Nat.reduceLeDiff]
    refine k_X3_numberOf (hL.2 r) hF hI hi ?_
    simp only [u_X7_packFile_0, u_X7_packFile_1, u_X7_packFile_2, u_X7_packFile_6, u_X7_packFile_7, u_X7_packFile_10, u_X7_packFile_11, u_X7_packFile_12, u_X7_packFile_18, u_X7_packFile_19, u_X7_packFile_21, u_X7_packFile_22, u_X7_packFile_25, u_X7_packFile_26, u_X7_packFile_27, u_X7_packFile_33, u_X7_packFile_34, u_X7_packFile_36, u_X7_packFile_37, u_X7_packFile_38, u_X7_packFile_41, u_X7_packFile_42, u_X7_packFile_43, u_X7_packFile_47, u_X7_packFile_48, u_X7_packFile_53, u_X7_packFile_55, u_X7_packFile_56, u_X7_packFile_60, u_X7_packFile_61, u_X7_packFile_62, u_X7_packFile_66, u_X7_packFile_67, u_X7_packFile_71, u_X7_packFile_75, u_X7_packFile_78, u_X7_packFile_79, u_X7_packFile_80, u_X7_packFile_81, u_X7_packFile_86, u_X7_packFile_92, u_X7_packFile_93, u_X7_packFile_94, sa_put, sa_sel, sa_split, so_aload, so_if, so_iload, so_istore, so_push, so_stat, so_virt, sa_nth, g1, g2, List.cons_append, List.nil_append, Nat.reduceEqDiff, Option.toList_none, Option.toList_some, if_false, if_true, reduceIte, or_true, true_or, z10, z00, true_imp_iff, false_imp_iff, not_false_eq_true, not_true_eq_false, true_and, and_true, Nat.zero_le, Nat.sub_zero, List.length_cons, List.length_nil, Nat.reduceAdd, Nat.reduceLT, Nat.reduceLeDiff]
    refine k_X3_linksOf (hL.2 r) hF ?_
    simp only [u_X7_packFile_0, u_X7_packFile_1, u_X7_packFile_2, u_X7_packFile_6, u_X7_packFile_7, u_X7_packFile_10, u_X7_packFile_11, u_X7_packFile_12, u_X7_packFile_18, u_X7_packFile_19, u_X7_packFile_21, u_X7_packFile_22, u_X7_packFile_25, u_X7_packFile_26, u_X7_packFile_27, u_X7_packFile_33, u_X7_packFile_34, u_X7_packFile_36, u_X7_packFile_37, u_X7_packFile_38, u_X7_packFile_42, u_X7_packFile_43, u_X7_packFile_46, u_X7_packFile_47, u_X7_packFile_48, u_X7_packFile_53, u_X7_packFile_55, u_X7_packFile_56, u_X7_packFile_60, u_X7_packFile_61, u_X7_packFile_62, u_X7_packFile_66, u_X7_packFile_67, u_X7_packFile_71, u_X7_packFile_75, u_X7_packFile_78, u_X7_packFile_79, u_X7_packFile_80, u_X7_packFile_81, u_X7_packFile_86, u_X7_packFile_92, u_X7_packFile_93, u_X7_packFile_94, sa_put, sa_sel, sa_split, so_aload, so_if, so_iload, so_istore, so_push, so_stat, so_virt, sa_nth, g1, g2, List.cons_append, List.nil_append, Nat.reduceEqDiff, Option.toList_none, Option.toList_some, if_false, if_true, reduceIte, or_true, true_or, z10, z00, true_imp_iff, false_imp_iff, not_false_eq_true, not_true_eq_false, true_and, and_true, Nat.zero_le, Nat.sub_zero, List.length_cons, List.length_nil, Nat.reduceAdd, Nat.reduceLT, Nat.reduceLeDiff]
    refine k_X8_nameLength ((hL.2 r).1 F.2.2) hF.1 _ ?_
    rw [sS_row_nI (by omega)]
    simp only [u_X7_packFile_0, u_X7_packFile_1, u_X7_packFile_2, u_X7_packFile_6, u_X7_packFile_7, u_X7_packFile_10, u_X7_packFile_11, u_X7_packFile_12, u_X7_packFile_18, u_X7_packFile_19, u_X7_packFile_21, u_X7_packFile_22, u_X7_packFile_25, u_X7_packFile_26, u_X7_packFile_27, u_X7_packFile_33, u_X7_packFile_34, u_X7_packFile_36, u_X7_packFile_37, u_X7_packFile_38, u_X7_packFile_42, u_X7_packFile_43, u_X7_packFile_47, u_X7_packFile_48, u_X7_packFile_51, u_X7_packFile_53, u_X7_packFile_55, u_X7_packFile_56, u_X7_packFile_60, u_X7_packFile_61, u_X7_packFile_62, u_X7_packFile_66, u_X7_packFile_67, u_X7_packFile_71, u_X7_packFile_75, u_X7_packFile_78, u_X7_packFile_79, u_X7_packFile_80, u_X7_packFile_81, u_X7_packFile_86, u_X7_packFile_92, u_X7_packFile_93, u_X7_packFile_94, sa_put, sa_sel, sa_split, so_aload, so_if, so_iload, so_istore, so_push, so_stat, so_virt, sa_nth, g1, g2, List.cons_append, List.nil_append, Nat.reduceEqDiff, Option.toList_none, Option.toList_some, if_false, if_true, reduceIte, or_true, true_or, z10, z00, true_imp_iff, false_imp_iff, not_false_eq_true, not_true_eq_false, true_and, and_true, Nat.zero_le, Nat.sub_zero, List.length_cons, List.length_nil, Nat.reduceAdd, Nat.reduceLT, Nat.reduceLeDiff]
    refine k_X7_packHead hL hR _ _ _ _ _ (by omega) (fun r1 o1 hR1 => ?_)
    simp only [u_X7_packFile_0, u_X7_packFile_1, u_X7_packFile_2, u_X7_packFile_6, u_X7_packFile_7, u_X7_packFile_10, u_X7_packFile_11, u_X7_packFile_12, u_X7_packFile_18, u_X7_packFile_19, u_X7_packFile_21, u_X7_packFile_22, u_X7_packFile_25, u_X7_packFile_26, u_X7_packFile_27, u_X7_packFile_33, u_X7_packFile_34, u_X7_packFile_36, u_X7_packFile_37, u_X7_packFile_38, u_X7_packFile_42, u_X7_packFile_43, u_X7_packFile_47, u_X7_packFile_48, u_X7_packFile_53, u_X7_packFile_55, u_X7_packFile_56, u_X7_packFile_59, u_X7_packFile_60, u_X7_packFile_61, u_X7_packFile_62, u_X7_packFile_66, u_X7_packFile_67, u_X7_packFile_71, u_X7_packFile_75, u_X7_packFile_78, u_X7_packFile_79, u_X7_packFile_80, u_X7_packFile_81, u_X7_packFile_86, u_X7_packFile_92, u_X7_packFile_93, u_X7_packFile_94, sa_put, sa_sel, sa_split, so_aload, so_if, so_iload, so_istore, so_push, so_stat, so_virt, sa_nth, g1, g2, List.cons_append, List.nil_append, Nat.reduceEqDiff, Option.toList_none, Option.toList_some, if_false, if_true, reduceIte, or_true, true_or, z10, z00, true_imp_iff, false_imp_iff, not_false_eq_true, not_true_eq_false, true_and, and_true, Nat.zero_le, Nat.sub_zero, List.length_cons, List.length_nil, Nat.reduceAdd, Nat.reduceLT, Nat.reduceLeDiff]
    refine k_X0_addName hL hR1 hF hI (by omega) (by rw [ln, nHead_len]; omega) (fun r2 o2 hR2 => ?_)
    simp only [u_X7_packFile_0, u_X7_packFile_1, u_X7_packFile_2, u_X7_packFile_6, u_X7_packFile_7, u_X7_packFile_10, u_X7_packFile_11, u_X7_packFile_12, u_X7_packFile_18, u_X7_packFile_19, u_X7_packFile_21, u_X7_packFile_22, u_X7_packFile_25, u_X7_packFile_26, u_X7_packFile_27, u_X7_packFile_33, u_X7_packFile_34, u_X7_packFile_36, u_X7_packFile_37, u_X7_packFile_38, u_X7_packFile_42, u_X7_packFile_43, u_X7_packFile_47, u_X7_packFile_48, u_X7_packFile_53, u_X7_packFile_55, u_X7_packFile_56, u_X7_packFile_60, u_X7_packFile_61, u_X7_packFile_62, u_X7_packFile_65, u_X7_packFile_66, u_X7_packFile_67, u_X7_packFile_71, u_X7_packFile_75, u_X7_packFile_78, u_X7_packFile_79, u_X7_packFile_80, u_X7_packFile_81, u_X7_packFile_86, u_X7_packFile_92, u_X7_packFile_93, u_X7_packFile_94, sa_put, sa_sel, sa_split, so_aload, so_if, so_iload, so_istore, so_push, so_stat, so_virt, sa_nth, g1, g2, List.cons_append, List.nil_append, Nat.reduceEqDiff, Option.toList_none, Option.toList_some, if_false, if_true, reduceIte, or_true, true_or, z10, z00, true_imp_iff, false_imp_iff, not_false_eq_true, not_true_eq_false, true_and, and_true, Nat.zero_le, Nat.sub_zero, List.length_cons, List.length_nil, Nat.reduceAdd, Nat.reduceLT, Nat.reduceLeDiff]
    refine k_X8_nameLength ((hL.2 r2).1 F.2.2) hF.1 _ ?_
    rw [sS_row_nI (by omega)]
    simp only [u_X7_packFile_0, u_X7_packFile_1, u_X7_packFile_2, u_X7_packFile_6, u_X7_packFile_7, u_X7_packFile_10, u_X7_packFile_11, u_X7_packFile_12, u_X7_packFile_18, u_X7_packFile_19, u_X7_packFile_21, u_X7_packFile_22, u_X7_packFile_25, u_X7_packFile_26, u_X7_packFile_27, u_X7_packFile_33, u_X7_packFile_34, u_X7_packFile_36, u_X7_packFile_37, u_X7_packFile_38, u_X7_packFile_42, u_X7_packFile_43, u_X7_packFile_47, u_X7_packFile_48, u_X7_packFile_53, u_X7_packFile_55, u_X7_packFile_56, u_X7_packFile_60, u_X7_packFile_61, u_X7_packFile_62, u_X7_packFile_66, u_X7_packFile_67, u_X7_packFile_70, u_X7_packFile_71, u_X7_packFile_75, u_X7_packFile_78, u_X7_packFile_79, u_X7_packFile_80, u_X7_packFile_81, u_X7_packFile_86, u_X7_packFile_92, u_X7_packFile_93, u_X7_packFile_94, sa_put, sa_sel, sa_split, so_aload, so_if, so_iload, so_istore, so_push, so_stat, so_virt, sa_nth, g1, g2, List.cons_append, List.nil_append, Nat.reduceEqDiff, Option.toList_none, Option.toList_some, if_false, if_true, reduceIte, or_true, true_or, z10, z00, true_imp_iff, false_imp_iff, not_false_eq_true, not_true_eq_false, true_and, and_true, Nat.zero_le, Nat.sub_zero, List.length_cons, List.length_nil, Nat.reduceAdd, Nat.reduceLT, Nat.reduceLeDiff]
    refine k_X7_packNameEnd hL hR2 (by omega) (by rw [ln, ln, nHead_len]; omega) (fun r3 o3 hR3 => ?_)
    have last : ∀ (r4 : sB_T), r4.2.2 = r.2.2 → sB_R 1500 r4 (l ++ nHead (nI (nbr T i)) (nI (cntP (smR T i) N.length)) (nI (N.getD i []).length) (nI s.length) (sm_of s &&& 65535) ++ N.getD i [] ++ nEnd (N.getD i []).length ++ s) → sa_w tb_X7_packFile (84, [some (.inr (.inl (some 1))), some (.inl (nI i)), some (.inr (.inl (some 11))), some (.inl f), some (.inl (nI s.length)), some (.inl (sm_of s &&& 65535))], [], C r4 F, 0, 0) Q := by
      intro r4 o4 hR4
      rw [u_X7_packFile_84]
      simp only [u_X7_packFile_0, u_X7_packFile_1, u_X7_packFile_2, u_X7_packFile_6, u_X7_packFile_7, u_X7_packFile_10, u_X7_packFile_11, u_X7_packFile_12, u_X7_packFile_18, u_X7_packFile_19, u_X7_packFile_21, u_X7_packFile_22, u_X7_packFile_25, u_X7_packFile_26, u_X7_packFile_27, u_X7_packFile_33, u_X7_packFile_34, u_X7_packFile_36, u_X7_packFile_37, u_X7_packFile_38, u_X7_packFile_42, u_X7_packFile_43, u_X7_packFile_47, u_X7_packFile_48, u_X7_packFile_53, u_X7_packFile_55, u_X7_packFile_56, u_X7_packFile_60, u_X7_packFile_61, u_X7_packFile_62, u_X7_packFile_66, u_X7_packFile_67, u_X7_packFile_71, u_X7_packFile_75, u_X7_packFile_78, u_X7_packFile_79, u_X7_packFile_80, u_X7_packFile_81, u_X7_packFile_86, u_X7_packFile_92, u_X7_packFile_93, u_X7_packFile_94, sa_put, sa_sel, sa_split, so_aload, so_if, so_iload, so_istore, so_push, so_stat, so_virt, sa_nth, g1, g2, List.cons_append, List.nil_append, Nat.reduceEqDiff, Option.toList_none, Option.toList_some, if_false, if_true, reduceIte, or_true, true_or, z10, z00, true_imp_iff, false_imp_iff, not_false_eq_true, not_true_eq_false, true_and, and_true, Nat.zero_le, Nat.sub_zero, List.length_cons, List.length_nil, Nat.reduceAdd, Nat.reduceLT, Nat.reduceLeDiff]
      refine k_X10_isOdd (by omega) (fun q => ?_) (fun q => ?_)
      · simp only [u_X7_packFile_0, u_X7_packFile_1, u_X7_packFile_2, u_X7_packFile_6, u_X7_packFile_7, u_X7_packFile_10, u_X7_packFile_11, u_X7_packFile_12, u_X7_packFile_18, u_X7_packFile_19, u_X7_packFile_21, u_X7_packFile_22, u_X7_packFile_25, u_X7_packFile_26, u_X7_packFile_27, u_X7_packFile_33, u_X7_packFile_34, u_X7_packFile_36, u_X7_packFile_37, u_X7_packFile_38, u_X7_packFile_42, u_X7_packFile_43, u_X7_packFile_47, u_X7_packFile_48, u_X7_packFile_53, u_X7_packFile_55, u_X7_packFile_56, u_X7_packFile_60, u_X7_packFile_61, u_X7_packFile_62, u_X7_packFile_66, u_X7_packFile_67, u_X7_packFile_71, u_X7_packFile_75, u_X7_packFile_78, u_X7_packFile_79, u_X7_packFile_80, u_X7_packFile_81, u_X7_packFile_86, u_X7_packFile_89, u_X7_packFile_92, u_X7_packFile_93, u_X7_packFile_94, sa_put, sa_sel, sa_split, so_aload, so_if, so_iload, so_istore, so_push, so_stat, so_virt, sa_nth, g1, g2, List.cons_append, List.nil_append, Nat.reduceEqDiff, Option.toList_none, Option.toList_some, if_false, if_true, reduceIte, or_true, true_or, z10, z00, true_imp_iff, false_imp_iff, not_false_eq_true, not_true_eq_false, true_and, and_true, Nat.zero_le, Nat.sub_zero, List.length_cons, List.length_nil, Nat.reduceAdd, Nat.reduceLT, Nat.reduceLeDiff]
        refine k_X0_add (hL.1 F) hR4 _ (by simp only [ln, nHead_len]; omega) (fun r5 o5 hR5 => ?_)
        simp only [u_X7_packFile_0, u_X7_packFile_1, u_X7_packFile_2, u_X7_packFile_6, u_X7_packFile_7, u_X7_packFile_10, u_X7_packFile_11, u_X7_packFile_12, u_X7_packFile_18, u_X7_packFile_19, u_X7_packFile_21, u_X7_packFile_22, u_X7_packFile_25, u_X7_packFile_26, u_X7_packFile_27, u_X7_packFile_33, u_X7_packFile_34, u_X7_packFile_36, u_X7_packFile_37, u_X7_packFile_38, u_X7_packFile_42, u_X7_packFile_43, u_X7_packFile_47, u_X7_packFile_48, u_X7_packFile_53, u_X7_packFile_55, u_X7_packFile_56, u_X7_packFile_60, u_X7_packFile_61, u_X7_packFile_62, u_X7_packFile_66, u_X7_packFile_67, u_X7_packFile_71, u_X7_packFile_75, u_X7_packFile_78, u_X7_packFile_79, u_X7_packFile_80, u_X7_packFile_81, u_X7_packFile_86, u_X7_packFile_92, u_X7_packFile_93, u_X7_packFile_94, u_X7_packFile_97, sa_put, sa_sel, sa_split, so_aload, so_if, so_iload, so_istore, so_push, so_ret, so_stat, so_virt, sa_nth, List.cons_append, List.nil_append, Nat.reduceEqDiff, Option.toList_none, Option.toList_some, if_false, if_true, reduceIte, or_true, true_or, z10, z00, true_imp_iff, false_imp_iff, not_false_eq_true, not_true_eq_false, true_and, and_true, Nat.zero_le, Nat.sub_zero, List.length_cons, List.length_nil, Nat.reduceAdd, Nat.reduceLT, Nat.reduceLeDiff]
        refine h r5 (o5.trans o4) ?_
        unfold nFile pad
        rw [hfs]
        dsimp only
        rw [if_pos q]
        simpa [List.append_assoc] using hR5
      · simp only [u_X7_packFile_0, u_X7_packFile_1, u_X7_packFile_2, u_X7_packFile_6, u_X7_packFile_7, u_X7_packFile_10, u_X7_packFile_11, u_X7_packFile_12, u_X7_packFile_18, u_X7_packFile_19, u_X7_packFile_21, u_X7_packFile_22, u_X7_packFile_25, u_X7_packFile_26, u_X7_packFile_27, u_X7_packFile_33, u_X7_packFile_34, u_X7_packFile_36, u_X7_packFile_37, u_X7_packFile_38, u_X7_packFile_42, u_X7_packFile_43, u_X7_packFile_47, u_X7_packFile_48, u_X7_packFile_53, u_X7_packFile_55, u_X7_packFile_56, u_X7_packFile_60, u_X7_packFile_61, u_X7_packFile_62, u_X7_packFile_66, u_X7_packFile_67, u_X7_packFile_71, u_X7_packFile_75, u_X7_packFile_78, u_X7_packFile_79, u_X7_packFile_80, u_X7_packFile_81, u_X7_packFile_86, u_X7_packFile_89, u_X7_packFile_92, u_X7_packFile_93, u_X7_packFile_94, u_X7_packFile_97, sa_put, sa_sel, sa_split, so_aload, so_if, so_iload, so_istore, so_push, so_ret, so_stat, so_virt, sa_nth, g1, g2, List.cons_append, List.nil_append, Nat.reduceEqDiff, Option.toList_none, Option.toList_some, if_false, if_true, reduceIte, or_true, true_or, z10, z00, true_imp_iff, false_imp_iff, not_false_eq_true, not_true_eq_false, true_and, and_true, Nat.zero_le, Nat.sub_zero, List.length_cons, List.length_nil, Nat.reduceAdd, Nat.reduceLT, Nat.reduceLeDiff]
        refine h r4 o4 ?_
        unfold nFile pad
        rw [hfs]
        dsimp only
        rw [if_neg (by omega), List.append_nil]
        simpa [List.append_assoc] using hR4
    simp only [u_X7_packFile_0, u_X7_packFile_1, u_X7_packFile_2, u_X7_packFile_6, u_X7_packFile_7, u_X7_packFile_10, u_X7_packFile_11, u_X7_packFile_12, u_X7_packFile_18, u_X7_packFile_19, u_X7_packFile_21, u_X7_packFile_22, u_X7_packFile_25, u_X7_packFile_26, u_X7_packFile_27, u_X7_packFile_33, u_X7_packFile_34, u_X7_packFile_36, u_X7_packFile_37, u_X7_packFile_38, u_X7_packFile_42, u_X7_packFile_43, u_X7_packFile_47, u_X7_packFile_48, u_X7_packFile_53, u_X7_packFile_55, u_X7_packFile_56, u_X7_packFile_60, u_X7_packFile_61, u_X7_packFile_62, u_X7_packFile_66, u_X7_packFile_67, u_X7_packFile_71, u_X7_packFile_74, u_X7_packFile_75, u_X7_packFile_78, u_X7_packFile_79, u_X7_packFile_80, u_X7_packFile_81, u_X7_packFile_86, u_X7_packFile_92, u_X7_packFile_93, u_X7_packFile_94, sa_put, sa_sel, sa_split, so_aload, so_if, so_iload, so_istore, so_push, so_stat, so_virt, sa_nth, g1, g2, List.cons_append, List.nil_append, Nat.reduceEqDiff, Option.toList_none, Option.toList_some, if_false, if_true, reduceIte, or_true, true_or, z10, z00, true_imp_iff, false_imp_iff, not_false_eq_true, not_true_eq_false, true_and, and_true, Nat.zero_le, Nat.sub_zero, List.length_cons, List.length_nil, Nat.reduceAdd, Nat.reduceLT, Nat.reduceLeDiff]
    rcases hc with ⟨e1, e2, hb⟩ | ⟨e1, e2, hb⟩
    · subst e1
      refine ⟨fun q => absurd q (by decide), fun _ => ?_⟩
      refine k_X0_addContents hL hR3 hF hI (by omega) (by simp only [ln, nHead_len]; omega) (fun r4 o4 hR4 => ?_)
      refine last r4 (o4.trans (o3.trans (o2.trans o1))) ?_
      rw [e2]
      rw [e2] at hR4
      exact hR4
    · subst e1
      refine ⟨fun _ => last r3 (o3.trans (o2.trans o1)) ?_, fun q => absurd rfl q⟩
      rw [e2]
      rw [e2] at hR3
      rw [List.append_nil]
      exact hR3
  simp only [e_X7_packFile, u_X7_packFile_0, u_X7_packFile_1, u_X7_packFile_2, u_X7_packFile_6, u_X7_packFile_7, u_X7_packFile_10, u_X7_packFile_11, u_X7_packFile_12, u_X7_packFile_18, u_X7_packFile_19, u_X7_packFile_21, u_X7_packFile_22, u_X7_packFile_25, u_X7_packFile_26, u_X7_packFile_27, u_X7_packFile_33, u_X7_packFile_34, u_X7_packFile_36, u_X7_packFile_37, u_X7_packFile_38, u_X7_packFile_42, u_X7_packFile_43, u_X7_packFile_47, u_X7_packFile_48, u_X7_packFile_53, u_X7_packFile_55, u_X7_packFile_56, u_X7_packFile_60, u_X7_packFile_61, u_X7_packFile_62, u_X7_packFile_66, u_X7_packFile_67, u_X7_packFile_71, u_X7_packFile_75, u_X7_packFile_78, u_X7_packFile_79, u_X7_packFile_80, u_X7_packFile_81, u_X7_packFile_86, u_X7_packFile_92, u_X7_packFile_93, u_X7_packFile_94, sa_put, sa_sel, sa_split, so_aload, so_if, so_iload, so_istore, so_push, so_stat, so_virt, sa_nth, g1, g2, List.cons_append, List.nil_append, Nat.reduceEqDiff, Option.toList_none, Option.toList_some, if_false, if_true, reduceIte, or_true, true_or, z10, z00, true_imp_iff, false_imp_iff, not_false_eq_true, not_true_eq_false, true_and, and_true, Nat.zero_le, Nat.sub_zero, List.length_cons, List.length_nil, Nat.reduceAdd, Nat.reduceLT, Nat.reduceLeDiff]
  refine k_X3_isLastOfGroup (hL.2 r) hF hi (fun q => ?_) (fun q => ?_)
  · simp only [u_X7_packFile_0, u_X7_packFile_1, u_X7_packFile_2, u_X7_packFile_5, u_X7_packFile_6, u_X7_packFile_7, u_X7_packFile_10, u_X7_packFile_11, u_X7_packFile_12, u_X7_packFile_18, u_X7_packFile_19, u_X7_packFile_21, u_X7_packFile_22, u_X7_packFile_25, u_X7_packFile_26, u_X7_packFile_27, u_X7_packFile_33, u_X7_packFile_34, u_X7_packFile_36, u_X7_packFile_37, u_X7_packFile_38, u_X7_packFile_42, u_X7_packFile_43, u_X7_packFile_47, u_X7_packFile_48, u_X7_packFile_53, u_X7_packFile_55, u_X7_packFile_56, u_X7_packFile_60, u_X7_packFile_61, u_X7_packFile_62, u_X7_packFile_66, u_X7_packFile_67, u_X7_packFile_71, u_X7_packFile_75, u_X7_packFile_78, u_X7_packFile_79, u_X7_packFile_80, u_X7_packFile_81, u_X7_packFile_86, u_X7_packFile_92, u_X7_packFile_93, u_X7_packFile_94, sa_put, sa_sel, sa_split, so_aload, so_if, so_iload, so_istore, so_push, so_stat, so_virt, sa_nth, g1, g2, List.cons_append, List.nil_append, Nat.reduceEqDiff, Option.toList_none, Option.toList_some, if_false, if_true, reduceIte, or_true, true_or, z10, z00, true_imp_iff, false_imp_iff, not_false_eq_true, not_true_eq_false, true_and, and_true, Nat.zero_le, Nat.sub_zero, List.length_cons, List.length_nil, Nat.reduceAdd, Nat.reduceLT, Nat.reduceLeDiff]
    refine kF_contentsLength (hL.2 r) hF _ ?_
    simp only [u_X7_packFile_0, u_X7_packFile_1, u_X7_packFile_2, u_X7_packFile_6, u_X7_packFile_7, u_X7_packFile_10, u_X7_packFile_11, u_X7_packFile_12, u_X7_packFile_15, u_X7_packFile_18, u_X7_packFile_19, u_X7_packFile_21, u_X7_packFile_22, u_X7_packFile_25, u_X7_packFile_26, u_X7_packFile_27, u_X7_packFile_33, u_X7_packFile_34, u_X7_packFile_36, u_X7_packFile_37, u_X7_packFile_38, u_X7_packFile_42, u_X7_packFile_43, u_X7_packFile_47, u_X7_packFile_48, u_X7_packFile_53, u_X7_packFile_55, u_X7_packFile_56, u_X7_packFile_60, u_X7_packFile_61, u_X7_packFile_62, u_X7_packFile_66, u_X7_packFile_67, u_X7_packFile_71, u_X7_packFile_75, u_X7_packFile_78, u_X7_packFile_79, u_X7_packFile_80, u_X7_packFile_81, u_X7_packFile_86, u_X7_packFile_92, u_X7_packFile_93, u_X7_packFile_94, sa_put, sa_sel, sa_split, so_aload, so_goto, so_if, so_iload, so_istore, so_push, so_stat, so_virt, sa_nth, g1, g2, List.cons_append, List.nil_append, Nat.reduceEqDiff, Option.toList_none, Option.toList_some, if_false, if_true, reduceIte, or_true, true_or, z10, z00, true_imp_iff, false_imp_iff, not_false_eq_true, not_true_eq_false, true_and, and_true, Nat.zero_le, Nat.sub_zero, List.length_cons, List.length_nil, Nat.reduceAdd, Nat.reduceLT, Nat.reduceLeDiff]
    refine kF_contentsSum (hL.2 r) hF _ ?_
    simp only [u_X7_packFile_0, u_X7_packFile_1, u_X7_packFile_2, u_X7_packFile_6, u_X7_packFile_7, u_X7_packFile_10, u_X7_packFile_11, u_X7_packFile_12, u_X7_packFile_18, u_X7_packFile_19, u_X7_packFile_21, u_X7_packFile_22, u_X7_packFile_25, u_X7_packFile_26, u_X7_packFile_27, u_X7_packFile_30, u_X7_packFile_33, u_X7_packFile_34, u_X7_packFile_37, u_X7_packFile_38, u_X7_packFile_42, u_X7_packFile_43, u_X7_packFile_47, u_X7_packFile_48, u_X7_packFile_53, u_X7_packFile_55, u_X7_packFile_56, u_X7_packFile_60, u_X7_packFile_61, u_X7_packFile_62, u_X7_packFile_66, u_X7_packFile_67, u_X7_packFile_71, u_X7_packFile_75, u_X7_packFile_78, u_X7_packFile_79, u_X7_packFile_80, u_X7_packFile_81, u_X7_packFile_86, u_X7_packFile_92, u_X7_packFile_93, u_X7_packFile_94, sa_put, sa_sel, sa_split, so_aload, so_goto, so_if, so_iload, so_istore, so_push, so_stat, so_virt, sa_nth, g1, g2, List.cons_append, List.nil_append, Nat.reduceEqDiff, Option.toList_none, Option.toList_some, if_false, if_true, reduceIte, or_true, true_or, z10, z00, true_imp_iff, false_imp_iff, not_false_eq_true, not_true_eq_false, true_and, and_true, Nat.zero_le, Nat.sub_zero, List.length_cons, List.length_nil, Nat.reduceAdd, Nat.reduceLT, Nat.reduceLeDiff]
    exact tail 1 (cont D T i) h60 (Or.inl ⟨rfl, rfl, q⟩)
  · simp only [u_X7_packFile_0, u_X7_packFile_1, u_X7_packFile_2, u_X7_packFile_5, u_X7_packFile_6, u_X7_packFile_7, u_X7_packFile_10, u_X7_packFile_11, u_X7_packFile_12, u_X7_packFile_18, u_X7_packFile_19, u_X7_packFile_21, u_X7_packFile_22, u_X7_packFile_25, u_X7_packFile_26, u_X7_packFile_27, u_X7_packFile_33, u_X7_packFile_34, u_X7_packFile_37, u_X7_packFile_38, u_X7_packFile_42, u_X7_packFile_43, u_X7_packFile_47, u_X7_packFile_48, u_X7_packFile_53, u_X7_packFile_55, u_X7_packFile_56, u_X7_packFile_60, u_X7_packFile_61, u_X7_packFile_62, u_X7_packFile_66, u_X7_packFile_67, u_X7_packFile_71, u_X7_packFile_75, u_X7_packFile_78, u_X7_packFile_79, u_X7_packFile_80, u_X7_packFile_81, u_X7_packFile_86, u_X7_packFile_92, u_X7_packFile_93, u_X7_packFile_94, sa_put, sa_sel, sa_split, so_aload, so_if, so_iload, so_istore, so_push, so_stat, so_virt, sa_nth, g1, g2, List.cons_append, List.nil_append, Nat.reduceEqDiff, Option.toList_none, Option.toList_some, if_false, if_true, reduceIte, or_true, true_or, z10, z00, true_imp_iff, false_imp_iff, not_false_eq_true, not_true_eq_false, true_and, and_true, Nat.zero_le, Nat.sub_zero, List.length_cons, List.length_nil, Nat.reduceAdd, Nat.reduceLT, Nat.reduceLeDiff]
    exact tail 0 [] (by simp) (Or.inr ⟨rfl, rfl, q⟩)
theorem k_X7_pack (hL : sP_L C) (hR : sB_R 1500 r []) (hF : sF_R F N D T) (hI : sIF N D T) (h : ∀ r', r'.2.2 = r.2.2 → sB_R 1500 r' (numL N D T) → Q none (C r' F)) : ct_X7_pack 0 0 [.inr (.inl (some 26)), .inr (.inl (some 1)), .inr (.inl (some 11))] (C r F) Q := by
  have g1 := p_1 hL
  have g2 := p_11 hL
  have hn := hF.1.2.2.1
  have sT0 : (sT 0).length = 8 := by decide
  have ln : ∀ (x y : List Int32), (x ++ y).length = x.length + y.length := fun x y => List.length_append
  have loop : ∀ (m x : Nat) (r1 : sB_T), x + m = N.length → r1.2.2 = r.2.2 → sB_R 1500 r1 (nBody N D T x) → sa_w tb_X7_pack (2, [some (.inr (.inl (some 26))), some (.inr (.inl (some 1))), some (.inr (.inl (some 11))), some (.inl (nI x))], [], C r1 F, 0, 0) Q := by
    intro m
    induction m with
    | zero =>
      intro x r1 hx ho hR1
      have hb := nBody_len N D T hI x
      simp only [u_X7_pack_0, u_X7_pack_1, u_X7_pack_2, u_X7_pack_3, u_X7_pack_4, u_X7_pack_10, u_X7_pack_11, u_X7_pack_12, u_X7_pack_13, u_X7_pack_19, u_X7_pack_22, u_X7_pack_23, u_X7_pack_24, u_X7_pack_26, u_X7_pack_30, u_X7_pack_31, u_X7_pack_32, u_X7_pack_36, u_X7_pack_38, u_X7_pack_43, u_X7_pack_47, sa_put, sa_sel, sa_split, so_aload, so_goto, so_iload, so_istore, so_push, so_stat, so_svirt, so_virt, sa_nth, g1, g2, List.cons_append, List.nil_append, Nat.reduceEqDiff, Option.toList_none, Option.toList_some, if_false, if_true, reduceIte, or_true, true_or, z10, z00, true_imp_iff, false_imp_iff, not_false_eq_true, not_true_eq_false, true_and, and_true, Nat.zero_le, Nat.sub_zero, List.length_cons, List.length_nil, Nat.reduceAdd, Nat.reduceLT, Nat.reduceLeDiff]
      refine k_X8_count ((hL.2 r1).1 F.2.2) hF.1 ?_
      simp only [u_X7_pack_0, u_X7_pack_1, u_X7_pack_3, u_X7_pack_4, u_X7_pack_7, u_X7_pack_10, u_X7_pack_11, u_X7_pack_12, u_X7_pack_13, u_X7_pack_19, u_X7_pack_22, u_X7_pack_23, u_X7_pack_24, u_X7_pack_26, u_X7_pack_30, u_X7_pack_31, u_X7_pack_32, u_X7_pack_36, u_X7_pack_38, u_X7_pack_43, u_X7_pack_47, sa_put, sa_sel, sa_split, so_aload, so_cmp, so_goto, so_iload, so_istore, so_push, so_stat, so_svirt, so_virt, sa_nth, g1, g2, sa_N8, List.cons_append, List.nil_append, Nat.reduceEqDiff, Option.toList_none, Option.toList_some, if_false, if_true, reduceIte, or_true, true_or, z10, z00, true_imp_iff, false_imp_iff, not_false_eq_true, not_true_eq_false, true_and, and_true, Nat.zero_le, Nat.sub_zero, List.length_cons, List.length_nil, Nat.reduceAdd, Nat.reduceLT, Nat.reduceLeDiff]
      rw [nI_leI (by omega) (by omega)]
      refine ⟨fun _ => ?_, fun q => absurd (by omega) q⟩
      refine k_slen (by decide) _ ?_
      simp only [u_X7_pack_0, u_X7_pack_1, u_X7_pack_3, u_X7_pack_4, u_X7_pack_10, u_X7_pack_11, u_X7_pack_12, u_X7_pack_13, u_X7_pack_19, u_X7_pack_22, u_X7_pack_23, u_X7_pack_24, u_X7_pack_26, u_X7_pack_29, u_X7_pack_30, u_X7_pack_31, u_X7_pack_32, u_X7_pack_36, u_X7_pack_38, u_X7_pack_43, u_X7_pack_47, sa_put, sa_sel, sa_split, so_aload, so_goto, so_iload, so_istore, so_push, so_stat, so_svirt, so_virt, sa_nth, g1, g2, List.cons_append, List.nil_append, Nat.reduceEqDiff, Option.toList_none, Option.toList_some, if_false, if_true, reduceIte, or_true, true_or, z10, z00, true_imp_iff, false_imp_iff, not_false_eq_true, not_true_eq_false, true_and, and_true, Nat.zero_le, Nat.sub_zero, List.length_cons, List.length_nil, Nat.reduceAdd, Nat.reduceLT, Nat.reduceLeDiff]
      refine k_X7_packHead hL hR1 _ _ _ _ _ (by omega) (fun r2 o2 hR2 => ?_)
      simp only [u_X7_pack_0, u_X7_pack_1, u_X7_pack_3, u_X7_pack_4, u_X7_pack_10, u_X7_pack_11, u_X7_pack_12, u_X7_pack_13, u_X7_pack_19, u_X7_pack_22, u_X7_pack_23, u_X7_pack_24, u_X7_pack_26, u_X7_pack_30, u_X7_pack_31, u_X7_pack_32, u_X7_pack_35, u_X7_pack_36, u_X7_pack_38, u_X7_pack_43, u_X7_pack_47, sa_put, sa_sel, sa_split, so_aload, so_goto, so_iload, so_istore, so_push, so_stat, so_svirt, so_virt, sa_nth, g1, g2, List.cons_append, List.nil_append, Nat.reduceEqDiff, Option.toList_none, Option.toList_some, if_false, if_true, reduceIte, or_true, true_or, z10, z00, true_imp_iff, false_imp_iff, not_false_eq_true, not_true_eq_false, true_and, and_true, Nat.zero_le, Nat.sub_zero, List.length_cons, List.length_nil, Nat.reduceAdd, Nat.reduceLT, Nat.reduceLeDiff]
      refine k_X0_addText (hL.1 F) hR2 (by decide) (by rw [ln, nHead_len]; omega) (fun r3 o3 hR3 => ?_)
      simp only [u_X7_pack_0, u_X7_pack_1, u_X7_pack_3, u_X7_pack_4, u_X7_pack_10, u_X7_pack_11, u_X7_pack_12, u_X7_pack_13, u_X7_pack_19, u_X7_pack_22, u_X7_pack_23, u_X7_pack_24, u_X7_pack_26, u_X7_pack_30, u_X7_pack_31, u_X7_pack_32, u_X7_pack_36, u_X7_pack_38, u_X7_pack_41, u_X7_pack_43, u_X7_pack_47, sa_put, sa_sel, sa_split, so_aload, so_goto, so_iload, so_istore, so_push, so_stat, so_svirt, so_virt, sa_nth, g1, g2, sa_N8, List.cons_append, List.nil_append, Nat.reduceEqDiff, Option.toList_none, Option.toList_some, if_false, if_true, reduceIte, or_true, true_or, z10, z00, true_imp_iff, false_imp_iff, not_false_eq_true, not_true_eq_false, true_and, and_true, Nat.zero_le, Nat.sub_zero, List.length_cons, List.length_nil, Nat.reduceAdd, Nat.reduceLT, Nat.reduceLeDiff]
      refine k_slen (by decide) _ ?_
      simp only [u_X7_pack_0, u_X7_pack_1, u_X7_pack_3, u_X7_pack_4, u_X7_pack_10, u_X7_pack_11, u_X7_pack_12, u_X7_pack_13, u_X7_pack_19, u_X7_pack_22, u_X7_pack_23, u_X7_pack_24, u_X7_pack_26, u_X7_pack_30, u_X7_pack_31, u_X7_pack_32, u_X7_pack_36, u_X7_pack_38, u_X7_pack_43, u_X7_pack_46, u_X7_pack_47, sa_put, sa_sel, sa_split, so_aload, so_goto, so_iload, so_istore, so_push, so_stat, so_svirt, so_virt, sa_nth, g1, g2, List.cons_append, List.nil_append, Nat.reduceEqDiff, Option.toList_none, Option.toList_some, if_false, if_true, reduceIte, or_true, true_or, z10, z00, true_imp_iff, false_imp_iff, not_false_eq_true, not_true_eq_false, true_and, and_true, Nat.zero_le, Nat.sub_zero, List.length_cons, List.length_nil, Nat.reduceAdd, Nat.reduceLT, Nat.reduceLeDiff]
      refine k_X7_packNameEnd hL hR3 (by omega) (by simp only [ln, nHead_len]; omega) (fun r4 o4 hR4 => ?_)
      simp only [u_X7_pack_0, u_X7_pack_1, u_X7_pack_2, u_X7_pack_3, u_X7_pack_4, u_X7_pack_10, u_X7_pack_11, u_X7_pack_12, u_X7_pack_13, u_X7_pack_19, u_X7_pack_22, u_X7_pack_23, u_X7_pack_24, u_X7_pack_26, u_X7_pack_30, u_X7_pack_31, u_X7_pack_32, u_X7_pack_36, u_X7_pack_38, u_X7_pack_43, u_X7_pack_47, u_X7_pack_50, sa_put, sa_sel, sa_split, so_aload, so_goto, so_iload, so_istore, so_push, so_ret, so_stat, so_svirt, so_virt, sa_nth, List.cons_append, List.nil_append, Nat.reduceEqDiff, Option.toList_none, Option.toList_some, if_false, if_true, reduceIte, or_true, true_or, z10, z00, true_imp_iff, false_imp_iff, not_false_eq_true, not_true_eq_false, true_and, and_true, Nat.zero_le, Nat.sub_zero, List.length_cons, List.length_nil, Nat.reduceAdd, Nat.reduceLT, Nat.reduceLeDiff]
      refine h r4 (o4.trans (o3.trans (o2.trans ho))) ?_
      unfold numL
      rw [show x = N.length by omega, sT0, show nI 8 = 8 from rfl] at hR4
      simpa [List.append_assoc] using hR4
    | succ m ih =>
      intro x r1 hx ho hR1
      have hb := nBody_len N D T hI x
      simp only [u_X7_pack_0, u_X7_pack_1, u_X7_pack_2, u_X7_pack_3, u_X7_pack_4, u_X7_pack_10, u_X7_pack_11, u_X7_pack_12, u_X7_pack_13, u_X7_pack_19, u_X7_pack_22, u_X7_pack_23, u_X7_pack_24, u_X7_pack_26, u_X7_pack_30, u_X7_pack_31, u_X7_pack_32, u_X7_pack_36, u_X7_pack_38, u_X7_pack_43, u_X7_pack_47, sa_put, sa_sel, sa_split, so_aload, so_goto, so_iload, so_istore, so_push, so_stat, so_svirt, so_virt, sa_nth, g1, g2, List.cons_append, List.nil_append, Nat.reduceEqDiff, Option.toList_none, Option.toList_some, if_false, if_true, reduceIte, or_true, true_or, z10, z00, true_imp_iff, false_imp_iff, not_false_eq_true, not_true_eq_false, true_and, and_true, Nat.zero_le, Nat.sub_zero, List.length_cons, List.length_nil, Nat.reduceAdd, Nat.reduceLT, Nat.reduceLeDiff]
      refine k_X8_count ((hL.2 r1).1 F.2.2) hF.1 ?_
      simp only [u_X7_pack_0, u_X7_pack_1, u_X7_pack_3, u_X7_pack_4, u_X7_pack_7, u_X7_pack_10, u_X7_pack_11, u_X7_pack_12, u_X7_pack_13, u_X7_pack_19, u_X7_pack_22, u_X7_pack_23, u_X7_pack_24, u_X7_pack_26, u_X7_pack_30, u_X7_pack_31, u_X7_pack_32, u_X7_pack_36, u_X7_pack_38, u_X7_pack_43, u_X7_pack_47, sa_put, sa_sel, sa_split, so_aload, so_cmp, so_goto, so_iload, so_istore, so_push, so_stat, so_svirt, so_virt, sa_nth, g1, g2, List.cons_append, List.nil_append, Nat.reduceEqDiff, Option.toList_none, Option.toList_some, if_false, if_true, reduceIte, or_true, true_or, z10, z00, true_imp_iff, false_imp_iff, not_false_eq_true, not_true_eq_false, true_and, and_true, Nat.zero_le, Nat.sub_zero, List.length_cons, List.length_nil, Nat.reduceAdd, Nat.reduceLT, Nat.reduceLeDiff]
      rw [nI_leI (by omega) (by omega)]
      refine ⟨fun q => absurd q (by omega), fun _ => ?_⟩
      refine k_X7_packFile hL hR1 hF hI (by omega) (by omega) (fun r2 o2 hR2 => ?_)
      simp only [u_X7_pack_0, u_X7_pack_1, u_X7_pack_3, u_X7_pack_4, u_X7_pack_10, u_X7_pack_11, u_X7_pack_12, u_X7_pack_13, u_X7_pack_16, u_X7_pack_19, u_X7_pack_22, u_X7_pack_23, u_X7_pack_24, u_X7_pack_26, u_X7_pack_30, u_X7_pack_31, u_X7_pack_32, u_X7_pack_36, u_X7_pack_38, u_X7_pack_43, u_X7_pack_47, sa_put, sa_sel, sa_split, so_aload, so_goto, so_iinc, so_iload, so_istore, so_push, so_stat, so_svirt, so_virt, sa_nth, g1, g2, List.cons_append, List.nil_append, Nat.reduceEqDiff, Option.toList_none, Option.toList_some, if_false, if_true, reduceIte, or_true, true_or, z10, z00, true_imp_iff, false_imp_iff, not_false_eq_true, not_true_eq_false, true_and, and_true, Nat.zero_le, Nat.sub_zero, List.length_cons, List.length_nil, Nat.reduceAdd, Nat.reduceLT, Nat.reduceLeDiff]
      rw [nI_1]
      exact ih (x + 1) r2 (by omega) (o2.trans ho) hR2
  simp only [e_X7_pack, u_X7_pack_0, u_X7_pack_1, u_X7_pack_3, u_X7_pack_4, u_X7_pack_10, u_X7_pack_11, u_X7_pack_12, u_X7_pack_13, u_X7_pack_19, u_X7_pack_22, u_X7_pack_23, u_X7_pack_24, u_X7_pack_26, u_X7_pack_30, u_X7_pack_31, u_X7_pack_32, u_X7_pack_36, u_X7_pack_38, u_X7_pack_43, u_X7_pack_47, sa_put, sa_sel, sa_split, so_aload, so_goto, so_iload, so_istore, so_push, so_stat, so_svirt, so_virt, sa_nth, List.cons_append, List.nil_append, Nat.reduceEqDiff, Option.toList_none, Option.toList_some, if_false, if_true, reduceIte, or_true, true_or, z10, z00, true_imp_iff, false_imp_iff, not_false_eq_true, not_true_eq_false, true_and, and_true, Nat.zero_le, Nat.sub_zero, List.length_cons, List.length_nil, Nat.reduceAdd, Nat.reduceLT, Nat.reduceLeDiff]
  exact loop _ 0 r (Nat.zero_add _) rfl hR
end NPK
