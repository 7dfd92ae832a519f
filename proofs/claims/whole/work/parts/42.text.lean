/-! STRING CONSTANTS, BYTES -/
theorem sa_N8 : sa_EX.2.2.2.1.1 = 8 := by dsimp only [sa_EX]
theorem sa_NL : sa_EX.2.2.2.1.2.1 = sa_lenS := by dsimp only [sa_EX]
theorem sa_NB : sa_EX.2.2.2.1.2.2 = sa_bytS := by dsimp only [sa_EX]
def sT (j : Nat) : List Int32 := sa_bytS.getD j []
theorem sT_all : ∀ j, j < 8 → (sa_lenS.getD j 0 = (sT j).length ∧ (sT j).length < 30 ∧ ∀ b ∈ sT j, ((b &&& 255).toUInt32 % 65536).toInt32 = b ∧ narrow .char (.int b) = .int b) := by decide +kernel
theorem sT_shr (n : Nat) (h : n < 30) : nI n >>> ((0 : Int32) &&& 31) = nI n := by
  have e : (0 : Int32) &&& 31 = 0 := by decide
  rw [e]
  have := pk_shrN (n := n) (by omega) 0 0 (by decide)
  simpa using this
theorem k_slen {j : Nat} (hj : j < 8) (h : sa_H) {Q : sa_Q} (hQ : Q (some (.inl (nI (sT j).length))) h) : ct_J0_length_8abf5 0 0 [.inr (.inr j)] h Q := by
  obtain ⟨t1, t2, t3⟩ := sT_all j hj
  have e9 : 1000 + j - 1000 = j := by omega
  simp only [e_J0_length_8abf5, u_J0_length_8abf5_0, u_J0_length_8abf5_1, u_J0_length_8abf5_4, u_J0_length_8abf5_5, u_J0_length_8abf5_6, u_J0_length_8abf5_10, sa_split, so_aload, so_blen, so_iret, so_sval, so_svirt, sa_nth, sa_N8, sa_NL, hj, List.cons_append, List.nil_append, Option.toList_none, Option.toList_some, or_true, true_or, z10, z00, true_imp_iff, false_imp_iff, not_false_eq_true, not_true_eq_false, true_and, and_true, Nat.zero_le, Nat.sub_zero, List.length_cons, List.length_nil, Nat.reduceAdd, Nat.reduceLT, Nat.reduceLeDiff]
  refine ⟨by omega, by omega, ?_⟩
  rw [e9, t1]
  simp only [e_J0_coder_7d493, u_J0_coder_7d493_0, u_J0_coder_7d493_3, u_J0_coder_7d493_6, u_J0_coder_7d493_7, u_J0_coder_7d493_10, u_J0_coder_7d493_14, so_aload, so_goto, so_if, so_nret, so_push, so_scod, sa_nth, sa_N8, hj, or_true, true_or, z10, z00, true_imp_iff, false_imp_iff, not_false_eq_true, not_true_eq_false, true_and, and_true, Nat.zero_le, Nat.sub_zero, List.length_cons, List.length_nil, Nat.reduceAdd, Nat.reduceLT, Nat.reduceLeDiff]
  refine ⟨by decide, ?_⟩
  simp only [u_J0_length_8abf5_0, u_J0_length_8abf5_1, u_J0_length_8abf5_4, u_J0_length_8abf5_5, u_J0_length_8abf5_6, u_J0_length_8abf5_9, u_J0_length_8abf5_10, sa_split, so_aload, so_bin, so_blen, so_iret, so_sval, so_svirt, sa_nth, sa_N8, sa_NL, hj, List.cons_append, List.nil_append, Option.toList_none, Option.toList_some, or_true, true_or, z10, z00, true_imp_iff, false_imp_iff, not_false_eq_true, not_true_eq_false, true_and, and_true, Nat.zero_le, Nat.sub_zero, List.length_cons, List.length_nil, Nat.reduceAdd, Nat.reduceLT, Nat.reduceLeDiff]
  have := sT_shr _ t2
  rw [show Int32.ofNat (sT j).length = nI (sT j).length from rfl, this]
  exact hQ
theorem k_schar {j : Nat} (hj : j < 8) {i : Nat} {v : Int32} (hi : (sT j)[i]? = some v) (h : sa_H) {Q : sa_Q} (hQ : Q (some (.inl v)) h) : ct_J0_charAt_5068e 0 0 [.inr (.inr j), .inl (nI i)] h Q := by
  obtain ⟨t1, t2, t3⟩ := sT_all j hj
  have hil : i < (sT j).length := (List.getElem?_eq_some_iff.mp hi).1
  obtain ⟨v1, v2⟩ := t3 v (List.mem_of_getElem? hi)
  have e9 : 1000 + j - 1000 = j := by omega
  simp only [e_J0_charAt_5068e, u_J0_charAt_5068e_0, u_J0_charAt_5068e_1, u_J0_charAt_5068e_7, u_J0_charAt_5068e_8, u_J0_charAt_5068e_11, u_J0_charAt_5068e_12, sa_split, so_aload, so_iload, so_stat, so_sval, so_svirt, sa_nth, sa_N8, sa_NL, hj, List.cons_append, List.nil_append, Option.toList_none, Option.toList_some, or_true, true_or, z10, z00, true_imp_iff, false_imp_iff, not_false_eq_true, not_true_eq_false, true_and, and_true, Nat.zero_le, Nat.sub_zero, List.length_cons, List.length_nil, Nat.reduceAdd, Nat.reduceLT, Nat.reduceLeDiff]
  simp only [e_J0_isLatin1_aae02, u_J0_isLatin1_aae02_0, u_J0_isLatin1_aae02_3, u_J0_isLatin1_aae02_6, u_J0_isLatin1_aae02_7, u_J0_isLatin1_aae02_10, u_J0_isLatin1_aae02_13, u_J0_isLatin1_aae02_14, u_J0_isLatin1_aae02_18, so_aload, so_goto, so_if, so_push, so_scod, so_zret, sa_nth, sa_N8, hj, or_true, true_or, z10, z00, true_imp_iff, false_imp_iff, not_false_eq_true, not_true_eq_false, true_and, and_true, Nat.zero_le, Nat.sub_zero, List.length_cons, List.length_nil, Nat.reduceAdd, Nat.reduceLT, Nat.reduceLeDiff]
  simp only [u_J0_charAt_5068e_0, u_J0_charAt_5068e_1, u_J0_charAt_5068e_4, u_J0_charAt_5068e_7, u_J0_charAt_5068e_8, u_J0_charAt_5068e_11, u_J0_charAt_5068e_12, sa_split, so_aload, so_if, so_iload, so_stat, so_sval, so_svirt, sa_nth, sa_N8, sa_NL, hj, List.cons_append, List.nil_append, Option.toList_none, Option.toList_some, or_true, true_or, z10, z00, true_imp_iff, false_imp_iff, not_false_eq_true, not_true_eq_false, true_and, and_true, Nat.zero_le, Nat.sub_zero, List.length_cons, List.length_nil, Nat.reduceAdd, Nat.reduceLT, Nat.reduceLeDiff]
  simp only [e_J1_charAt_3b067, u_J1_charAt_3b067_0, u_J1_charAt_3b067_1, u_J1_charAt_3b067_2, u_J1_charAt_3b067_3, u_J1_charAt_3b067_7, u_J1_charAt_3b067_8, u_J1_charAt_3b067_9, u_J1_charAt_3b067_12, u_J1_charAt_3b067_13, u_J1_charAt_3b067_14, sa_split, so_aload, so_bald, so_bin, so_blen, so_iload, so_nret, so_push, so_stat, so_un, sa_nth, sa_N8, sa_NL, sa_NB, hj, List.cons_append, List.nil_append, Option.toList_none, Option.toList_some, or_true, true_or, z10, z00, true_imp_iff, false_imp_iff, not_false_eq_true, not_true_eq_false, true_and, and_true, Nat.zero_le, Nat.sub_zero, List.length_cons, List.length_nil, Nat.reduceAdd, Nat.reduceLT, Nat.reduceLeDiff]
  refine ⟨by omega, by omega, ?_⟩
  rw [e9, t1]
  have hc : ∀ r : Option Nat ⊕ Nat, ct_J3_checkIndex_8e157 0 0 [.inl (nI i), .inl (Int32.ofNat (sT j).length), .inr r] h = fun Q' => Q' (some (.inl (nI i))) h := by
    intro r
    funext Q'
    simp only [e_J3_checkIndex_8e157, u_J3_checkIndex_8e157_0, u_J3_checkIndex_8e157_1, u_J3_checkIndex_8e157_4, u_J3_checkIndex_8e157_5, u_J3_checkIndex_8e157_6, u_J3_checkIndex_8e157_16, u_J3_checkIndex_8e157_17, so_cmp, so_if, so_iload, so_iret, sa_nth, sa_N8, or_true, true_or, z10, z00, true_imp_iff, false_imp_iff, not_false_eq_true, not_true_eq_false, true_and, and_true, Nat.zero_le, Nat.sub_zero, List.length_cons, List.length_nil, Nat.reduceAdd, Nat.reduceLT, Nat.reduceLeDiff]
    have g1 : ¬ nI i < 0 := nI_pos (by omega)
    have g2 : nI i < Int32.ofNat (sT j).length := nI_lt hil (by omega)
    simp [g1, g2]
  simp only [e_J0_checkIndex_df160, u_J0_checkIndex_df160_0, u_J0_checkIndex_df160_1, u_J0_checkIndex_df160_2, u_J0_checkIndex_df160_5, u_J0_checkIndex_df160_9, sa_split, so_getq, so_iload, so_ret, so_stat, sa_nth, sa_N8, List.cons_append, List.nil_append, Option.toList_none, Option.toList_some, or_true, true_or, z10, z00, true_imp_iff, false_imp_iff, not_false_eq_true, not_true_eq_false, true_and, and_true, Nat.zero_le, Nat.sub_zero, List.length_cons, List.length_nil, Nat.reduceAdd, Nat.reduceLT, Nat.reduceLeDiff]
  rw [hc, hc]
  simp only [u_J0_checkIndex_df160_0, u_J0_checkIndex_df160_1, u_J0_checkIndex_df160_2, u_J0_checkIndex_df160_5, u_J0_checkIndex_df160_8, u_J0_checkIndex_df160_9, sa_split, so_getq, so_iload, so_pop, so_ret, so_stat, sa_nth, sa_N8, List.cons_append, List.nil_append, Option.toList_none, Option.toList_some, or_true, true_or, z10, z00, true_imp_iff, false_imp_iff, not_false_eq_true, not_true_eq_false, true_and, and_true, Nat.zero_le, Nat.sub_zero, List.length_cons, List.length_nil, Nat.reduceAdd, Nat.reduceLT, Nat.reduceLeDiff]
  simp only [u_J1_charAt_3b067_0, u_J1_charAt_3b067_1, u_J1_charAt_3b067_2, u_J1_charAt_3b067_3, u_J1_charAt_3b067_6, u_J1_charAt_3b067_7, u_J1_charAt_3b067_8, u_J1_charAt_3b067_9, u_J1_charAt_3b067_12, u_J1_charAt_3b067_13, u_J1_charAt_3b067_14, sa_split, so_aload, so_bald, so_bin, so_blen, so_iload, so_nret, so_push, so_stat, so_un, sa_nth, sa_N8, sa_NL, sa_NB, hj, List.cons_append, List.nil_append, Option.toList_none, Option.toList_some, or_true, true_or, z10, z00, true_imp_iff, false_imp_iff, not_false_eq_true, not_true_eq_false, true_and, and_true, Nat.zero_le, Nat.sub_zero, List.length_cons, List.length_nil, Nat.reduceAdd, Nat.reduceLT, Nat.reduceLeDiff]
  have e8 : (sa_bytS.getD (1000 + j - 1000) []).getD (nI i).toNatClampNeg 0 = v := by
    rw [e9, nI_clamp (by omega)]
    show (sT j).getD i 0 = v
    rw [List.getD_eq_getElem?_getD, hi]; rfl
  rw [e8, v1, e9, t1]
  have fin : 1000 ≤ 1000 + j ∧ j < 8 ∧ vp_in (nI i) (sT j).length ∧ narrow .char (.int v) = .int v ∧ sa_w tb_J0_charAt_5068e (15, [some (.inr (.inr j)), some (.inl (nI i))], [.inl v], h, 0, 0) Q := by
    refine ⟨by omega, hj, vp_in_nI hil (by omega), v2, ?_⟩
    simp only [u_J0_charAt_5068e_0, u_J0_charAt_5068e_1, u_J0_charAt_5068e_7, u_J0_charAt_5068e_8, u_J0_charAt_5068e_11, u_J0_charAt_5068e_12, u_J0_charAt_5068e_15, sa_split, so_aload, so_iload, so_nret, so_stat, so_sval, so_svirt, sa_nth, sa_N8, List.cons_append, List.nil_append, Option.toList_none, Option.toList_some, or_true, true_or, z10, z00, true_imp_iff, false_imp_iff, not_false_eq_true, not_true_eq_false, true_and, and_true, Nat.zero_le, Nat.sub_zero, List.length_cons, List.length_nil, Nat.reduceAdd, Nat.reduceLT, Nat.reduceLeDiff]
    exact ⟨v2, hQ⟩
  first | exact fin | exact ⟨fin, fin⟩
/-! BYTES. Raw: cells, length, overflowed -/
abbrev sB_T : Type := (Nat → Int32) × Int32 × Int32
def sB_L (k ka n : Nat) (C : sB_T → sa_H) : Prop :=
  (∀ r, sa_nth (C r) k = some (.inr (0, [.inr (.inl (some ka)), .inl r.2.1, .inl r.2.2]))) ∧ (∀ r, sa_nth (C r) ka = some (.inl (.inl (n, r.1)))) ∧
  (∀ r l o, sa_put (C r) k (.inr (0, [.inr (.inl (some ka)), .inl l, .inl o])) = C (r.1, l, o)) ∧ (∀ r f, sa_put (C r) ka (.inl (.inl (n, f))) = C (f, r.2))
def sB_R (n : Nat) (r : sB_T) (l : List Int32) : Prop := n < 2 ^ 30 ∧ l.length ≤ n ∧ r.2.1 = nI l.length ∧ (∀ j, j < l.length → l[j]? = some (r.1 j)) ∧ (r.2.2 = 0 ∨ r.2.2 = 1)
section BYT
variable {k ka n : Nat} {C : sB_T → sa_H} {r : sB_T} {l : List Int32} {Q : sa_Q}
theorem k_X0_size (hL : sB_L k ka n C) (hR : sB_R n r l) (h : Q (some (.inl (nI l.length))) (C r)) : ct_X0_size 0 0 [.inr (.inl (some k))] (C r) Q := by
  obtain ⟨h1, h2, h3, h4⟩ := hL
  simp only [e_X0_size, u_X0_size_0, u_X0_size_1, u_X0_size_4, so_aload, so_get, so_iret, sa_nth, h1, sc_0, or_true, true_or, z10, z00, true_imp_iff, false_imp_iff, not_false_eq_true, not_true_eq_false, true_and, and_true, Nat.zero_le, Nat.sub_zero, List.length_cons, List.length_nil, Nat.reduceAdd, Nat.reduceLT, Nat.reduceLeDiff]
  rw [hR.2.2.1]; exact h
theorem k_X0_hasOverflowed (hL : sB_L k ka n C) (hR : sB_R n r l) (h : Q (some (.inl r.2.2)) (C r)) : ct_X0_hasOverflowed 0 0 [.inr (.inl (some k))] (C r) Q := by
  obtain ⟨h1, h2, h3, h4⟩ := hL
  simp only [e_X0_hasOverflowed, u_X0_hasOverflowed_0, u_X0_hasOverflowed_1, u_X0_hasOverflowed_4, so_aload, so_get, so_zret, sa_nth, h1, sc_0, or_true, true_or, z10, z00, true_imp_iff, false_imp_iff, not_false_eq_true, not_true_eq_false, true_and, and_true, Nat.zero_le, Nat.sub_zero, List.length_cons, List.length_nil, Nat.reduceAdd, Nat.reduceLT, Nat.reduceLeDiff]
  exact ⟨hR.2.2.2.2, h⟩
theorem k_X0_has (hL : sB_L k ka n C) (hR : sB_R n r l) (i : Int32) (h1 : ∀ j, j < l.length → i = nI j → Q (some (.inl 1)) (C r)) (h0 : (i < 0 ∨ nI l.length ≤ i) → Q (some (.inl 0)) (C r)) : ct_X0_has 0 0 [.inr (.inl (some k)), .inl i] (C r) Q := by
  obtain ⟨g1, g2, g3, g4⟩ := hL
  obtain ⟨b1, b2, e1, e2, e3⟩ := hR
  simp only [e_X0_has, u_X0_has_0, u_X0_has_1, u_X0_has_4, u_X0_has_5, u_X0_has_6, u_X0_has_9, u_X0_has_12, u_X0_has_13, u_X0_has_16, u_X0_has_17, so_aload, so_cmp, so_get, so_goto, so_if, so_iload, so_push, so_zret, sa_nth, g1, sc_0, or_true, true_or, z10, z00, true_imp_iff, false_imp_iff, not_false_eq_true, not_true_eq_false, true_and, and_true, Nat.zero_le, Nat.sub_zero, List.length_cons, List.length_nil, Nat.reduceAdd, Nat.reduceLT, Nat.reduceLeDiff]
  rw [e1]
  refine ⟨fun q => h0 (Or.inl q), fun q => ⟨fun q1 => h0 (Or.inr q1), fun q1 => ?_⟩⟩
  rcases pk_ix i (n := l.length) (by omega) with q2 | q2 | ⟨j, hj, e⟩
  · exact absurd q2 q
  · exact absurd q2 q1
  · exact h1 j hj e
theorem k_X0_isFull (hL : sB_L k ka n C) (hR : sB_R n r l) (h1 : l.length = n → Q (some (.inl 1)) (C r)) (h0 : l.length < n → Q (some (.inl 0)) (C r)) : ct_X0_isFull 0 0 [.inr (.inl (some k))] (C r) Q := by
  obtain ⟨g1, g2, g3, g4⟩ := hL
  obtain ⟨b1, b2, e1, e2, e3⟩ := hR
  simp only [e_X0_isFull, u_X0_isFull_0, u_X0_isFull_1, u_X0_isFull_4, u_X0_isFull_5, u_X0_isFull_8, u_X0_isFull_9, u_X0_isFull_12, u_X0_isFull_13, u_X0_isFull_16, u_X0_isFull_17, so_alen, so_aload, so_cmp, so_get, so_goto, so_push, so_zret, sa_nth, g1, g2, sc_0, or_true, true_or, z10, z00, true_imp_iff, false_imp_iff, not_false_eq_true, not_true_eq_false, true_and, and_true, Nat.zero_le, Nat.sub_zero, List.length_cons, List.length_nil, Nat.reduceAdd, Nat.reduceLT, Nat.reduceLeDiff]
  rw [e1, show Int32.ofNat n = nI n from rfl]
  refine ⟨fun q => h0 ((nI_ltI (by omega) (by omega)).mp q), fun q => h1 ?_⟩
  rcases Nat.lt_or_ge l.length n with q1 | q1
  · exact absurd (nI_lt q1 (by omega)) q
  · omega
theorem k_X0_at (hL : sB_L k ka n C) (hR : sB_R n r l) (i : Int32) (h : Q (some (.inl (sS_at l i))) (C r)) : ct_X0_at 0 0 [.inr (.inl (some k)), .inl i] (C r) Q := by
  obtain ⟨g1, g2, g3, g4⟩ := hL
  obtain ⟨b1, b2, e1, e2, e3⟩ := hR
  simp only [e_X0_at, u_X0_at_0, u_X0_at_1, u_X0_at_4, u_X0_at_5, u_X0_at_6, u_X0_at_9, u_X0_at_12, u_X0_at_13, u_X0_at_16, u_X0_at_17, u_X0_at_18, u_X0_at_21, u_X0_at_22, so_aload, so_cmp, so_get, so_goto, so_iald, so_if, so_iload, so_iret, so_push, sa_nth, g1, g2, sc_0, or_true, true_or, z10, z00, true_imp_iff, false_imp_iff, not_false_eq_true, not_true_eq_false, true_and, and_true, Nat.zero_le, Nat.sub_zero, List.length_cons, List.length_nil, Nat.reduceAdd, Nat.reduceLT, Nat.reduceLeDiff]
  rw [e1]
  refine ⟨fun q => ?_, fun q => ?_⟩
  · unfold sS_at at h; rw [if_pos q] at h; exact h
  · obtain ⟨j, hj, rfl⟩ := nI_of q
    rw [sS_at_nI hj] at h
    rw [nI_leI (by omega) hj]
    refine ⟨fun q1 => ?_, fun q1 => ⟨vp_in_nI (by omega) (by omega), ?_⟩⟩
    · rw [List.getElem?_eq_none q1] at h; exact h
    · rw [e2 j (by omega)] at h
      rw [nI_clamp hj]; exact h
theorem k_X0_add (hL : sB_L k ka n C) (hR : sB_R n r l) (v : Int32) (hlt : l.length < n) (h : ∀ r', r'.2.2 = r.2.2 → sB_R n r' (l ++ [v]) → Q none (C r')) : ct_X0_add 0 0 [.inr (.inl (some k)), .inl v] (C r) Q := by
  obtain ⟨g1, g2, g3, g4⟩ := hL
  obtain ⟨b1, b2, e1, e2, e3⟩ := hR
  simp only [e_X0_add, u_X0_add_0, u_X0_add_1, u_X0_add_4, u_X0_add_5, u_X0_add_8, u_X0_add_9, u_X0_add_12, u_X0_add_13, u_X0_add_14, u_X0_add_17, u_X0_add_18, u_X0_add_19, u_X0_add_22, u_X0_add_23, u_X0_add_26, u_X0_add_27, u_X0_add_28, u_X0_add_29, u_X0_add_30, u_X0_add_33, u_X0_add_34, u_X0_add_35, u_X0_add_38, sa_put, so_alen, so_aload, so_bin, so_cmp, so_dup, so_get, so_iast, so_iload, so_push, so_put, so_ret, sa_nth, g1, g2, g3, g4, sc_0, sf_0, sf_1, sf_i, sf_r, or_true, true_or, z10, z00, true_imp_iff, false_imp_iff, not_false_eq_true, not_true_eq_false, true_and, and_true, Nat.zero_le, Nat.sub_zero, List.length_cons, List.length_nil, Nat.reduceAdd, Nat.reduceLT, Nat.reduceLeDiff]
  rw [e1, show Int32.ofNat n = nI n from rfl]
  refine ⟨fun q => ⟨vp_in_nI hlt (by omega), ?_⟩, fun q => absurd (nI_lt hlt (by omega)) q⟩
  refine h _ rfl ⟨b1, by simp; omega, by simp [nI_1], fun j hj => ?_, e3⟩
  dsimp only
  rw [nI_clamp (by omega)]
  simp at hj
  by_cases hq : j = l.length
  · subst hq
    rw [pk_us]; simp
  · rw [pk_un hq, List.getElem?_append_left (by omega)]
    exact e2 j (by omega)
theorem k_X0_restart (hL : sB_L k ka n C) (hR : sB_R n r l) (h : ∀ r', r'.2.2 = 0 → sB_R n r' [] → Q none (C r')) : ct_X0_restart 0 0 [.inr (.inl (some k))] (C r) Q := by
  obtain ⟨g1, g2, g3, g4⟩ := hL
  simp only [e_X0_restart, u_X0_restart_0, u_X0_restart_1, u_X0_restart_2, u_X0_restart_5, u_X0_restart_6, u_X0_restart_7, u_X0_restart_10, sa_put, so_aload, so_push, so_put, so_ret, sa_nth, g1, g2, g3, g4, sc_0, sf_0, sf_1, sf_i, sf_r, or_true, true_or, z10, z00, true_imp_iff, false_imp_iff, not_false_eq_true, not_true_eq_false, true_and, and_true, Nat.zero_le, Nat.sub_zero, List.length_cons, List.length_nil, Nat.reduceAdd, Nat.reduceLT, Nat.reduceLeDiff]
  exact h _ rfl ⟨hR.1, by simp, rfl, fun j hj => by simp at hj, Or.inl rfl⟩
theorem k_X0_change (hL : sB_L k ka n C) (hR : sB_R n r l) {i : Nat} (v : Int32) (hi : i < l.length) (h : ∀ r', sB_R n r' (l.set i v) → Q none (C r')) : ct_X0_change 0 0 [.inr (.inl (some k)), .inl (nI i), .inl v] (C r) Q := by
  obtain ⟨g1, g2, g3, g4⟩ := hL
  obtain ⟨b1, b2, e1, e2, e3⟩ := hR
  simp only [e_X0_change, u_X0_change_0, u_X0_change_1, u_X0_change_4, u_X0_change_5, u_X0_change_6, u_X0_change_9, u_X0_change_12, u_X0_change_13, u_X0_change_16, u_X0_change_17, u_X0_change_18, u_X0_change_19, sa_put, so_aload, so_cmp, so_get, so_iast, so_if, so_iload, so_ret, sa_nth, g1, g2, g3, g4, sc_0, or_true, true_or, z10, z00, true_imp_iff, false_imp_iff, not_false_eq_true, not_true_eq_false, true_and, and_true, Nat.zero_le, Nat.sub_zero, List.length_cons, List.length_nil, Nat.reduceAdd, Nat.reduceLT, Nat.reduceLeDiff]
  rw [e1]
  refine ⟨fun q => absurd q (nI_pos (by omega)), fun q => ⟨fun q1 => absurd q1 (nI_ge hi (by omega)), fun q1 => ⟨vp_in_nI (by omega) (by omega), ?_⟩⟩⟩
  refine h _ ⟨b1, by simpa using b2, by simpa using e1, fun j hj => ?_, e3⟩
  simp at hj
  dsimp only
  rw [nI_clamp (by omega), List.getElem?_set]
  by_cases hq : i = j
  · subst hq
    rw [pk_us]; simp [hi]
  · rw [pk_un (Ne.symm hq), if_neg hq]
    exact e2 j hj
theorem k_X0_shorten (hL : sB_L k ka n C) (hR : sB_R n r l) {i : Nat} (hi : i ≤ l.length) (h : ∀ r', sB_R n r' (l.take i) → Q none (C r')) : ct_X0_shorten 0 0 [.inr (.inl (some k)), .inl (nI i)] (C r) Q := by
  obtain ⟨g1, g2, g3, g4⟩ := hL
  obtain ⟨b1, b2, e1, e2, e3⟩ := hR
  simp only [e_X0_shorten, u_X0_shorten_0, u_X0_shorten_1, u_X0_shorten_4, u_X0_shorten_5, u_X0_shorten_6, u_X0_shorten_9, u_X0_shorten_12, u_X0_shorten_13, u_X0_shorten_14, u_X0_shorten_17, sa_put, so_aload, so_cmp, so_get, so_if, so_iload, so_put, so_ret, sa_nth, g1, g2, g3, g4, sc_0, sf_0, sf_1, sf_i, sf_r, or_true, true_or, z10, z00, true_imp_iff, false_imp_iff, not_false_eq_true, not_true_eq_false, true_and, and_true, Nat.zero_le, Nat.sub_zero, List.length_cons, List.length_nil, Nat.reduceAdd, Nat.reduceLT, Nat.reduceLeDiff]
  rw [e1]
  refine ⟨fun q => absurd q (nI_pos (by omega)), fun q => ⟨fun q1 => ?_, fun q1 => ?_⟩⟩
  · rw [nI_leI (by omega) (by omega)] at q1
    have e : l.take i = l := List.take_of_length_le q1
    exact h _ (by rw [e]; exact ⟨b1, b2, e1, e2, e3⟩)
  · refine h _ ⟨b1, by simp; omega, by simp [Nat.min_eq_left hi], fun j hj => ?_, e3⟩
    rw [List.length_take] at hj
    rw [List.getElem?_take, if_pos (by omega)]
    exact e2 j (by omega)
theorem k_X0_addTwo (hL : sB_L k ka n C) (hR : sB_R n r l) (v : Int32) (hlt : l.length + 1 < n) (h : ∀ r', r'.2.2 = r.2.2 → sB_R n r' (l ++ [(v >>> (8 : Int32)) &&& 255, v &&& 255]) → Q none (C r')) : ct_X0_addTwo 0 0 [.inr (.inl (some k)), .inl v] (C r) Q := by
  obtain ⟨g1, g2, g3, g4⟩ := id hL
  have e31 : (8 : Int32) &&& 31 = 8 := by decide
  simp only [e_X0_addTwo, u_X0_addTwo_0, u_X0_addTwo_1, u_X0_addTwo_2, u_X0_addTwo_4, u_X0_addTwo_5, u_X0_addTwo_8, u_X0_addTwo_9, u_X0_addTwo_13, u_X0_addTwo_14, u_X0_addTwo_17, u_X0_addTwo_18, sa_sel, sa_split, so_aload, so_bin, so_iload, so_push, so_virt, sa_nth, g1, e31, List.cons_append, List.nil_append, Nat.reduceEqDiff, Option.toList_none, Option.toList_some, if_false, if_true, reduceIte, or_true, true_or, z10, z00, true_imp_iff, false_imp_iff, not_false_eq_true, not_true_eq_false, true_and, and_true, Nat.zero_le, Nat.sub_zero, List.length_cons, List.length_nil, Nat.reduceAdd, Nat.reduceLT, Nat.reduceLeDiff]
  refine k_X0_add hL hR _ (by omega) (fun r1 o1 hR1 => ?_)
  simp only [u_X0_addTwo_0, u_X0_addTwo_1, u_X0_addTwo_2, u_X0_addTwo_4, u_X0_addTwo_5, u_X0_addTwo_8, u_X0_addTwo_9, u_X0_addTwo_12, u_X0_addTwo_13, u_X0_addTwo_14, u_X0_addTwo_17, u_X0_addTwo_18, sa_sel, sa_split, so_aload, so_bin, so_iload, so_push, so_virt, sa_nth, g1, e31, List.cons_append, List.nil_append, Nat.reduceEqDiff, Option.toList_none, Option.toList_some, if_false, if_true, reduceIte, or_true, true_or, z10, z00, true_imp_iff, false_imp_iff, not_false_eq_true, not_true_eq_false, true_and, and_true, Nat.zero_le, Nat.sub_zero, List.length_cons, List.length_nil, Nat.reduceAdd, Nat.reduceLT, Nat.reduceLeDiff]
  refine k_X0_add hL hR1 _ (by simp; omega) (fun r2 o2 hR2 => ?_)
  simp only [u_X0_addTwo_0, u_X0_addTwo_1, u_X0_addTwo_2, u_X0_addTwo_4, u_X0_addTwo_5, u_X0_addTwo_8, u_X0_addTwo_9, u_X0_addTwo_13, u_X0_addTwo_14, u_X0_addTwo_17, u_X0_addTwo_18, u_X0_addTwo_21, sa_sel, sa_split, so_aload, so_bin, so_iload, so_push, so_ret, so_virt, sa_nth, g1, List.cons_append, List.nil_append, Nat.reduceEqDiff, Option.toList_none, Option.toList_some, if_false, if_true, reduceIte, or_true, true_or, z10, z00, true_imp_iff, false_imp_iff, not_false_eq_true, not_true_eq_false, true_and, and_true, Nat.zero_le, Nat.sub_zero, List.length_cons, List.length_nil, Nat.reduceAdd, Nat.reduceLT, Nat.reduceLeDiff]
  exact h r2 (o2.trans o1) (by simpa using hR2)
end BYT
