/-! FORM 2 WRITTEN -/
def sg (v : Int32) : Int32 := if v = 0 then 96 else 32 + v
def bn (c : List Int32) (p : Nat) : Nat := (c.getD p 0).toNatClampNeg
def tri (c : List Int32) (p : Nat) : Int32 := nI (bn c p * 65536 + bn c (p + 1) * 256 + bn c (p + 2))
def gr (c : List Int32) (p : Nat) : List Int32 := [sg ((tri c p >>> (18 : Int32)) &&& 63), sg ((tri c p >>> (12 : Int32)) &&& 63), sg ((tri c p >>> (6 : Int32)) &&& 63), sg (tri c p &&& 63)]
def gs (c : List Int32) (f : Nat) : Nat → List Int32
  | 0 => []
  | j + 1 => gs c f j ++ gr c (f + 3 * j)
def lin (c : List Int32) (f n : Nat) : List Int32 := [sg (nI n)] ++ gs c f ((n + 2) / 3) ++ [10]
def lns (c : List Int32) : Nat → List Int32
  | 0 => []
  | j + 1 => lns c j ++ lin c (15 * j) (min 15 (c.length - 15 * j))
def lFile (N D : List (List Int32)) (T : List Int32) (i : Nat) : List Int32 := sT 5 ++ N.getD i [] ++ [10] ++ lns (cont D T i) (((cont D T i).length + 14) / 15) ++ [96, 10] ++ sT 6
def lBody (N D : List (List Int32)) (T : List Int32) : Nat → List Int32
  | 0 => []
  | i + 1 => lBody N D T i ++ lFile N D T i
theorem gs_len (c : List Int32) (f : Nat) : ∀ j, (gs c f j).length = 4 * j
  | 0 => rfl
  | j + 1 => by
    unfold gs
    rw [List.length_append, gs_len c f j]
    show _ + 4 = _
    omega
theorem lin_len (c : List Int32) (f n : Nat) (hn : n ≤ 15) : (lin c f n).length ≤ 22 := by
  unfold lin
  rw [List.length_append, List.length_append, gs_len]
  simp only [List.length_cons, List.length_nil]
  omega
theorem lns_len (c : List Int32) : ∀ j, (lns c j).length ≤ 22 * j
  | 0 => by simp [lns]
  | j + 1 => by
    have h1 := lns_len c j
    have h2 := lin_len c (15 * j) (min 15 (c.length - 15 * j)) (by omega)
    unfold lns
    rw [List.length_append]
    omega
theorem sT5 : sT 5 = [98, 101, 103, 105, 110, 32] := by decide
theorem sT6 : sT 6 = [101, 110, 100, 10] := by decide
theorem lFile_len (N D : List (List Int32)) (T : List Int32) (hI : sIF N D T) (i : Nat) : (lFile N D T i).length ≤ 121 := by
  have h1 := getD_mem_le N 20 i hI.1
  have h2 := row_le60 hI (sF_h T (nI i))
  have h3 := lns_len (cont D T i) (((cont D T i).length + 14) / 15)
  unfold lFile
  rw [sT5, sT6]
  simp only [List.length_append, List.length_cons, List.length_nil]
  unfold cont at *
  omega
theorem lBody_len (N D : List (List Int32)) (T : List Int32) (hI : sIF N D T) : ∀ i, (lBody N D T i).length ≤ 121 * i
  | 0 => by simp [lBody]
  | i + 1 => by
    have h1 := lBody_len N D T hI i
    have h2 := lFile_len N D T hI i
    unfold lBody
    rw [List.length_append]
    omega
theorem or_add (a b k : Nat) (hb : b < 2 ^ k) (h : a * 2 ^ k + b < 2 ^ 32) : nI (a * 2 ^ k) ||| nI b = nI (a * 2 ^ k + b) := by
  apply Int32.toBitVec_inj.mp
  apply BitVec.eq_of_toNat_eq
  rw [Int32.toBitVec_or, BitVec.toNat_or, pk_tn (by omega), pk_tn (by omega), pk_tn h]
  rw [Nat.mul_comm, ← Nat.two_pow_add_eq_or_of_lt hb]
theorem cont_B {N D : List (List Int32)} {T : List Int32} (hI : sIF N D T) (i : Int32) : ∀ v ∈ sS_row D i, isB v := by
  unfold sS_row
  split
  · intro v hv; simp at hv
  · rw [List.getD_eq_getElem?_getD]
    cases hq : D[i.toNatClampNeg]? with
    | none => intro v hv; simp at hv
    | some l => exact hI.2.2.2.1 l (List.mem_of_getElem? hq)
theorem bn_spec {c : List Int32} (hc : ∀ v ∈ c, isB v) (p : Nat) : bn c p < 256 ∧ c.getD p 0 = nI (bn c p) := by
  have hB : isB (c.getD p 0) := by
    rw [List.getD_eq_getElem?_getD]
    cases hq : c[p]? with
    | none => exact ⟨by decide, by decide⟩
    | some v => exact hc v (List.mem_of_getElem? hq)
  obtain ⟨n, hn, e⟩ := nI_of (x := c.getD p 0) (by rw [i32_nlt]; exact hB.1)
  have h2 : n ≤ 255 := by
    have := hB.2
    rw [e] at this
    exact (nI_leI (b := 255) hn (by omega)).mp this
  unfold bn
  rw [e, nI_clamp hn]
  exact ⟨by omega, rfl⟩
section LPK
variable {C : sB_T → gF → sa_H} {r : sB_T} {F : gF} {l : List Int32} {N D : List (List Int32)} {T : List Int32} {Q : sa_Q}
theorem k_X6_signFor {h0 : sa_H} (v : Int32) (h : Q (some (.inl (sg v))) h0) : ct_X6_signFor 0 0 [.inl v] h0 Q := by
  simp only [e_X6_signFor, u_X6_signFor_0, u_X6_signFor_1, u_X6_signFor_4, u_X6_signFor_6, u_X6_signFor_9, u_X6_signFor_11, u_X6_signFor_12, u_X6_signFor_13, so_bin, so_goto, so_if, so_iload, so_iret, so_push, sa_nth, or_true, true_or, z10, z00, true_imp_iff, false_imp_iff, not_false_eq_true, not_true_eq_false, true_and, and_true, Nat.zero_le, Nat.sub_zero, List.length_cons, List.length_nil, Nat.reduceAdd, Nat.reduceLT, Nat.reduceLeDiff]
  unfold sg at h
  refine ⟨fun q => ?_, fun q => ?_⟩
  · rw [if_pos q] at h; exact h
  · rw [if_neg q] at h; exact h
theorem k_X6_byteOr0 (hL : sP_L C) (hF : sF_R F N D T) (hI : sIF N D T) {i p : Nat} (hp : p < 2 ^ 30) (h : Q (some (.inl (nI (bn (cont D T i) p)))) (C r F)) : ct_X6_byteOr0 0 0 [.inr (.inl (some 1)), .inl (nI i), .inl (nI p)] (C r F) Q := by
  have g1 := p_1 hL
  obtain ⟨b1, b2⟩ := bn_spec (cont_B hI (sF_h T (nI i))) p
  change bn (cont D T i) p < 256 at b1
  change (cont D T i).getD p 0 = nI (bn (cont D T i) p) at b2
  simp only [e_X6_byteOr0, u_X6_byteOr0_0, u_X6_byteOr0_1, u_X6_byteOr0_2, u_X6_byteOr0_3, u_X6_byteOr0_4, u_X6_byteOr0_10, sa_sel, sa_split, so_aload, so_iload, so_iret, so_push, so_virt, sa_nth, g1, List.cons_append, List.nil_append, Nat.reduceEqDiff, Option.toList_none, Option.toList_some, if_false, if_true, reduceIte, or_true, true_or, z10, z00, true_imp_iff, false_imp_iff, not_false_eq_true, not_true_eq_false, true_and, and_true, Nat.zero_le, Nat.sub_zero, List.length_cons, List.length_nil, Nat.reduceAdd, Nat.reduceLT, Nat.reduceLeDiff]
  refine kF_contentsByte (hL.2 r) hF _ _ ?_
  rw [sS_at_nI (by omega)]
  simp only [u_X6_byteOr0_0, u_X6_byteOr0_1, u_X6_byteOr0_2, u_X6_byteOr0_3, u_X6_byteOr0_4, u_X6_byteOr0_7, u_X6_byteOr0_10, sa_sel, sa_split, so_aload, so_bin8, so_iload, so_iret, so_push, so_virt, sa_nth, List.cons_append, List.nil_append, Nat.reduceEqDiff, Option.toList_none, Option.toList_some, if_false, if_true, reduceIte, or_true, true_or, z10, z00, true_imp_iff, false_imp_iff, not_false_eq_true, not_true_eq_false, true_and, and_true, Nat.zero_le, Nat.sub_zero, List.length_cons, List.length_nil, Nat.reduceAdd, Nat.reduceLT, Nat.reduceLeDiff]
  rw [← b2] at h
  rw [List.getD_eq_getElem?_getD] at h b2
  unfold cont at h b2
  cases hq : (sS_row D (sF_h T (nI i)))[p]? with
  | none =>
    rw [hq] at h
    exact h
  | some v =>
    rw [hq] at h b2
    rw [Option.getD_some] at h b2 ⊢
    rw [b2] at h ⊢
    split
    · exact h
    · next q =>
      have : bn (cont D T i) p = 0 := by
        rcases Nat.eq_zero_or_pos (bn (cont D T i) p) with z | z
        · exact z
        · exact absurd (nI_lt (a := 0) z (by omega)) q
      unfold cont at this
      rw [this] at h
      exact h
theorem tri_or {c : List Int32} (hc : ∀ v ∈ c, isB v) (p : Nat) : nI (bn c p) <<< ((16 : Int32) &&& 31) ||| nI (bn c (p + 1)) <<< ((8 : Int32) &&& 31) ||| nI (bn c (p + 2)) = tri c p := by
  have h0 := (bn_spec hc p).1
  have h1 := (bn_spec hc (p + 1)).1
  have h2 := (bn_spec hc (p + 2)).1
  rw [show (16 : Int32) &&& 31 = 16 by decide, show (8 : Int32) &&& 31 = 8 by decide]
  rw [pk_shlN 16 16 (by decide) (by omega), pk_shlN 8 8 (by decide) (by omega)]
  rw [or_add _ _ 16 (by omega) (by omega)]
  have e : bn c p * 2 ^ 16 + bn c (p + 1) * 2 ^ 8 = (bn c p * 256 + bn c (p + 1)) * 2 ^ 8 := by omega
  rw [e, or_add _ _ 8 (by omega) (by omega)]
  unfold tri
  rw [Nat.add_mul, Nat.mul_assoc, show (256 * 2 ^ 8 : Nat) = 65536 from rfl, show (2 ^ 8 : Nat) = 256 from rfl]
theorem k_X6_packLine (hL : sP_L C) (hR : sB_R 1500 r l) (hF : sF_R F N D T) (hI : sIF N D T) {i f : Nat} (hf : f < (cont D T i).length) (hfm : f % 15 = 0) (hlt : l.length + 22 ≤ 1500) (h : ∀ r', r'.2.2 = r.2.2 → sB_R 1500 r' (l ++ lin (cont D T i) f (min 15 ((cont D T i).length - f))) → Q none (C r' F)) : ct_X6_packLine 0 0 [.inr (.inl (some 1)), .inl (nI i), .inl (nI f), .inr (.inl (some 11))] (C r F) Q := by
  have g1 := p_1 hL
  have g2 := p_11 hL
  have hcl : (cont D T i).length ≤ 60 := row_le60 hI _
  have hcB : ∀ v ∈ cont D T i, isB v := cont_B hI _
  generalize hn : min 15 ((cont D T i).length - f) = n at h
  have hn15 : n ≤ 15 ∧ 0 < n ∧ f + n ≤ (cont D T i).length := by omega
  have i3 : ∀ a b : Nat, nI a + nI b = nI (a + b) := nI_add
  -- four signs
  have four : ∀ (r1 : sB_T) (l1 : List Int32) (p : Nat) (Q' : sa_Q), p < 100 → l1.length + 4 ≤ 1500 → r1.2.2 = r.2.2 → sB_R 1500 r1 l1 → (∀ r2, r2.2.2 = r.2.2 → sB_R 1500 r2 (l1 ++ gr (cont D T i) p) → sa_w tb_X6_packLine (82, [some (.inr (.inl (some 1))), some (.inl (nI i)), some (.inl (nI f)), some (.inr (.inl (some 11))), some (.inl (nI (f + n))), some (.inl (nI p)), some (.inl (tri (cont D T i) p)), some (.inl (-6))], [], C r2 F, 0, 0) Q') → sa_w tb_X6_packLine (82, [some (.inr (.inl (some 1))), some (.inl (nI i)), some (.inl (nI f)), some (.inr (.inl (some 11))), some (.inl (nI (f + n))), some (.inl (nI p)), some (.inl (tri (cont D T i) p)), some (.inl 18)], [], C r1 F, 0, 0) Q' := by
    intro r1 l1 p Q' hp hl1 ho hR1 hk
    have one : ∀ (s : Int32) (r2 : sB_T) (l2 : List Int32), ¬ s < 0 → l2.length < 1500 → sB_R 1500 r2 l2 → (∀ r3, r3.2.2 = r2.2.2 → sB_R 1500 r3 (l2 ++ [sg ((tri (cont D T i) p >>> (s &&& 31)) &&& 63)]) → sa_w tb_X6_packLine (82, [some (.inr (.inl (some 1))), some (.inl (nI i)), some (.inl (nI f)), some (.inr (.inl (some 11))), some (.inl (nI (f + n))), some (.inl (nI p)), some (.inl (tri (cont D T i) p)), some (.inl (s + -6))], [], C r3 F, 0, 0) Q') → sa_w tb_X6_packLine (82, [some (.inr (.inl (some 1))), some (.inl (nI i)), some (.inl (nI f)), some (.inr (.inl (some 11))), some (.inl (nI (f + n))), some (.inl (nI p)), some (.inl (tri (cont D T i) p)), some (.inl s)], [], C r2 F, 0, 0) Q' := by
      intro s r2 l2 hs hl2 hR2 hk2
      rw [u_X6_packLine_82]
      simp only [u_X6_packLine_0, u_X6_packLine_1, u_X6_packLine_3, u_X6_packLine_4, u_X6_packLine_5, u_X6_packLine_6, u_X6_packLine_12, u_X6_packLine_14, u_X6_packLine_15, u_X6_packLine_17, u_X6_packLine_18, u_X6_packLine_19, u_X6_packLine_26, u_X6_packLine_28, u_X6_packLine_30, u_X6_packLine_32, u_X6_packLine_35, u_X6_packLine_36, u_X6_packLine_37, u_X6_packLine_39, u_X6_packLine_44, u_X6_packLine_45, u_X6_packLine_47, u_X6_packLine_49, u_X6_packLine_50, u_X6_packLine_51, u_X6_packLine_53, u_X6_packLine_54, u_X6_packLine_55, u_X6_packLine_60, u_X6_packLine_61, u_X6_packLine_62, u_X6_packLine_64, u_X6_packLine_66, u_X6_packLine_67, u_X6_packLine_68, u_X6_packLine_70, u_X6_packLine_71, u_X6_packLine_72, u_X6_packLine_76, u_X6_packLine_78, u_X6_packLine_80, u_X6_packLine_84, u_X6_packLine_87, u_X6_packLine_88, u_X6_packLine_90, u_X6_packLine_92, u_X6_packLine_93, u_X6_packLine_95, u_X6_packLine_96, u_X6_packLine_105, u_X6_packLine_111, u_X6_packLine_114, u_X6_packLine_115, u_X6_packLine_117, sa_put, sa_sel, sa_split, so_aload, so_bin, so_cmp, so_goto, so_if, so_iload, so_istore, so_push, so_stat, so_virt, sa_nth, g2, List.cons_append, List.nil_append, Nat.reduceEqDiff, Option.toList_none, Option.toList_some, if_false, if_true, reduceIte, or_true, true_or, z10, z00, true_imp_iff, false_imp_iff, not_false_eq_true, not_true_eq_false, true_and, and_true, Nat.zero_le, Nat.sub_zero, List.length_cons, List.length_nil, Nat.reduceAdd, Nat.reduceLT, Nat.reduceLeDiff]
      refine ⟨fun q => absurd q hs, fun _ => ?_⟩
      refine k_X6_signFor _ ?_
      simp only [u_X6_packLine_0, u_X6_packLine_1, u_X6_packLine_3, u_X6_packLine_4, u_X6_packLine_5, u_X6_packLine_6, u_X6_packLine_12, u_X6_packLine_14, u_X6_packLine_15, u_X6_packLine_17, u_X6_packLine_18, u_X6_packLine_19, u_X6_packLine_26, u_X6_packLine_28, u_X6_packLine_30, u_X6_packLine_32, u_X6_packLine_35, u_X6_packLine_36, u_X6_packLine_37, u_X6_packLine_39, u_X6_packLine_44, u_X6_packLine_45, u_X6_packLine_47, u_X6_packLine_49, u_X6_packLine_50, u_X6_packLine_51, u_X6_packLine_53, u_X6_packLine_54, u_X6_packLine_55, u_X6_packLine_60, u_X6_packLine_61, u_X6_packLine_62, u_X6_packLine_64, u_X6_packLine_66, u_X6_packLine_67, u_X6_packLine_68, u_X6_packLine_70, u_X6_packLine_71, u_X6_packLine_72, u_X6_packLine_76, u_X6_packLine_78, u_X6_packLine_80, u_X6_packLine_84, u_X6_packLine_87, u_X6_packLine_88, u_X6_packLine_90, u_X6_packLine_92, u_X6_packLine_93, u_X6_packLine_95, u_X6_packLine_96, u_X6_packLine_99, u_X6_packLine_105, u_X6_packLine_108, u_X6_packLine_111, u_X6_packLine_114, u_X6_packLine_115, u_X6_packLine_117, sa_put, sa_sel, sa_split, so_aload, so_bin, so_cmp, so_goto, so_if, so_iinc, so_iload, so_istore, so_push, so_stat, so_virt, sa_nth, g2, List.cons_append, List.nil_append, Nat.reduceEqDiff, Option.toList_none, Option.toList_some, if_false, if_true, reduceIte, or_true, true_or, z10, z00, true_imp_iff, false_imp_iff, not_false_eq_true, not_true_eq_false, true_and, and_true, Nat.zero_le, Nat.sub_zero, List.length_cons, List.length_nil, Nat.reduceAdd, Nat.reduceLT, Nat.reduceLeDiff]
      refine k_X0_add (hL.1 F) hR2 _ hl2 (fun r3 o3 hR3 => ?_)
      simp only [u_X6_packLine_0, u_X6_packLine_1, u_X6_packLine_3, u_X6_packLine_4, u_X6_packLine_5, u_X6_packLine_6, u_X6_packLine_12, u_X6_packLine_14, u_X6_packLine_15, u_X6_packLine_17, u_X6_packLine_18, u_X6_packLine_19, u_X6_packLine_26, u_X6_packLine_28, u_X6_packLine_30, u_X6_packLine_32, u_X6_packLine_35, u_X6_packLine_36, u_X6_packLine_37, u_X6_packLine_39, u_X6_packLine_44, u_X6_packLine_45, u_X6_packLine_47, u_X6_packLine_49, u_X6_packLine_50, u_X6_packLine_51, u_X6_packLine_53, u_X6_packLine_54, u_X6_packLine_55, u_X6_packLine_60, u_X6_packLine_61, u_X6_packLine_62, u_X6_packLine_64, u_X6_packLine_66, u_X6_packLine_67, u_X6_packLine_68, u_X6_packLine_70, u_X6_packLine_71, u_X6_packLine_72, u_X6_packLine_76, u_X6_packLine_78, u_X6_packLine_80, u_X6_packLine_84, u_X6_packLine_87, u_X6_packLine_88, u_X6_packLine_90, u_X6_packLine_92, u_X6_packLine_93, u_X6_packLine_95, u_X6_packLine_96, u_X6_packLine_102, u_X6_packLine_105, u_X6_packLine_108, u_X6_packLine_111, u_X6_packLine_114, u_X6_packLine_115, u_X6_packLine_117, sa_put, sa_sel, sa_split, so_aload, so_bin, so_cmp, so_goto, so_if, so_iinc, so_iload, so_istore, so_push, so_stat, so_virt, sa_nth, List.cons_append, List.nil_append, Nat.reduceEqDiff, Option.toList_none, Option.toList_some, if_false, if_true, reduceIte, or_true, true_or, z10, z00, true_imp_iff, false_imp_iff, not_false_eq_true, not_true_eq_false, true_and, and_true, Nat.zero_le, Nat.sub_zero, List.length_cons, List.length_nil, Nat.reduceAdd, Nat.reduceLT, Nat.reduceLeDiff]
      exact hk2 r3 o3 hR3
    refine one 18 r1 l1 (by decide) (by omega) hR1 (fun r2 o2 hR2 => ?_)
    refine one 12 r2 _ (by decide) (by simp only [List.length_append, List.length_cons, List.length_nil]; omega) hR2 (fun r3 o3 hR3 => ?_)
    refine one 6 r3 _ (by decide) (by simp only [List.length_append, List.length_cons, List.length_nil]; omega) hR3 (fun r4 o4 hR4 => ?_)
    refine one 0 r4 _ (by decide) (by simp only [List.length_append, List.length_cons, List.length_nil]; omega) hR4 (fun r5 o5 hR5 => ?_)
    refine hk r5 (o5.trans (o4.trans (o3.trans (o2.trans ho)))) ?_
    have z0 : tri (cont D T i) p >>> ((0 : Int32) &&& 31) = tri (cont D T i) p := by
      rw [show (0 : Int32) &&& 31 = 0 by decide]
      exact Int32.shiftRight_zero
    rw [z0, show (6 : Int32) &&& 31 = 6 by decide, show (12 : Int32) &&& 31 = 12 by decide, show (18 : Int32) &&& 31 = 18 by decide] at hR5
    unfold gr
    simpa [List.append_assoc] using hR5
  have loop : ∀ (m j : Nat) (r1 : sB_T) (o6 o7 : Option sa_V), j + m = (n + 2) / 3 → r1.2.2 = r.2.2 → sB_R 1500 r1 (l ++ ([sg (nI n)] ++ gs (cont D T i) f j)) → sa_w tb_X6_packLine (28, [some (.inr (.inl (some 1))), some (.inl (nI i)), some (.inl (nI f)), some (.inr (.inl (some 11))), some (.inl (nI (f + n))), some (.inl (nI (f + 3 * j))), o6, o7], [], C r1 F, 0, 0) Q := by
    intro m
    induction m with
    | zero =>
      intro j r1 o6 o7 hj ho hR1
      have hgl := gs_len (cont D T i) f j
      rw [u_X6_packLine_28]
      simp only [u_X6_packLine_0, u_X6_packLine_1, u_X6_packLine_3, u_X6_packLine_4, u_X6_packLine_5, u_X6_packLine_6, u_X6_packLine_12, u_X6_packLine_14, u_X6_packLine_15, u_X6_packLine_17, u_X6_packLine_18, u_X6_packLine_19, u_X6_packLine_26, u_X6_packLine_30, u_X6_packLine_32, u_X6_packLine_35, u_X6_packLine_36, u_X6_packLine_37, u_X6_packLine_39, u_X6_packLine_44, u_X6_packLine_45, u_X6_packLine_47, u_X6_packLine_49, u_X6_packLine_50, u_X6_packLine_51, u_X6_packLine_53, u_X6_packLine_54, u_X6_packLine_55, u_X6_packLine_60, u_X6_packLine_61, u_X6_packLine_62, u_X6_packLine_64, u_X6_packLine_66, u_X6_packLine_67, u_X6_packLine_68, u_X6_packLine_70, u_X6_packLine_71, u_X6_packLine_72, u_X6_packLine_76, u_X6_packLine_78, u_X6_packLine_80, u_X6_packLine_82, u_X6_packLine_84, u_X6_packLine_87, u_X6_packLine_88, u_X6_packLine_90, u_X6_packLine_92, u_X6_packLine_93, u_X6_packLine_95, u_X6_packLine_96, u_X6_packLine_105, u_X6_packLine_108, u_X6_packLine_111, u_X6_packLine_114, u_X6_packLine_115, u_X6_packLine_117, sa_put, sa_sel, sa_split, so_aload, so_bin, so_cmp, so_goto, so_if, so_iinc, so_iload, so_istore, so_push, so_stat, so_virt, sa_nth, g2, List.cons_append, List.nil_append, Nat.reduceEqDiff, Option.toList_none, Option.toList_some, if_false, if_true, reduceIte, or_true, true_or, z10, z00, true_imp_iff, false_imp_iff, not_false_eq_true, not_true_eq_false, true_and, and_true, Nat.zero_le, Nat.sub_zero, List.length_cons, List.length_nil, Nat.reduceAdd, Nat.reduceLT, Nat.reduceLeDiff]
      rw [nI_leI (by omega) (by omega)]
      refine ⟨fun _ => ?_, fun q => absurd (by omega) q⟩
      refine k_X0_add (hL.1 F) hR1 _ (by simp only [List.length_append, List.length_cons, List.length_nil]; omega) (fun r2 o2 hR2 => ?_)
      simp only [u_X6_packLine_0, u_X6_packLine_1, u_X6_packLine_3, u_X6_packLine_4, u_X6_packLine_5, u_X6_packLine_6, u_X6_packLine_12, u_X6_packLine_14, u_X6_packLine_15, u_X6_packLine_17, u_X6_packLine_18, u_X6_packLine_19, u_X6_packLine_26, u_X6_packLine_28, u_X6_packLine_30, u_X6_packLine_32, u_X6_packLine_35, u_X6_packLine_36, u_X6_packLine_37, u_X6_packLine_39, u_X6_packLine_44, u_X6_packLine_45, u_X6_packLine_47, u_X6_packLine_49, u_X6_packLine_50, u_X6_packLine_51, u_X6_packLine_53, u_X6_packLine_54, u_X6_packLine_55, u_X6_packLine_60, u_X6_packLine_61, u_X6_packLine_62, u_X6_packLine_64, u_X6_packLine_66, u_X6_packLine_67, u_X6_packLine_68, u_X6_packLine_70, u_X6_packLine_71, u_X6_packLine_72, u_X6_packLine_76, u_X6_packLine_78, u_X6_packLine_80, u_X6_packLine_82, u_X6_packLine_84, u_X6_packLine_87, u_X6_packLine_88, u_X6_packLine_90, u_X6_packLine_92, u_X6_packLine_93, u_X6_packLine_95, u_X6_packLine_96, u_X6_packLine_105, u_X6_packLine_108, u_X6_packLine_111, u_X6_packLine_114, u_X6_packLine_115, u_X6_packLine_117, u_X6_packLine_120, sa_put, sa_sel, sa_split, so_aload, so_bin, so_cmp, so_goto, so_if, so_iinc, so_iload, so_istore, so_push, so_ret, so_stat, so_virt, sa_nth, List.cons_append, List.nil_append, Nat.reduceEqDiff, Option.toList_none, Option.toList_some, if_false, if_true, reduceIte, or_true, true_or, z10, z00, true_imp_iff, false_imp_iff, not_false_eq_true, not_true_eq_false, true_and, and_true, Nat.zero_le, Nat.sub_zero, List.length_cons, List.length_nil, Nat.reduceAdd, Nat.reduceLT, Nat.reduceLeDiff]
      refine h r2 (o2.trans ho) ?_
      unfold lin
      rw [show (n + 2) / 3 = j by omega]
      simpa [List.append_assoc] using hR2
    | succ m ih =>
      intro j r1 o6 o7 hj ho hR1
      have hgl := gs_len (cont D T i) f j
      rw [u_X6_packLine_28]
      simp only [u_X6_packLine_0, u_X6_packLine_1, u_X6_packLine_3, u_X6_packLine_4, u_X6_packLine_5, u_X6_packLine_6, u_X6_packLine_12, u_X6_packLine_14, u_X6_packLine_15, u_X6_packLine_17, u_X6_packLine_18, u_X6_packLine_19, u_X6_packLine_26, u_X6_packLine_30, u_X6_packLine_32, u_X6_packLine_35, u_X6_packLine_36, u_X6_packLine_37, u_X6_packLine_39, u_X6_packLine_44, u_X6_packLine_45, u_X6_packLine_47, u_X6_packLine_49, u_X6_packLine_50, u_X6_packLine_51, u_X6_packLine_53, u_X6_packLine_54, u_X6_packLine_55, u_X6_packLine_60, u_X6_packLine_61, u_X6_packLine_62, u_X6_packLine_64, u_X6_packLine_66, u_X6_packLine_67, u_X6_packLine_68, u_X6_packLine_70, u_X6_packLine_71, u_X6_packLine_72, u_X6_packLine_76, u_X6_packLine_78, u_X6_packLine_80, u_X6_packLine_82, u_X6_packLine_84, u_X6_packLine_87, u_X6_packLine_88, u_X6_packLine_90, u_X6_packLine_92, u_X6_packLine_93, u_X6_packLine_95, u_X6_packLine_96, u_X6_packLine_105, u_X6_packLine_108, u_X6_packLine_111, u_X6_packLine_114, u_X6_packLine_115, u_X6_packLine_117, sa_put, sa_sel, sa_split, so_aload, so_bin, so_cmp, so_goto, so_if, so_iinc, so_iload, so_istore, so_push, so_stat, so_virt, sa_nth, g1, g2, List.cons_append, List.nil_append, Nat.reduceEqDiff, Option.toList_none, Option.toList_some, if_false, if_true, reduceIte, or_true, true_or, z10, z00, true_imp_iff, false_imp_iff, not_false_eq_true, not_true_eq_false, true_and, and_true, Nat.zero_le, Nat.sub_zero, List.length_cons, List.length_nil, Nat.reduceAdd, Nat.reduceLT, Nat.reduceLeDiff]
      rw [nI_leI (by omega) (by omega)]
      refine ⟨fun q => absurd q (by omega), fun _ => ?_⟩
      refine k_X6_byteOr0 hL hF hI (by omega) ?_
      simp only [u_X6_packLine_0, u_X6_packLine_1, u_X6_packLine_3, u_X6_packLine_4, u_X6_packLine_5, u_X6_packLine_6, u_X6_packLine_12, u_X6_packLine_14, u_X6_packLine_15, u_X6_packLine_17, u_X6_packLine_18, u_X6_packLine_19, u_X6_packLine_26, u_X6_packLine_28, u_X6_packLine_30, u_X6_packLine_32, u_X6_packLine_35, u_X6_packLine_36, u_X6_packLine_37, u_X6_packLine_39, u_X6_packLine_42, u_X6_packLine_44, u_X6_packLine_45, u_X6_packLine_47, u_X6_packLine_49, u_X6_packLine_50, u_X6_packLine_51, u_X6_packLine_53, u_X6_packLine_54, u_X6_packLine_55, u_X6_packLine_60, u_X6_packLine_61, u_X6_packLine_62, u_X6_packLine_64, u_X6_packLine_66, u_X6_packLine_67, u_X6_packLine_68, u_X6_packLine_70, u_X6_packLine_71, u_X6_packLine_72, u_X6_packLine_76, u_X6_packLine_78, u_X6_packLine_80, u_X6_packLine_82, u_X6_packLine_84, u_X6_packLine_87, u_X6_packLine_88, u_X6_packLine_90, u_X6_packLine_92, u_X6_packLine_93, u_X6_packLine_95, u_X6_packLine_96, u_X6_packLine_105, u_X6_packLine_108, u_X6_packLine_111, u_X6_packLine_114, u_X6_packLine_115, u_X6_packLine_117, sa_put, sa_sel, sa_split, so_aload, so_bin, so_cmp, so_goto, so_if, so_iinc, so_iload, so_istore, so_push, so_stat, so_virt, sa_nth, g1, g2, List.cons_append, List.nil_append, Nat.reduceEqDiff, Option.toList_none, Option.toList_some, if_false, if_true, reduceIte, or_true, true_or, z10, z00, true_imp_iff, false_imp_iff, not_false_eq_true, not_true_eq_false, true_and, and_true, Nat.zero_le, Nat.sub_zero, List.length_cons, List.length_nil, Nat.reduceAdd, Nat.reduceLT, Nat.reduceLeDiff]
      rw [show (1 : Int32) = nI 1 from rfl, nI_add]
      refine k_X6_byteOr0 hL hF hI (by omega) ?_
      simp only [u_X6_packLine_0, u_X6_packLine_1, u_X6_packLine_3, u_X6_packLine_4, u_X6_packLine_5, u_X6_packLine_6, u_X6_packLine_12, u_X6_packLine_14, u_X6_packLine_15, u_X6_packLine_17, u_X6_packLine_18, u_X6_packLine_19, u_X6_packLine_26, u_X6_packLine_28, u_X6_packLine_30, u_X6_packLine_32, u_X6_packLine_35, u_X6_packLine_36, u_X6_packLine_37, u_X6_packLine_39, u_X6_packLine_44, u_X6_packLine_45, u_X6_packLine_47, u_X6_packLine_49, u_X6_packLine_50, u_X6_packLine_51, u_X6_packLine_53, u_X6_packLine_54, u_X6_packLine_55, u_X6_packLine_58, u_X6_packLine_60, u_X6_packLine_61, u_X6_packLine_62, u_X6_packLine_64, u_X6_packLine_66, u_X6_packLine_67, u_X6_packLine_68, u_X6_packLine_70, u_X6_packLine_71, u_X6_packLine_72, u_X6_packLine_76, u_X6_packLine_78, u_X6_packLine_80, u_X6_packLine_82, u_X6_packLine_84, u_X6_packLine_87, u_X6_packLine_88, u_X6_packLine_90, u_X6_packLine_92, u_X6_packLine_93, u_X6_packLine_95, u_X6_packLine_96, u_X6_packLine_105, u_X6_packLine_108, u_X6_packLine_111, u_X6_packLine_114, u_X6_packLine_115, u_X6_packLine_117, sa_put, sa_sel, sa_split, so_aload, so_bin, so_cmp, so_goto, so_if, so_iinc, so_iload, so_istore, so_push, so_stat, so_virt, sa_nth, g1, g2, List.cons_append, List.nil_append, Nat.reduceEqDiff, Option.toList_none, Option.toList_some, if_false, if_true, reduceIte, or_true, true_or, z10, z00, true_imp_iff, false_imp_iff, not_false_eq_true, not_true_eq_false, true_and, and_true, Nat.zero_le, Nat.sub_zero, List.length_cons, List.length_nil, Nat.reduceAdd, Nat.reduceLT, Nat.reduceLeDiff]
      rw [show (2 : Int32) = nI 2 from rfl, nI_add]
      refine k_X6_byteOr0 hL hF hI (by omega) ?_
      simp only [u_X6_packLine_0, u_X6_packLine_1, u_X6_packLine_3, u_X6_packLine_4, u_X6_packLine_5, u_X6_packLine_6, u_X6_packLine_12, u_X6_packLine_14, u_X6_packLine_15, u_X6_packLine_17, u_X6_packLine_18, u_X6_packLine_19, u_X6_packLine_26, u_X6_packLine_28, u_X6_packLine_30, u_X6_packLine_32, u_X6_packLine_35, u_X6_packLine_36, u_X6_packLine_37, u_X6_packLine_39, u_X6_packLine_44, u_X6_packLine_45, u_X6_packLine_47, u_X6_packLine_49, u_X6_packLine_50, u_X6_packLine_51, u_X6_packLine_53, u_X6_packLine_54, u_X6_packLine_55, u_X6_packLine_60, u_X6_packLine_61, u_X6_packLine_62, u_X6_packLine_64, u_X6_packLine_66, u_X6_packLine_67, u_X6_packLine_68, u_X6_packLine_70, u_X6_packLine_71, u_X6_packLine_72, u_X6_packLine_75, u_X6_packLine_76, u_X6_packLine_78, u_X6_packLine_80, u_X6_packLine_84, u_X6_packLine_87, u_X6_packLine_88, u_X6_packLine_90, u_X6_packLine_92, u_X6_packLine_93, u_X6_packLine_95, u_X6_packLine_96, u_X6_packLine_105, u_X6_packLine_108, u_X6_packLine_111, u_X6_packLine_114, u_X6_packLine_115, u_X6_packLine_117, sa_put, sa_sel, sa_split, so_aload, so_bin, so_cmp, so_goto, so_if, so_iinc, so_iload, so_istore, so_push, so_stat, so_virt, sa_nth, g1, g2, List.cons_append, List.nil_append, Nat.reduceEqDiff, Option.toList_none, Option.toList_some, if_false, if_true, reduceIte, or_true, true_or, z10, z00, true_imp_iff, false_imp_iff, not_false_eq_true, not_true_eq_false, true_and, and_true, Nat.zero_le, Nat.sub_zero, List.length_cons, List.length_nil, Nat.reduceAdd, Nat.reduceLT, Nat.reduceLeDiff]
      rw [tri_or hcB]
      refine four r1 _ (f + 3 * j) Q (by omega) (by simp only [List.length_append, List.length_cons, List.length_nil]; omega) ho hR1 (fun r2 o2 hR2 => ?_)
      rw [u_X6_packLine_82]
      simp only [u_X6_packLine_0, u_X6_packLine_1, u_X6_packLine_3, u_X6_packLine_4, u_X6_packLine_5, u_X6_packLine_6, u_X6_packLine_12, u_X6_packLine_14, u_X6_packLine_15, u_X6_packLine_17, u_X6_packLine_18, u_X6_packLine_19, u_X6_packLine_26, u_X6_packLine_30, u_X6_packLine_32, u_X6_packLine_35, u_X6_packLine_36, u_X6_packLine_37, u_X6_packLine_39, u_X6_packLine_44, u_X6_packLine_45, u_X6_packLine_47, u_X6_packLine_49, u_X6_packLine_50, u_X6_packLine_51, u_X6_packLine_53, u_X6_packLine_54, u_X6_packLine_55, u_X6_packLine_60, u_X6_packLine_61, u_X6_packLine_62, u_X6_packLine_64, u_X6_packLine_66, u_X6_packLine_67, u_X6_packLine_68, u_X6_packLine_70, u_X6_packLine_71, u_X6_packLine_72, u_X6_packLine_76, u_X6_packLine_78, u_X6_packLine_80, u_X6_packLine_84, u_X6_packLine_87, u_X6_packLine_88, u_X6_packLine_90, u_X6_packLine_92, u_X6_packLine_93, u_X6_packLine_95, u_X6_packLine_96, u_X6_packLine_105, u_X6_packLine_108, u_X6_packLine_111, u_X6_packLine_114, u_X6_packLine_115, u_X6_packLine_117, sa_put, sa_sel, sa_split, so_aload, so_bin, so_cmp, so_goto, so_if, so_iinc, so_iload, so_istore, so_push, so_stat, so_virt, sa_nth, g2, List.cons_append, List.nil_append, Nat.reduceEqDiff, Option.toList_none, Option.toList_some, if_false, if_true, reduceIte, or_true, true_or, z10, z00, true_imp_iff, false_imp_iff, not_false_eq_true, not_true_eq_false, true_and, and_true, Nat.zero_le, Nat.sub_zero, List.length_cons, List.length_nil, Nat.reduceAdd, Nat.reduceLT, Nat.reduceLeDiff]
      refine ⟨fun _ => ?_, fun q => absurd (by decide) q⟩
      rw [show (3 : Int32) = nI 3 from rfl, nI_add, show f + 3 * j + 3 = f + 3 * (j + 1) by omega]
      refine ih (j + 1) r2 _ _ (by omega) o2 ?_
      unfold gs
      simpa [List.append_assoc] using hR2
  simp only [e_X6_packLine, u_X6_packLine_0, u_X6_packLine_1, u_X6_packLine_3, u_X6_packLine_4, u_X6_packLine_5, u_X6_packLine_6, u_X6_packLine_12, u_X6_packLine_14, u_X6_packLine_15, u_X6_packLine_17, u_X6_packLine_18, u_X6_packLine_19, u_X6_packLine_26, u_X6_packLine_28, u_X6_packLine_30, u_X6_packLine_32, u_X6_packLine_35, u_X6_packLine_36, u_X6_packLine_37, u_X6_packLine_39, u_X6_packLine_44, u_X6_packLine_45, u_X6_packLine_47, u_X6_packLine_49, u_X6_packLine_50, u_X6_packLine_51, u_X6_packLine_53, u_X6_packLine_54, u_X6_packLine_55, u_X6_packLine_60, u_X6_packLine_61, u_X6_packLine_62, u_X6_packLine_64, u_X6_packLine_66, u_X6_packLine_67, u_X6_packLine_68, u_X6_packLine_70, u_X6_packLine_71, u_X6_packLine_72, u_X6_packLine_76, u_X6_packLine_78, u_X6_packLine_80, u_X6_packLine_82, u_X6_packLine_84, u_X6_packLine_87, u_X6_packLine_88, u_X6_packLine_90, u_X6_packLine_92, u_X6_packLine_93, u_X6_packLine_95, u_X6_packLine_96, u_X6_packLine_105, u_X6_packLine_108, u_X6_packLine_111, u_X6_packLine_114, u_X6_packLine_115, u_X6_packLine_117, sa_put, sa_sel, sa_split, so_aload, so_bin, so_cmp, so_goto, so_if, so_iinc, so_iload, so_istore, so_push, so_stat, so_virt, sa_nth, g1, g2, List.cons_append, List.nil_append, Nat.reduceEqDiff, Option.toList_none, Option.toList_some, if_false, if_true, reduceIte, or_true, true_or, z10, z00, true_imp_iff, false_imp_iff, not_false_eq_true, not_true_eq_false, true_and, and_true, Nat.zero_le, Nat.sub_zero, List.length_cons, List.length_nil, Nat.reduceAdd, Nat.reduceLT, Nat.reduceLeDiff]
  refine kF_contentsLength (hL.2 r) hF _ ?_
  simp only [u_X6_packLine_0, u_X6_packLine_1, u_X6_packLine_3, u_X6_packLine_4, u_X6_packLine_5, u_X6_packLine_6, u_X6_packLine_9, u_X6_packLine_12, u_X6_packLine_14, u_X6_packLine_15, u_X6_packLine_17, u_X6_packLine_18, u_X6_packLine_19, u_X6_packLine_26, u_X6_packLine_28, u_X6_packLine_30, u_X6_packLine_32, u_X6_packLine_35, u_X6_packLine_36, u_X6_packLine_37, u_X6_packLine_39, u_X6_packLine_44, u_X6_packLine_45, u_X6_packLine_47, u_X6_packLine_49, u_X6_packLine_50, u_X6_packLine_51, u_X6_packLine_53, u_X6_packLine_54, u_X6_packLine_55, u_X6_packLine_60, u_X6_packLine_61, u_X6_packLine_62, u_X6_packLine_64, u_X6_packLine_66, u_X6_packLine_67, u_X6_packLine_68, u_X6_packLine_70, u_X6_packLine_71, u_X6_packLine_72, u_X6_packLine_76, u_X6_packLine_78, u_X6_packLine_80, u_X6_packLine_82, u_X6_packLine_84, u_X6_packLine_87, u_X6_packLine_88, u_X6_packLine_90, u_X6_packLine_92, u_X6_packLine_93, u_X6_packLine_95, u_X6_packLine_96, u_X6_packLine_105, u_X6_packLine_108, u_X6_packLine_111, u_X6_packLine_114, u_X6_packLine_115, u_X6_packLine_117, sa_put, sa_sel, sa_split, so_aload, so_bin, so_bin8, so_cmp, so_goto, so_if, so_iinc, so_iload, so_istore, so_push, so_stat, so_virt, sa_nth, g1, g2, List.cons_append, List.nil_append, Nat.reduceEqDiff, Option.toList_none, Option.toList_some, if_false, if_true, reduceIte, or_true, true_or, z10, z00, true_imp_iff, false_imp_iff, not_false_eq_true, not_true_eq_false, true_and, and_true, Nat.zero_le, Nat.sub_zero, List.length_cons, List.length_nil, Nat.reduceAdd, Nat.reduceLT, Nat.reduceLeDiff]
  have hmin : (if nI (sS_row D (sF_h T (nI i))).length < nI f + 15 then nI (sS_row D (sF_h T (nI i))).length else nI f + 15) = nI (f + n) := by
    rw [show (15 : Int32) = nI 15 from rfl, nI_add]
    change (if nI (cont D T i).length < nI (f + 15) then nI (cont D T i).length else nI (f + 15)) = _
    by_cases hq : (cont D T i).length < f + 15
    · rw [if_pos (nI_lt hq (by omega))]
      congr 1
      omega
    · rw [if_neg (nI_nlt (by omega) (by omega))]
      congr 1
      omega
  rw [hmin, pk_sub (by omega), show f + n - f = n by omega]
  refine k_X6_signFor _ ?_
  simp only [u_X6_packLine_0, u_X6_packLine_1, u_X6_packLine_3, u_X6_packLine_4, u_X6_packLine_5, u_X6_packLine_6, u_X6_packLine_12, u_X6_packLine_14, u_X6_packLine_15, u_X6_packLine_17, u_X6_packLine_18, u_X6_packLine_19, u_X6_packLine_22, u_X6_packLine_26, u_X6_packLine_28, u_X6_packLine_30, u_X6_packLine_32, u_X6_packLine_35, u_X6_packLine_36, u_X6_packLine_37, u_X6_packLine_39, u_X6_packLine_44, u_X6_packLine_45, u_X6_packLine_47, u_X6_packLine_49, u_X6_packLine_50, u_X6_packLine_51, u_X6_packLine_53, u_X6_packLine_54, u_X6_packLine_55, u_X6_packLine_60, u_X6_packLine_61, u_X6_packLine_62, u_X6_packLine_64, u_X6_packLine_66, u_X6_packLine_67, u_X6_packLine_68, u_X6_packLine_70, u_X6_packLine_71, u_X6_packLine_72, u_X6_packLine_76, u_X6_packLine_78, u_X6_packLine_80, u_X6_packLine_82, u_X6_packLine_84, u_X6_packLine_87, u_X6_packLine_88, u_X6_packLine_90, u_X6_packLine_92, u_X6_packLine_93, u_X6_packLine_95, u_X6_packLine_96, u_X6_packLine_105, u_X6_packLine_108, u_X6_packLine_111, u_X6_packLine_114, u_X6_packLine_115, u_X6_packLine_117, sa_put, sa_sel, sa_split, so_aload, so_bin, so_cmp, so_goto, so_if, so_iinc, so_iload, so_istore, so_push, so_stat, so_virt, sa_nth, g2, List.cons_append, List.nil_append, Nat.reduceEqDiff, Option.toList_none, Option.toList_some, if_false, if_true, reduceIte, or_true, true_or, z10, z00, true_imp_iff, false_imp_iff, not_false_eq_true, not_true_eq_false, true_and, and_true, Nat.zero_le, Nat.sub_zero, List.length_cons, List.length_nil, Nat.reduceAdd, Nat.reduceLT, Nat.reduceLeDiff]
  refine k_X0_add (hL.1 F) hR _ (by omega) (fun r1 o1 hR1 => ?_)
  simp only [u_X6_packLine_0, u_X6_packLine_1, u_X6_packLine_3, u_X6_packLine_4, u_X6_packLine_5, u_X6_packLine_6, u_X6_packLine_12, u_X6_packLine_14, u_X6_packLine_15, u_X6_packLine_17, u_X6_packLine_18, u_X6_packLine_19, u_X6_packLine_25, u_X6_packLine_26, u_X6_packLine_30, u_X6_packLine_32, u_X6_packLine_35, u_X6_packLine_36, u_X6_packLine_37, u_X6_packLine_39, u_X6_packLine_44, u_X6_packLine_45, u_X6_packLine_47, u_X6_packLine_49, u_X6_packLine_50, u_X6_packLine_51, u_X6_packLine_53, u_X6_packLine_54, u_X6_packLine_55, u_X6_packLine_60, u_X6_packLine_61, u_X6_packLine_62, u_X6_packLine_64, u_X6_packLine_66, u_X6_packLine_67, u_X6_packLine_68, u_X6_packLine_70, u_X6_packLine_71, u_X6_packLine_72, u_X6_packLine_76, u_X6_packLine_78, u_X6_packLine_80, u_X6_packLine_82, u_X6_packLine_84, u_X6_packLine_87, u_X6_packLine_88, u_X6_packLine_90, u_X6_packLine_92, u_X6_packLine_93, u_X6_packLine_95, u_X6_packLine_96, u_X6_packLine_105, u_X6_packLine_108, u_X6_packLine_111, u_X6_packLine_114, u_X6_packLine_115, u_X6_packLine_117, sa_put, sa_sel, sa_split, so_aload, so_bin, so_cmp, so_goto, so_if, so_iinc, so_iload, so_istore, so_push, so_stat, so_virt, sa_nth, List.cons_append, List.nil_append, Nat.reduceEqDiff, Option.toList_none, Option.toList_some, if_false, if_true, reduceIte, or_true, true_or, z10, z00, true_imp_iff, false_imp_iff, not_false_eq_true, not_true_eq_false, true_and, and_true, Nat.zero_le, Nat.sub_zero, List.length_cons, List.length_nil, Nat.reduceAdd, Nat.reduceLT, Nat.reduceLeDiff]
  exact loop _ 0 r1 _ _ (Nat.zero_add _) o1 (by simpa [gs] using hR1)
theorem k_X6_pack (hL : sP_L C) (hR : sB_R 1500 r []) (hF : sF_R F N D T) (hI : sIF N D T) (h : ∀ r', r'.2.2 = r.2.2 → sB_R 1500 r' (lBody N D T N.length) → Q none (C r' F)) : ct_X6_pack 0 0 [.inr (.inl (some 27)), .inr (.inl (some 1)), .inr (.inl (some 11))] (C r F) Q := by
  have g1 := p_1 hL
  have g2 := p_11 hL
  have hn := hF.1.2.2.1
  have loop : ∀ (m x : Nat) (r1 : sB_T) (o4 : Option sa_V), x + m = N.length → r1.2.2 = r.2.2 → sB_R 1500 r1 (lBody N D T x) → sa_w tb_X6_pack (2, [some (.inr (.inl (some 27))), some (.inr (.inl (some 1))), some (.inr (.inl (some 11))), some (.inl (nI x)), o4], [], C r1 F, 0, 0) Q := by
    intro m
    induction m with
    | zero =>
      intro x r1 o4 hx ho hR1
      simp only [u_X6_pack_0, u_X6_pack_1, u_X6_pack_2, u_X6_pack_3, u_X6_pack_4, u_X6_pack_10, u_X6_pack_11, u_X6_pack_13, u_X6_pack_17, u_X6_pack_18, u_X6_pack_19, u_X6_pack_23, u_X6_pack_25, u_X6_pack_29, u_X6_pack_31, u_X6_pack_33, u_X6_pack_34, u_X6_pack_35, u_X6_pack_41, u_X6_pack_42, u_X6_pack_43, u_X6_pack_45, u_X6_pack_46, u_X6_pack_52, u_X6_pack_55, u_X6_pack_56, u_X6_pack_58, u_X6_pack_62, u_X6_pack_64, u_X6_pack_68, u_X6_pack_70, u_X6_pack_76, u_X6_pack_79, sa_put, sa_sel, sa_split, so_aload, so_goto, so_iload, so_istore, so_push, so_ret, so_stat, so_virt, sa_nth, g1, g2, List.cons_append, List.nil_append, Nat.reduceEqDiff, Option.toList_none, Option.toList_some, if_false, if_true, reduceIte, or_true, true_or, z10, z00, true_imp_iff, false_imp_iff, not_false_eq_true, not_true_eq_false, true_and, and_true, Nat.zero_le, Nat.sub_zero, List.length_cons, List.length_nil, Nat.reduceAdd, Nat.reduceLT, Nat.reduceLeDiff]
      refine k_X8_count ((hL.2 r1).1 F.2.2) hF.1 ?_
      simp only [u_X6_pack_0, u_X6_pack_1, u_X6_pack_3, u_X6_pack_4, u_X6_pack_7, u_X6_pack_10, u_X6_pack_11, u_X6_pack_13, u_X6_pack_17, u_X6_pack_18, u_X6_pack_19, u_X6_pack_23, u_X6_pack_25, u_X6_pack_29, u_X6_pack_31, u_X6_pack_33, u_X6_pack_34, u_X6_pack_35, u_X6_pack_41, u_X6_pack_42, u_X6_pack_43, u_X6_pack_45, u_X6_pack_46, u_X6_pack_52, u_X6_pack_55, u_X6_pack_56, u_X6_pack_58, u_X6_pack_62, u_X6_pack_64, u_X6_pack_68, u_X6_pack_70, u_X6_pack_76, u_X6_pack_79, sa_put, sa_sel, sa_split, so_aload, so_cmp, so_goto, so_iload, so_istore, so_push, so_ret, so_stat, so_virt, sa_nth, g1, g2, List.cons_append, List.nil_append, Nat.reduceEqDiff, Option.toList_none, Option.toList_some, if_false, if_true, reduceIte, or_true, true_or, z10, z00, true_imp_iff, false_imp_iff, not_false_eq_true, not_true_eq_false, true_and, and_true, Nat.zero_le, Nat.sub_zero, List.length_cons, List.length_nil, Nat.reduceAdd, Nat.reduceLT, Nat.reduceLeDiff]
      rw [nI_leI (by omega) (by omega)]
      refine ⟨fun _ => h r1 ho ?_, fun q => absurd (by omega) q⟩
      rw [show x = N.length by omega] at hR1
      exact hR1
    | succ m ih =>
      intro x r1 o4 hx ho hR1
      have hb := lBody_len N D T hI x
      have h20 := getD_mem_le N 20 x hI.1
      have hcl : (cont D T x).length ≤ 60 := row_le60 hI _
      generalize hl0 : lBody N D T x = lw at hR1 hb
      have inner : ∀ (m2 j : Nat) (r2 : sB_T), j + m2 = ((cont D T x).length + 14) / 15 → r2.2.2 = r.2.2 → sB_R 1500 r2 (lw ++ (sT 5 ++ N.getD x [] ++ [10] ++ lns (cont D T x) j)) → sa_w tb_X6_pack (31, [some (.inr (.inl (some 27))), some (.inr (.inl (some 1))), some (.inr (.inl (some 11))), some (.inl (nI x)), some (.inl (nI (15 * j)))], [], C r2 F, 0, 0) Q := by
        intro m2
        induction m2 with
        | zero =>
          intro j r2 hj o2 hR2
          have hll := lns_len (cont D T x) j
          have hl5 : (sT 5).length = 6 := by rw [sT5]; rfl
          rw [u_X6_pack_31]
          simp only [u_X6_pack_0, u_X6_pack_1, u_X6_pack_2, u_X6_pack_3, u_X6_pack_4, u_X6_pack_10, u_X6_pack_11, u_X6_pack_13, u_X6_pack_17, u_X6_pack_18, u_X6_pack_19, u_X6_pack_23, u_X6_pack_25, u_X6_pack_29, u_X6_pack_33, u_X6_pack_34, u_X6_pack_35, u_X6_pack_41, u_X6_pack_42, u_X6_pack_43, u_X6_pack_45, u_X6_pack_46, u_X6_pack_52, u_X6_pack_55, u_X6_pack_56, u_X6_pack_58, u_X6_pack_62, u_X6_pack_64, u_X6_pack_68, u_X6_pack_70, u_X6_pack_76, u_X6_pack_79, sa_put, sa_sel, sa_split, so_aload, so_goto, so_iload, so_istore, so_push, so_ret, so_stat, so_virt, sa_nth, g1, g2, List.cons_append, List.nil_append, Nat.reduceEqDiff, Option.toList_none, Option.toList_some, if_false, if_true, reduceIte, or_true, true_or, z10, z00, true_imp_iff, false_imp_iff, not_false_eq_true, not_true_eq_false, true_and, and_true, Nat.zero_le, Nat.sub_zero, List.length_cons, List.length_nil, Nat.reduceAdd, Nat.reduceLT, Nat.reduceLeDiff]
          refine kF_contentsLength (hL.2 r2) hF _ ?_
          simp only [u_X6_pack_0, u_X6_pack_1, u_X6_pack_2, u_X6_pack_3, u_X6_pack_4, u_X6_pack_10, u_X6_pack_11, u_X6_pack_13, u_X6_pack_17, u_X6_pack_18, u_X6_pack_19, u_X6_pack_23, u_X6_pack_25, u_X6_pack_29, u_X6_pack_33, u_X6_pack_34, u_X6_pack_35, u_X6_pack_38, u_X6_pack_41, u_X6_pack_42, u_X6_pack_43, u_X6_pack_45, u_X6_pack_46, u_X6_pack_52, u_X6_pack_55, u_X6_pack_56, u_X6_pack_58, u_X6_pack_62, u_X6_pack_64, u_X6_pack_68, u_X6_pack_70, u_X6_pack_76, u_X6_pack_79, sa_put, sa_sel, sa_split, so_aload, so_cmp, so_goto, so_iload, so_istore, so_push, so_ret, so_stat, so_virt, sa_nth, g1, g2, List.cons_append, List.nil_append, Nat.reduceEqDiff, Option.toList_none, Option.toList_some, if_false, if_true, reduceIte, or_true, true_or, z10, z00, true_imp_iff, false_imp_iff, not_false_eq_true, not_true_eq_false, true_and, and_true, Nat.zero_le, Nat.sub_zero, List.length_cons, List.length_nil, Nat.reduceAdd, Nat.reduceLT, Nat.reduceLeDiff]
          change (nI (cont D T x).length ≤ nI (15 * j) → _) ∧ (¬ nI (cont D T x).length ≤ nI (15 * j) → _)
          rw [nI_leI (by omega) (by omega)]
          refine ⟨fun _ => ?_, fun q => absurd (by omega) q⟩
          refine k_X0_add (hL.1 F) hR2 _ (by simp only [List.length_append, List.length_cons, List.length_nil]; omega) (fun r3 o3 hR3 => ?_)
          simp only [u_X6_pack_0, u_X6_pack_1, u_X6_pack_3, u_X6_pack_4, u_X6_pack_10, u_X6_pack_11, u_X6_pack_13, u_X6_pack_17, u_X6_pack_18, u_X6_pack_19, u_X6_pack_23, u_X6_pack_25, u_X6_pack_29, u_X6_pack_31, u_X6_pack_33, u_X6_pack_34, u_X6_pack_35, u_X6_pack_41, u_X6_pack_42, u_X6_pack_43, u_X6_pack_45, u_X6_pack_46, u_X6_pack_52, u_X6_pack_55, u_X6_pack_56, u_X6_pack_58, u_X6_pack_61, u_X6_pack_62, u_X6_pack_64, u_X6_pack_68, u_X6_pack_70, u_X6_pack_76, u_X6_pack_79, sa_put, sa_sel, sa_split, so_aload, so_goto, so_iload, so_istore, so_push, so_ret, so_stat, so_virt, sa_nth, g1, g2, List.cons_append, List.nil_append, Nat.reduceEqDiff, Option.toList_none, Option.toList_some, if_false, if_true, reduceIte, or_true, true_or, z10, z00, true_imp_iff, false_imp_iff, not_false_eq_true, not_true_eq_false, true_and, and_true, Nat.zero_le, Nat.sub_zero, List.length_cons, List.length_nil, Nat.reduceAdd, Nat.reduceLT, Nat.reduceLeDiff]
          refine k_X0_add (hL.1 F) hR3 _ (by simp only [List.length_append, List.length_cons, List.length_nil]; omega) (fun r4 o4 hR4 => ?_)
          simp only [u_X6_pack_0, u_X6_pack_1, u_X6_pack_3, u_X6_pack_4, u_X6_pack_10, u_X6_pack_11, u_X6_pack_13, u_X6_pack_17, u_X6_pack_18, u_X6_pack_19, u_X6_pack_23, u_X6_pack_25, u_X6_pack_29, u_X6_pack_31, u_X6_pack_33, u_X6_pack_34, u_X6_pack_35, u_X6_pack_41, u_X6_pack_42, u_X6_pack_43, u_X6_pack_45, u_X6_pack_46, u_X6_pack_52, u_X6_pack_55, u_X6_pack_56, u_X6_pack_58, u_X6_pack_62, u_X6_pack_64, u_X6_pack_67, u_X6_pack_68, u_X6_pack_70, u_X6_pack_76, u_X6_pack_79, sa_put, sa_sel, sa_split, so_aload, so_goto, so_iload, so_istore, so_push, so_ret, so_stat, so_virt, sa_nth, g1, g2, List.cons_append, List.nil_append, Nat.reduceEqDiff, Option.toList_none, Option.toList_some, if_false, if_true, reduceIte, or_true, true_or, z10, z00, true_imp_iff, false_imp_iff, not_false_eq_true, not_true_eq_false, true_and, and_true, Nat.zero_le, Nat.sub_zero, List.length_cons, List.length_nil, Nat.reduceAdd, Nat.reduceLT, Nat.reduceLeDiff]
          refine k_X0_addText (hL.1 F) hR4 (by decide) (by rw [sT6]; simp only [List.length_append, List.length_cons, List.length_nil]; omega) (fun r5 o5 hR5 => ?_)
          simp only [u_X6_pack_0, u_X6_pack_1, u_X6_pack_3, u_X6_pack_4, u_X6_pack_10, u_X6_pack_11, u_X6_pack_13, u_X6_pack_17, u_X6_pack_18, u_X6_pack_19, u_X6_pack_23, u_X6_pack_25, u_X6_pack_29, u_X6_pack_31, u_X6_pack_33, u_X6_pack_34, u_X6_pack_35, u_X6_pack_41, u_X6_pack_42, u_X6_pack_43, u_X6_pack_45, u_X6_pack_46, u_X6_pack_52, u_X6_pack_55, u_X6_pack_56, u_X6_pack_58, u_X6_pack_62, u_X6_pack_64, u_X6_pack_68, u_X6_pack_70, u_X6_pack_73, u_X6_pack_76, u_X6_pack_79, sa_put, sa_sel, sa_split, so_aload, so_goto, so_iinc, so_iload, so_istore, so_push, so_ret, so_stat, so_virt, sa_nth, List.cons_append, List.nil_append, Nat.reduceEqDiff, Option.toList_none, Option.toList_some, if_false, if_true, reduceIte, or_true, true_or, z10, z00, true_imp_iff, false_imp_iff, not_false_eq_true, not_true_eq_false, true_and, and_true, Nat.zero_le, Nat.sub_zero, List.length_cons, List.length_nil, Nat.reduceAdd, Nat.reduceLT, Nat.reduceLeDiff]
          rw [nI_1]
          refine ih (x + 1) r5 _ (by omega) (o5.trans (o4.trans (o3.trans o2))) ?_
          show sB_R 1500 r5 (lBody N D T x ++ lFile N D T x)
          unfold lFile
          rw [hl0, show ((cont D T x).length + 14) / 15 = j by omega]
          simpa [List.append_assoc] using hR5
        | succ m2 ih2 =>
          intro j r2 hj o2 hR2
          have hll := lns_len (cont D T x) j
          have hl5 : (sT 5).length = 6 := by rw [sT5]; rfl
          rw [u_X6_pack_31]
          simp only [u_X6_pack_0, u_X6_pack_1, u_X6_pack_2, u_X6_pack_3, u_X6_pack_4, u_X6_pack_10, u_X6_pack_11, u_X6_pack_13, u_X6_pack_17, u_X6_pack_18, u_X6_pack_19, u_X6_pack_23, u_X6_pack_25, u_X6_pack_29, u_X6_pack_33, u_X6_pack_34, u_X6_pack_35, u_X6_pack_41, u_X6_pack_42, u_X6_pack_43, u_X6_pack_45, u_X6_pack_46, u_X6_pack_52, u_X6_pack_55, u_X6_pack_56, u_X6_pack_58, u_X6_pack_62, u_X6_pack_64, u_X6_pack_68, u_X6_pack_70, u_X6_pack_76, u_X6_pack_79, sa_put, sa_sel, sa_split, so_aload, so_goto, so_iload, so_istore, so_push, so_ret, so_stat, so_virt, sa_nth, g1, g2, List.cons_append, List.nil_append, Nat.reduceEqDiff, Option.toList_none, Option.toList_some, if_false, if_true, reduceIte, or_true, true_or, z10, z00, true_imp_iff, false_imp_iff, not_false_eq_true, not_true_eq_false, true_and, and_true, Nat.zero_le, Nat.sub_zero, List.length_cons, List.length_nil, Nat.reduceAdd, Nat.reduceLT, Nat.reduceLeDiff]
          refine kF_contentsLength (hL.2 r2) hF _ ?_
          simp only [u_X6_pack_0, u_X6_pack_1, u_X6_pack_2, u_X6_pack_3, u_X6_pack_4, u_X6_pack_10, u_X6_pack_11, u_X6_pack_13, u_X6_pack_17, u_X6_pack_18, u_X6_pack_19, u_X6_pack_23, u_X6_pack_25, u_X6_pack_29, u_X6_pack_33, u_X6_pack_34, u_X6_pack_35, u_X6_pack_38, u_X6_pack_41, u_X6_pack_42, u_X6_pack_43, u_X6_pack_45, u_X6_pack_46, u_X6_pack_52, u_X6_pack_55, u_X6_pack_56, u_X6_pack_58, u_X6_pack_62, u_X6_pack_64, u_X6_pack_68, u_X6_pack_70, u_X6_pack_76, u_X6_pack_79, sa_put, sa_sel, sa_split, so_aload, so_cmp, so_goto, so_iload, so_istore, so_push, so_ret, so_stat, so_virt, sa_nth, g1, g2, List.cons_append, List.nil_append, Nat.reduceEqDiff, Option.toList_none, Option.toList_some, if_false, if_true, reduceIte, or_true, true_or, z10, z00, true_imp_iff, false_imp_iff, not_false_eq_true, not_true_eq_false, true_and, and_true, Nat.zero_le, Nat.sub_zero, List.length_cons, List.length_nil, Nat.reduceAdd, Nat.reduceLT, Nat.reduceLeDiff]
          change (nI (cont D T x).length ≤ nI (15 * j) → _) ∧ (¬ nI (cont D T x).length ≤ nI (15 * j) → _)
          rw [nI_leI (by omega) (by omega)]
          refine ⟨fun q => absurd q (by omega), fun _ => ?_⟩
          refine k_X6_packLine hL hR2 hF hI (by omega) (by omega) (by simp only [List.length_append, List.length_cons, List.length_nil]; omega) (fun r3 o3 hR3 => ?_)
          simp only [u_X6_pack_0, u_X6_pack_1, u_X6_pack_2, u_X6_pack_3, u_X6_pack_4, u_X6_pack_10, u_X6_pack_11, u_X6_pack_13, u_X6_pack_17, u_X6_pack_18, u_X6_pack_19, u_X6_pack_23, u_X6_pack_25, u_X6_pack_29, u_X6_pack_33, u_X6_pack_34, u_X6_pack_35, u_X6_pack_41, u_X6_pack_42, u_X6_pack_43, u_X6_pack_45, u_X6_pack_46, u_X6_pack_49, u_X6_pack_52, u_X6_pack_55, u_X6_pack_56, u_X6_pack_58, u_X6_pack_62, u_X6_pack_64, u_X6_pack_68, u_X6_pack_70, u_X6_pack_76, u_X6_pack_79, sa_put, sa_sel, sa_split, so_aload, so_goto, so_iinc, so_iload, so_istore, so_push, so_ret, so_stat, so_virt, sa_nth, List.cons_append, List.nil_append, Nat.reduceEqDiff, Option.toList_none, Option.toList_some, if_false, if_true, reduceIte, or_true, true_or, z10, z00, true_imp_iff, false_imp_iff, not_false_eq_true, not_true_eq_false, true_and, and_true, Nat.zero_le, Nat.sub_zero, List.length_cons, List.length_nil, Nat.reduceAdd, Nat.reduceLT, Nat.reduceLeDiff]
          rw [show (15 : Int32) = nI 15 from rfl, nI_add, show 15 * j + 15 = 15 * (j + 1) by omega]
          refine ih2 (j + 1) r3 (by omega) (o3.trans o2) ?_
          show sB_R 1500 r3 (lw ++ (sT 5 ++ N.getD x [] ++ [10] ++ (lns (cont D T x) j ++ lin (cont D T x) (15 * j) (min 15 ((cont D T x).length - 15 * j)))))
          simpa [List.append_assoc] using hR3
      simp only [u_X6_pack_0, u_X6_pack_1, u_X6_pack_2, u_X6_pack_3, u_X6_pack_4, u_X6_pack_10, u_X6_pack_11, u_X6_pack_13, u_X6_pack_17, u_X6_pack_18, u_X6_pack_19, u_X6_pack_23, u_X6_pack_25, u_X6_pack_29, u_X6_pack_31, u_X6_pack_33, u_X6_pack_34, u_X6_pack_35, u_X6_pack_41, u_X6_pack_42, u_X6_pack_43, u_X6_pack_45, u_X6_pack_46, u_X6_pack_52, u_X6_pack_55, u_X6_pack_56, u_X6_pack_58, u_X6_pack_62, u_X6_pack_64, u_X6_pack_68, u_X6_pack_70, u_X6_pack_76, u_X6_pack_79, sa_put, sa_sel, sa_split, so_aload, so_goto, so_iload, so_istore, so_push, so_ret, so_stat, so_virt, sa_nth, g1, g2, List.cons_append, List.nil_append, Nat.reduceEqDiff, Option.toList_none, Option.toList_some, if_false, if_true, reduceIte, or_true, true_or, z10, z00, true_imp_iff, false_imp_iff, not_false_eq_true, not_true_eq_false, true_and, and_true, Nat.zero_le, Nat.sub_zero, List.length_cons, List.length_nil, Nat.reduceAdd, Nat.reduceLT, Nat.reduceLeDiff]
      refine k_X8_count ((hL.2 r1).1 F.2.2) hF.1 ?_
      simp only [u_X6_pack_0, u_X6_pack_1, u_X6_pack_3, u_X6_pack_4, u_X6_pack_7, u_X6_pack_10, u_X6_pack_11, u_X6_pack_13, u_X6_pack_17, u_X6_pack_18, u_X6_pack_19, u_X6_pack_23, u_X6_pack_25, u_X6_pack_29, u_X6_pack_31, u_X6_pack_33, u_X6_pack_34, u_X6_pack_35, u_X6_pack_41, u_X6_pack_42, u_X6_pack_43, u_X6_pack_45, u_X6_pack_46, u_X6_pack_52, u_X6_pack_55, u_X6_pack_56, u_X6_pack_58, u_X6_pack_62, u_X6_pack_64, u_X6_pack_68, u_X6_pack_70, u_X6_pack_76, u_X6_pack_79, sa_put, sa_sel, sa_split, so_aload, so_cmp, so_goto, so_iload, so_istore, so_push, so_ret, so_stat, so_virt, sa_nth, g1, g2, List.cons_append, List.nil_append, Nat.reduceEqDiff, Option.toList_none, Option.toList_some, if_false, if_true, reduceIte, or_true, true_or, z10, z00, true_imp_iff, false_imp_iff, not_false_eq_true, not_true_eq_false, true_and, and_true, Nat.zero_le, Nat.sub_zero, List.length_cons, List.length_nil, Nat.reduceAdd, Nat.reduceLT, Nat.reduceLeDiff]
      rw [nI_leI (by omega) (by omega)]
      refine ⟨fun q => absurd q (by omega), fun _ => ?_⟩
      refine k_X0_addText (hL.1 F) hR1 (by decide) (by rw [sT5]; simp only [List.length_cons, List.length_nil]; omega) (fun r2 o2 hR2 => ?_)
      simp only [u_X6_pack_0, u_X6_pack_1, u_X6_pack_3, u_X6_pack_4, u_X6_pack_10, u_X6_pack_11, u_X6_pack_13, u_X6_pack_16, u_X6_pack_17, u_X6_pack_18, u_X6_pack_19, u_X6_pack_23, u_X6_pack_25, u_X6_pack_29, u_X6_pack_31, u_X6_pack_33, u_X6_pack_34, u_X6_pack_35, u_X6_pack_41, u_X6_pack_42, u_X6_pack_43, u_X6_pack_45, u_X6_pack_46, u_X6_pack_52, u_X6_pack_55, u_X6_pack_56, u_X6_pack_58, u_X6_pack_62, u_X6_pack_64, u_X6_pack_68, u_X6_pack_70, u_X6_pack_76, u_X6_pack_79, sa_put, sa_sel, sa_split, so_aload, so_goto, so_iload, so_istore, so_push, so_ret, so_stat, so_virt, sa_nth, g1, g2, List.cons_append, List.nil_append, Nat.reduceEqDiff, Option.toList_none, Option.toList_some, if_false, if_true, reduceIte, or_true, true_or, z10, z00, true_imp_iff, false_imp_iff, not_false_eq_true, not_true_eq_false, true_and, and_true, Nat.zero_le, Nat.sub_zero, List.length_cons, List.length_nil, Nat.reduceAdd, Nat.reduceLT, Nat.reduceLeDiff]
      refine k_X0_addName hL hR2 hF hI (by omega) (by rw [sT5]; simp only [List.length_append, List.length_cons, List.length_nil]; omega) (fun r3 o3 hR3 => ?_)
      simp only [u_X6_pack_0, u_X6_pack_1, u_X6_pack_3, u_X6_pack_4, u_X6_pack_10, u_X6_pack_11, u_X6_pack_13, u_X6_pack_17, u_X6_pack_18, u_X6_pack_19, u_X6_pack_22, u_X6_pack_23, u_X6_pack_25, u_X6_pack_29, u_X6_pack_31, u_X6_pack_33, u_X6_pack_34, u_X6_pack_35, u_X6_pack_41, u_X6_pack_42, u_X6_pack_43, u_X6_pack_45, u_X6_pack_46, u_X6_pack_52, u_X6_pack_55, u_X6_pack_56, u_X6_pack_58, u_X6_pack_62, u_X6_pack_64, u_X6_pack_68, u_X6_pack_70, u_X6_pack_76, u_X6_pack_79, sa_put, sa_sel, sa_split, so_aload, so_goto, so_iload, so_istore, so_push, so_ret, so_stat, so_virt, sa_nth, g1, g2, List.cons_append, List.nil_append, Nat.reduceEqDiff, Option.toList_none, Option.toList_some, if_false, if_true, reduceIte, or_true, true_or, z10, z00, true_imp_iff, false_imp_iff, not_false_eq_true, not_true_eq_false, true_and, and_true, Nat.zero_le, Nat.sub_zero, List.length_cons, List.length_nil, Nat.reduceAdd, Nat.reduceLT, Nat.reduceLeDiff]
      refine k_X0_add (hL.1 F) hR3 _ (by rw [sT5]; simp only [List.length_append, List.length_cons, List.length_nil]; omega) (fun r4 o4 hR4 => ?_)
      simp only [u_X6_pack_0, u_X6_pack_1, u_X6_pack_2, u_X6_pack_3, u_X6_pack_4, u_X6_pack_10, u_X6_pack_11, u_X6_pack_13, u_X6_pack_17, u_X6_pack_18, u_X6_pack_19, u_X6_pack_23, u_X6_pack_25, u_X6_pack_28, u_X6_pack_29, u_X6_pack_33, u_X6_pack_34, u_X6_pack_35, u_X6_pack_41, u_X6_pack_42, u_X6_pack_43, u_X6_pack_45, u_X6_pack_46, u_X6_pack_52, u_X6_pack_55, u_X6_pack_56, u_X6_pack_58, u_X6_pack_62, u_X6_pack_64, u_X6_pack_68, u_X6_pack_70, u_X6_pack_76, u_X6_pack_79, sa_put, sa_sel, sa_split, so_aload, so_goto, so_iload, so_istore, so_push, so_ret, so_stat, so_virt, sa_nth, List.cons_append, List.nil_append, Nat.reduceEqDiff, Option.toList_none, Option.toList_some, if_false, if_true, reduceIte, or_true, true_or, z10, z00, true_imp_iff, false_imp_iff, not_false_eq_true, not_true_eq_false, true_and, and_true, Nat.zero_le, Nat.sub_zero, List.length_cons, List.length_nil, Nat.reduceAdd, Nat.reduceLT, Nat.reduceLeDiff]
      refine inner _ 0 r4 (Nat.zero_add _) (o4.trans (o3.trans (o2.trans ho))) ?_
      simpa [lns, List.append_assoc] using hR4
  simp only [e_X6_pack, u_X6_pack_0, u_X6_pack_1, u_X6_pack_3, u_X6_pack_4, u_X6_pack_10, u_X6_pack_11, u_X6_pack_13, u_X6_pack_17, u_X6_pack_18, u_X6_pack_19, u_X6_pack_23, u_X6_pack_25, u_X6_pack_29, u_X6_pack_31, u_X6_pack_33, u_X6_pack_34, u_X6_pack_35, u_X6_pack_41, u_X6_pack_42, u_X6_pack_43, u_X6_pack_45, u_X6_pack_46, u_X6_pack_52, u_X6_pack_55, u_X6_pack_56, u_X6_pack_58, u_X6_pack_62, u_X6_pack_64, u_X6_pack_68, u_X6_pack_70, u_X6_pack_76, u_X6_pack_79, sa_put, sa_sel, sa_split, so_aload, so_goto, so_iload, so_istore, so_push, so_ret, so_stat, so_virt, sa_nth, List.cons_append, List.nil_append, Nat.reduceEqDiff, Option.toList_none, Option.toList_some, if_false, if_true, reduceIte, or_true, true_or, z10, z00, true_imp_iff, false_imp_iff, not_false_eq_true, not_true_eq_false, true_and, and_true, Nat.zero_le, Nat.sub_zero, List.length_cons, List.length_nil, Nat.reduceAdd, Nat.reduceLT, Nat.reduceLeDiff]
  exact loop _ 0 r _ (Nat.zero_add _) rfl hR
end LPK
