/-! FORM 2 READ: what comes out -/
abbrev isSg (c : Int32) : Prop := 33 ≤ c ∧ c ≤ 96
def sv (c : Int32) : Nat := (c.toNatClampNeg - 32) % 64
theorem isSg_n {c : Int32} (h : isSg c) : ∃ m, c = nI m ∧ 33 ≤ m ∧ m ≤ 96 ∧ sv c = (m - 32) % 64 := by
  have h0 : ¬ c < 0 := by
    rw [i32_nlt]
    have := h.1
    rw [Int32.le_iff_toInt_le] at this ⊢
    exact Int.le_trans (by decide) this
  obtain ⟨m, hm, rfl⟩ := nI_of h0
  refine ⟨m, rfl, (nI_leI (a := 33) (by omega) hm).mp h.1, (nI_leI (b := 96) hm (by omega)).mp h.2, ?_⟩
  unfold sv
  rw [nI_clamp hm]
theorem sv_lt (c : Int32) : sv c < 64 := Nat.mod_lt _ (by omega)
def fourS (l : List Int32) : Nat → Nat → Nat → rX (Nat × Nat)
  | 0, p, v => .inl (v, p)
  | n + 1, p, v => if isSg (pk l p) then fourS l n (p + 1) (64 * v + sv (pk l p)) else rf l p
def bt (v j : Nat) : Int32 := (nI v >>> ((16 - 8 * nI j) &&& 31)) &&& 255
def sgS (l : List Int32) (n : Nat) : Nat → Nat → Nat → List Int32 → rX (List Int32 × Nat)
  | 0, _, p, acc => .inl (acc, p)
  | g + 1, k, p, acc => rX.b (fourS l 4 p 0) (fun x => sgS l n g (k + 3) x.2 (acc ++ (List.range (min 3 (n - k))).map (bt x.1)))
def lnS (l : List Int32) : Nat → Nat → Nat → List Int32 → rX (List Int32 × Nat)
  | 0, _, p, _ => rf l p
  | f + 1, before, p, acc => if ¬ isSg (pk l p) ∨ 15 < sv (pk l p) then rf l p else if 0 < sv (pk l p) ∧ (before < 15 ∨ 60 < acc.length + sv (pk l p)) then rf l p else if sv (pk l p) = 0 then .inl (acc, p + 1) else
      rX.b (sgS l (sv (pk l p)) ((sv (pk l p) + 2) / 3) 0 (p + 1) acc) (fun x => rX.b (eS l 10 x.2) (fun p' => lnS l f (sv (pk l p)) p' x.1))
def nmS (l : List Int32) : Nat → Nat → List Int32
  | 0, _ => []
  | n + 1, p => if isL (pk l p) then pk l p :: nmS l n (p + 1) else []
def nm2 (l : List Int32) (p : Nat) : rX Nat := if nmS l 20 p = [] then rf l p else eS l 10 (p + (nmS l 20 p).length)
def r2 (l : List Int32) (p : Nat) : rX ((List Int32 × List Int32) × Nat) :=
  rX.b (eT l (sT 5) p) (fun p1 => rX.b (nm2 l p1) (fun p2 => rX.b (lnS l 61 15 p2 []) (fun x => rX.b (eS l 10 x.2) (fun p4 => rX.b (eT l (sT 6) p4) (fun p5 => .inl ((nmS l 20 p1, x.1), p5))))))
theorem rX.b_inl {α β : Type} {r : rX α} {f : α → rX β} {y : β} (h : rX.b r f = .inl y) : ∃ a, r = .inl a ∧ f a = .inl y := by
  cases r with
  | inl a => exact ⟨a, rfl, h⟩
  | inr e => exact absurd h (by simp [rX.b])
theorem rf_inl {α : Type} {l : List Int32} {p : Nat} {y : α} (h : (rf l p : rX α) = .inl y) : False := by
  obtain ⟨k, q, e⟩ := rf_no (α := α) l p
  rw [e] at h; exact absurd h (by simp)
theorem isSg_lt {l : List Int32} {p : Nat} (h : isSg (pk l p)) : p < l.length := pe_lt (fun c => absurd h (by rw [c]; decide))
theorem isL_lt {l : List Int32} {p : Nat} (h : isL (pk l p)) : p < l.length := pe_lt (fun c => absurd h (by rw [c]; decide))
theorem fourS_ok {l : List Int32} : ∀ {n p v : Nat} {x : Nat × Nat}, p ≤ l.length → fourS l n p v = .inl x → x.2 = p + n ∧ x.2 ≤ l.length ∧ x.1 < (v + 1) * 64 ^ n
  | 0, p, v, x, hp, h => by
    have := Sum.inl.inj h
    subst this
    exact ⟨rfl, hp, by show v < (v + 1) * 1; omega⟩
  | n + 1, p, v, x, hp, h => by
    unfold fourS at h
    split at h
    · next q =>
      have hlt := isSg_lt q
      have := fourS_ok (n := n) (p := p + 1) (v := 64 * v + sv (pk l p)) (x := x) (by omega) h
      have hs := sv_lt (pk l p)
      refine ⟨by omega, this.2.1, Nat.lt_of_lt_of_le this.2.2 ?_⟩
      rw [Nat.pow_succ, Nat.mul_comm (64 ^ n) 64, ← Nat.mul_assoc]
      exact Nat.mul_le_mul_right _ (by omega)
    · exact absurd (rf_inl h) id
theorem sgS_ok {l : List Int32} {n : Nat} : ∀ {g k p : Nat} {acc : List Int32} {x : List Int32 × Nat}, p ≤ l.length → g = (n - k + 2) / 3 → sgS l n g k p acc = .inl x → x.2 = p + 4 * g ∧ x.2 ≤ l.length ∧ x.1.length = acc.length + (n - k)
  | 0, k, p, acc, x, hp, hg, h => by
    have := Sum.inl.inj h
    subst this
    exact ⟨rfl, hp, by show acc.length = _; omega⟩
  | g + 1, k, p, acc, x, hp, hg, h => by
    unfold sgS at h
    obtain ⟨y, h1, h2⟩ := rX.b_inl h
    obtain ⟨e1, e2, -⟩ := fourS_ok hp h1
    have := sgS_ok (g := g) (k := k + 3) (p := y.2) e2 (by omega) h2
    rw [List.length_append, List.length_map, List.length_range] at this
    omega
theorem lnS_ok {l : List Int32} : ∀ {f b p : Nat} {acc : List Int32} {x : List Int32 × Nat}, p ≤ l.length → acc.length ≤ 60 → lnS l f b p acc = .inl x → p + 1 ≤ x.2 ∧ x.2 ≤ l.length ∧ x.1.length ≤ 60 ∧ x.1.length + p ≤ acc.length + x.2
  | 0, b, p, acc, x, hp, ha, h => absurd (rf_inl h) id
  | f + 1, b, p, acc, x, hp, ha, h => by
    unfold lnS at h
    split at h
    · exact absurd (rf_inl h) id
    · next q1 =>
      have hsg : isSg (pk l p) := Classical.byContradiction (fun c => q1 (Or.inl c))
      have hlt := isSg_lt hsg
      have h15 : ¬ 15 < sv (pk l p) := fun c => q1 (Or.inr c)
      split at h
      · exact absurd (rf_inl h) id
      · next q2 =>
        split at h
        · have := Sum.inl.inj h
          subst this
          refine ⟨Nat.le_refl _, by omega, ha, by show acc.length + p ≤ acc.length + (p + 1); omega⟩
        · next q3 =>
          obtain ⟨y, h1, h2⟩ := rX.b_inl h
          obtain ⟨e1, e2, e3⟩ := sgS_ok (by omega) (by omega) h1
          obtain ⟨p', h3, h4⟩ := rX.b_inl h2
          obtain ⟨-, e4, e5⟩ := eS_ok h3
          have hle : ¬ 60 < acc.length + sv (pk l p) := fun c => q2 ⟨by omega, Or.inr c⟩
          have := lnS_ok (f := f) (p := p') (acc := y.1) (by omega) (by omega) h4
          omega
theorem nmS_le (l : List Int32) : ∀ n p, p ≤ l.length → (nmS l n p).length ≤ n ∧ p + (nmS l n p).length ≤ l.length
  | 0, p, hp => ⟨Nat.le_refl _, hp⟩
  | n + 1, p, hp => by
    unfold nmS
    split
    · next q =>
      have hlt := isL_lt q
      have := nmS_le l n (p + 1) (by omega)
      rw [List.length_cons]
      omega
    · exact ⟨by simp, by simpa using hp⟩
theorem nm2_ok {l : List Int32} {p p' : Nat} (hp : p ≤ l.length) (h : nm2 l p = .inl p') : p + (nmS l 20 p).length + 1 = p' ∧ p' ≤ l.length ∧ nmS l 20 p ≠ [] := by
  unfold nm2 at h
  split at h
  · exact absurd (rf_inl h) id
  · next q =>
    obtain ⟨-, e, e2⟩ := eS_ok h
    exact ⟨by omega, by omega, q⟩
theorem r2_ok {l : List Int32} {p : Nat} {x : (List Int32 × List Int32) × Nat} (hp : p ≤ l.length) (h : r2 l p = .inl x) : x.1.1.length ≤ 20 ∧ x.1.2.length ≤ 60 ∧ p + 12 ≤ x.2 ∧ x.2 ≤ l.length ∧ x.1.2.length + p ≤ x.2 := by
  unfold r2 at h
  obtain ⟨p1, h1, h⟩ := rX.b_inl h
  obtain ⟨p2, h2, h⟩ := rX.b_inl h
  obtain ⟨y, h3, h⟩ := rX.b_inl h
  obtain ⟨p4, h4, h⟩ := rX.b_inl h
  obtain ⟨p5, h5, h⟩ := rX.b_inl h
  have := Sum.inl.inj h
  subst this
  obtain ⟨a1, a2⟩ := eT_ok h1 hp
  obtain ⟨b1, b2, b3⟩ := nm2_ok a2 h2
  obtain ⟨c1, c2, c3, c4⟩ := lnS_ok b2 (by simp) h3
  obtain ⟨-, d1, d2⟩ := eS_ok h4
  obtain ⟨e1, e2⟩ := eT_ok h5 (by omega)
  have hn := nmS_le l 20 p1 a2
  rw [sT5] at a1
  rw [sT6] at e1
  have hpos : 0 < (nmS l 20 p1).length := List.length_pos_iff.mpr b3
  simp only [List.length_cons, List.length_nil] at a1 e1 c4
  dsimp only
  omega
section LRD
variable {F : gF} {R D2 : sB_T} {E : gE} {cu hd : gC} {t : gI} {A : gA} {o : Nat → Int64} {l : List Int32} {p : Nat} {a : Int32} {Q : sa_Q} {N D : List (List Int32)} {w d : List Int32} {B U K O : List Int32}
theorem k_X6_signAt (hR : sB_R 1500 R l) (hp : p ≤ l.length) (h1 : isSg (pk l p) → Q (some (.inl (nI (sv (pk l p))))) (mkH F R D2 E (cS l a (.inl p)) hd t A o)) (h0 : ¬ isSg (pk l p) → Q (some (.inl (-1))) (mkH F R D2 E (cS l a (.inl p)) hd t A o)) : ct_X6_signAt 0 0 [.inr (.inl (some 24))] (mkH F R D2 E (cS l a (.inl p)) hd t A o) Q := by
  simp only [e_X6_signAt, u_X6_signAt_0, u_X6_signAt_1, u_X6_signAt_5, u_X6_signAt_6, u_X6_signAt_8, u_X6_signAt_11, u_X6_signAt_12, u_X6_signAt_14, u_X6_signAt_17, u_X6_signAt_18, u_X6_signAt_20, u_X6_signAt_21, u_X6_signAt_23, u_X6_signAt_24, u_X6_signAt_27, u_X6_signAt_28, sa_sel, sa_split, so_aload, so_bin, so_cmp, so_goto, so_iload, so_iret, so_push, so_virt, sa_nth, c24, List.cons_append, List.nil_append, Nat.reduceEqDiff, Option.toList_none, Option.toList_some, if_false, if_true, reduceIte, or_true, true_or, z10, z00, true_imp_iff, false_imp_iff, not_false_eq_true, not_true_eq_false, true_and, and_true, Nat.zero_le, Nat.sub_zero, List.length_cons, List.length_nil, Nat.reduceAdd, Nat.reduceLT, Nat.reduceLeDiff]
  refine k_X1_peek hR hp ?_
  simp only [u_X6_signAt_0, u_X6_signAt_1, u_X6_signAt_4, u_X6_signAt_5, u_X6_signAt_6, u_X6_signAt_8, u_X6_signAt_11, u_X6_signAt_12, u_X6_signAt_14, u_X6_signAt_17, u_X6_signAt_18, u_X6_signAt_20, u_X6_signAt_21, u_X6_signAt_23, u_X6_signAt_24, u_X6_signAt_27, u_X6_signAt_28, sa_put, sa_sel, sa_split, so_aload, so_bin, so_cmp, so_goto, so_iload, so_iret, so_istore, so_push, so_virt, sa_nth, List.cons_append, List.nil_append, Nat.reduceEqDiff, Option.toList_none, Option.toList_some, if_false, if_true, reduceIte, or_true, true_or, z10, z00, true_imp_iff, false_imp_iff, not_false_eq_true, not_true_eq_false, true_and, and_true, Nat.zero_le, Nat.sub_zero, List.length_cons, List.length_nil, Nat.reduceAdd, Nat.reduceLT, Nat.reduceLeDiff]
  refine ⟨fun q => h0 (fun b => ?_), fun q => ⟨fun q1 => h0 (fun b => ?_), fun q1 => ?_⟩⟩
  · have := b.1; rw [← i32_nlt] at this; exact this q
  · have := b.2; rw [← i32_nlt] at this; exact this q1
  · have hs : isSg (pk l p) := ⟨by rw [← i32_nlt]; exact q, by rw [← i32_nlt]; exact q1⟩
    obtain ⟨m, e, b1, b2, b3⟩ := isSg_n hs
    have := h1 hs
    rw [b3] at this
    rw [e, show (32 : Int32) = nI 32 from rfl, pk_sub (by omega), show nI (m - 32) &&& 63 = nI ((m - 32) % 64) from pk_andN (by omega) (m := 63) 6 (by decide)]
    exact this
theorem k_X6_unpackSigns (hR : sB_R 1500 R l) (hp : p ≤ l.length) {n : Nat} (hn : n ≤ 15) (hE : sE_R E N (D ++ [d]) B U K O) (hlt : D.flatten.length + d.length ≤ p) (h1 : ∀ a E' x, sgS l n ((n + 2) / 3) 0 p d = .inl x → sE_R E' N (D ++ [x.1]) B U K O → Q (some (.inl 1)) (mkH F R D2 E' (cS l a (.inl x.2)) hd t A o)) (h0 : ∀ a E' d' e, sgS l n ((n + 2) / 3) 0 p d = .inr e → sE_R E' N (D ++ [d']) B U K O → Q (some (.inl 0)) (mkH F R D2 E' (cS l a (.inr e)) hd t A o)) : ct_X6_unpackSigns 0 0 [.inr (.inl (some 24)), .inr (.inl (some 13)), .inl (nI n)] (mkH F R D2 E (cS l a (.inl p)) hd t A o) Q := by
  have hl := hR.2.1
  have outer : ∀ (g i p1 : Nat) (d1 : List Int32) (E1 : gE) (a : Int32) (o4 o5 o6 : Option sa_V), i + g = (n + 2) / 3 → p1 ≤ l.length → sE_R E1 N (D ++ [d1]) B U K O → D.flatten.length + d1.length ≤ p1 → sgS l n ((n + 2) / 3) 0 p d = sgS l n g (3 * i) p1 d1 → sa_w tb_X6_unpackSigns (2, [some (.inr (.inl (some 24))), some (.inr (.inl (some 13))), some (.inl (nI n)), some (.inl (nI (3 * i))), o4, o5, o6], [], mkH F R D2 E1 (cS l a (.inl p1)) hd t A o, 0, 0) Q := by
    intro g
    induction g with
    | zero =>
      intro i p1 d1 E1 a o4 o5 o6 hg hp1 hE1 hlt1 he
      rw [u_X6_unpackSigns_2]
      simp only [u_X6_unpackSigns_0, u_X6_unpackSigns_1, u_X6_unpackSigns_3, u_X6_unpackSigns_4, u_X6_unpackSigns_7, u_X6_unpackSigns_8, u_X6_unpackSigns_10, u_X6_unpackSigns_11, u_X6_unpackSigns_15, u_X6_unpackSigns_16, u_X6_unpackSigns_19, u_X6_unpackSigns_20, u_X6_unpackSigns_25, u_X6_unpackSigns_27, u_X6_unpackSigns_28, u_X6_unpackSigns_31, u_X6_unpackSigns_32, u_X6_unpackSigns_36, u_X6_unpackSigns_37, u_X6_unpackSigns_41, u_X6_unpackSigns_43, u_X6_unpackSigns_45, u_X6_unpackSigns_46, u_X6_unpackSigns_48, u_X6_unpackSigns_49, u_X6_unpackSigns_51, u_X6_unpackSigns_54, u_X6_unpackSigns_57, u_X6_unpackSigns_58, u_X6_unpackSigns_62, u_X6_unpackSigns_63, u_X6_unpackSigns_66, u_X6_unpackSigns_67, u_X6_unpackSigns_69, u_X6_unpackSigns_70, u_X6_unpackSigns_71, u_X6_unpackSigns_74, u_X6_unpackSigns_75, u_X6_unpackSigns_77, u_X6_unpackSigns_79, u_X6_unpackSigns_81, u_X6_unpackSigns_83, u_X6_unpackSigns_84, u_X6_unpackSigns_85, u_X6_unpackSigns_86, u_X6_unpackSigns_89, u_X6_unpackSigns_90, u_X6_unpackSigns_96, u_X6_unpackSigns_99, u_X6_unpackSigns_102, u_X6_unpackSigns_105, u_X6_unpackSigns_106, sa_put, sa_sel, sa_split, so_aload, so_bin, so_cmp, so_goto, so_iinc, so_iload, so_istore, so_push, so_stat, so_virt, so_zret, sa_nth, List.cons_append, List.nil_append, Nat.reduceEqDiff, Option.toList_none, Option.toList_some, if_false, if_true, reduceIte, or_true, true_or, z10, z00, true_imp_iff, false_imp_iff, not_false_eq_true, not_true_eq_false, true_and, and_true, Nat.zero_le, Nat.sub_zero, List.length_cons, List.length_nil, Nat.reduceAdd, Nat.reduceLT, Nat.reduceLeDiff]
      rw [nI_leI (by omega) (by omega)]
      refine ⟨fun _ => ?_, fun q => absurd (by omega) q⟩
      exact h1 a E1 (d1, p1) he hE1
    | succ g ih =>
      intro i p1 d1 E1 a o4 o5 o6 hg hp1 hE1 hlt1 he
      change sgS l n ((n + 2) / 3) 0 p d = rX.b (fourS l 4 p1 0) (fun x => sgS l n g (3 * i + 3) x.2 (d1 ++ (List.range (min 3 (n - 3 * i))).map (bt x.1))) at he
      -- the bytes of a group
      have byt : ∀ (x : Nat × Nat), fourS l 4 p1 0 = .inl x → x.2 = p1 + 4 → x.2 ≤ l.length → ∀ (m j : Nat) (E2 : gE) (a : Int32) (o6 : Option sa_V), j + m = min 3 (n - 3 * i) → sE_R E2 N (D ++ [d1 ++ (List.range j).map (bt x.1)]) B U K O → sa_w tb_X6_unpackSigns (60, [some (.inr (.inl (some 24))), some (.inr (.inl (some 13))), some (.inl (nI n)), some (.inl (nI (3 * i))), some (.inl (nI x.1)), some (.inl (nI j)), o6], [], mkH F R D2 E2 (cS l a (.inl x.2)) hd t A o, 0, 0) Q := by
        intro x hx hx2 hxl m
        induction m with
        | zero =>
          intro j E2 a o6 hj hE2
          have go : sa_w tb_X6_unpackSigns (2, [some (.inr (.inl (some 24))), some (.inr (.inl (some 13))), some (.inl (nI n)), some (.inl (nI (3 * i) + 3)), some (.inl (nI x.1)), some (.inl (nI j)), o6], [], mkH F R D2 E2 (cS l a (.inl x.2)) hd t A o, 0, 0) Q := by
            rw [show (3 : Int32) = nI 3 from rfl, nI_add (3 * i) 3, show 3 * i + 3 = 3 * (i + 1) by omega]
            refine ih (i + 1) x.2 _ E2 a _ _ _ (by omega) hxl hE2 ?_ ?_
            · rw [List.length_append, List.length_map, List.length_range]; omega
            · rw [he, hx, rX.b_ok, ← hj]
              rfl
          rw [u_X6_unpackSigns_60]
          simp only [u_X6_unpackSigns_0, u_X6_unpackSigns_1, u_X6_unpackSigns_3, u_X6_unpackSigns_4, u_X6_unpackSigns_7, u_X6_unpackSigns_8, u_X6_unpackSigns_10, u_X6_unpackSigns_11, u_X6_unpackSigns_13, u_X6_unpackSigns_15, u_X6_unpackSigns_16, u_X6_unpackSigns_19, u_X6_unpackSigns_20, u_X6_unpackSigns_25, u_X6_unpackSigns_27, u_X6_unpackSigns_28, u_X6_unpackSigns_31, u_X6_unpackSigns_32, u_X6_unpackSigns_36, u_X6_unpackSigns_37, u_X6_unpackSigns_41, u_X6_unpackSigns_43, u_X6_unpackSigns_45, u_X6_unpackSigns_46, u_X6_unpackSigns_48, u_X6_unpackSigns_49, u_X6_unpackSigns_51, u_X6_unpackSigns_54, u_X6_unpackSigns_57, u_X6_unpackSigns_58, u_X6_unpackSigns_62, u_X6_unpackSigns_63, u_X6_unpackSigns_66, u_X6_unpackSigns_67, u_X6_unpackSigns_69, u_X6_unpackSigns_70, u_X6_unpackSigns_71, u_X6_unpackSigns_74, u_X6_unpackSigns_75, u_X6_unpackSigns_77, u_X6_unpackSigns_79, u_X6_unpackSigns_81, u_X6_unpackSigns_83, u_X6_unpackSigns_84, u_X6_unpackSigns_85, u_X6_unpackSigns_86, u_X6_unpackSigns_89, u_X6_unpackSigns_90, u_X6_unpackSigns_96, u_X6_unpackSigns_99, u_X6_unpackSigns_102, u_X6_unpackSigns_105, u_X6_unpackSigns_106, sa_put, sa_sel, sa_split, so_aload, so_bin, so_cmp, so_goto, so_iinc, so_iload, so_istore, so_push, so_stat, so_virt, so_zret, sa_nth, List.cons_append, List.nil_append, Nat.reduceEqDiff, Option.toList_none, Option.toList_some, if_false, if_true, reduceIte, or_true, true_or, z10, z00, true_imp_iff, false_imp_iff, not_false_eq_true, not_true_eq_false, true_and, and_true, Nat.zero_le, Nat.sub_zero, List.length_cons, List.length_nil, Nat.reduceAdd, Nat.reduceLT, Nat.reduceLeDiff]
          rw [show (3 : Int32) = nI 3 from rfl, nI_leI (by omega) (by omega), nI_add (3 * i) j, nI_leI (by omega) (by omega)]
          refine ⟨fun _ => go, fun q => ⟨fun _ => go, fun q1 => absurd (by omega) q1⟩⟩
        | succ m ihm =>
          intro j E2 a o6 hj hE2
          rw [u_X6_unpackSigns_60]
          simp only [u_X6_unpackSigns_0, u_X6_unpackSigns_1, u_X6_unpackSigns_3, u_X6_unpackSigns_4, u_X6_unpackSigns_7, u_X6_unpackSigns_8, u_X6_unpackSigns_10, u_X6_unpackSigns_11, u_X6_unpackSigns_13, u_X6_unpackSigns_15, u_X6_unpackSigns_16, u_X6_unpackSigns_19, u_X6_unpackSigns_20, u_X6_unpackSigns_25, u_X6_unpackSigns_27, u_X6_unpackSigns_28, u_X6_unpackSigns_31, u_X6_unpackSigns_32, u_X6_unpackSigns_36, u_X6_unpackSigns_37, u_X6_unpackSigns_41, u_X6_unpackSigns_43, u_X6_unpackSigns_45, u_X6_unpackSigns_46, u_X6_unpackSigns_48, u_X6_unpackSigns_49, u_X6_unpackSigns_51, u_X6_unpackSigns_54, u_X6_unpackSigns_57, u_X6_unpackSigns_58, u_X6_unpackSigns_62, u_X6_unpackSigns_63, u_X6_unpackSigns_66, u_X6_unpackSigns_67, u_X6_unpackSigns_69, u_X6_unpackSigns_70, u_X6_unpackSigns_71, u_X6_unpackSigns_74, u_X6_unpackSigns_75, u_X6_unpackSigns_77, u_X6_unpackSigns_79, u_X6_unpackSigns_81, u_X6_unpackSigns_83, u_X6_unpackSigns_84, u_X6_unpackSigns_85, u_X6_unpackSigns_86, u_X6_unpackSigns_89, u_X6_unpackSigns_90, u_X6_unpackSigns_96, u_X6_unpackSigns_99, u_X6_unpackSigns_102, u_X6_unpackSigns_105, u_X6_unpackSigns_106, sa_put, sa_sel, sa_split, so_aload, so_bin, so_cmp, so_goto, so_iinc, so_iload, so_istore, so_push, so_stat, so_virt, so_zret, sa_nth, c13, List.cons_append, List.nil_append, Nat.reduceEqDiff, Option.toList_none, Option.toList_some, if_false, if_true, reduceIte, or_true, true_or, z10, z00, true_imp_iff, false_imp_iff, not_false_eq_true, not_true_eq_false, true_and, and_true, Nat.zero_le, Nat.sub_zero, List.length_cons, List.length_nil, Nat.reduceAdd, Nat.reduceLT, Nat.reduceLeDiff]
          rw [show (3 : Int32) = nI 3 from rfl, nI_leI (by omega) (by omega), nI_add (3 * i) j, nI_leI (by omega) (by omega)]
          refine ⟨fun q => absurd q (by omega), fun _ => ⟨fun q => absurd q (by omega), fun _ => ?_⟩⟩
          refine kE_addData (mk_E F R D2 _ hd t A o) hE2 ?_ _ (fun E3 hE3 => ?_)
          · rw [List.length_append, List.length_map, List.length_range]; omega
          simp only [u_X6_unpackSigns_0, u_X6_unpackSigns_1, u_X6_unpackSigns_3, u_X6_unpackSigns_4, u_X6_unpackSigns_7, u_X6_unpackSigns_8, u_X6_unpackSigns_10, u_X6_unpackSigns_11, u_X6_unpackSigns_13, u_X6_unpackSigns_15, u_X6_unpackSigns_16, u_X6_unpackSigns_19, u_X6_unpackSigns_20, u_X6_unpackSigns_25, u_X6_unpackSigns_27, u_X6_unpackSigns_28, u_X6_unpackSigns_31, u_X6_unpackSigns_32, u_X6_unpackSigns_36, u_X6_unpackSigns_37, u_X6_unpackSigns_41, u_X6_unpackSigns_43, u_X6_unpackSigns_45, u_X6_unpackSigns_46, u_X6_unpackSigns_48, u_X6_unpackSigns_49, u_X6_unpackSigns_51, u_X6_unpackSigns_54, u_X6_unpackSigns_57, u_X6_unpackSigns_58, u_X6_unpackSigns_62, u_X6_unpackSigns_63, u_X6_unpackSigns_66, u_X6_unpackSigns_67, u_X6_unpackSigns_69, u_X6_unpackSigns_70, u_X6_unpackSigns_71, u_X6_unpackSigns_74, u_X6_unpackSigns_75, u_X6_unpackSigns_77, u_X6_unpackSigns_79, u_X6_unpackSigns_81, u_X6_unpackSigns_83, u_X6_unpackSigns_84, u_X6_unpackSigns_85, u_X6_unpackSigns_86, u_X6_unpackSigns_89, u_X6_unpackSigns_90, u_X6_unpackSigns_93, u_X6_unpackSigns_96, u_X6_unpackSigns_99, u_X6_unpackSigns_102, u_X6_unpackSigns_105, u_X6_unpackSigns_106, sa_put, sa_sel, sa_split, so_aload, so_bin, so_cmp, so_goto, so_iinc, so_iload, so_istore, so_push, so_stat, so_virt, so_zret, sa_nth, List.cons_append, List.nil_append, Nat.reduceEqDiff, Option.toList_none, Option.toList_some, if_false, if_true, reduceIte, or_true, true_or, z10, z00, true_imp_iff, false_imp_iff, not_false_eq_true, not_true_eq_false, true_and, and_true, Nat.zero_le, Nat.sub_zero, List.length_cons, List.length_nil, Nat.reduceAdd, Nat.reduceLT, Nat.reduceLeDiff]
          rw [nI_1]
          refine ihm (j + 1) E3 a o6 (by omega) ?_
          rw [List.range_succ, List.map_append, ← List.append_assoc]
          exact hE3
      have four : ∀ (m k p2 v : Nat) (a : Int32) (o6 : Option sa_V), k + m = 4 → p2 ≤ l.length → v < 64 ^ k → fourS l 4 p1 0 = fourS l m p2 v → sa_w tb_X6_unpackSigns (13, [some (.inr (.inl (some 24))), some (.inr (.inl (some 13))), some (.inl (nI n)), some (.inl (nI (3 * i))), some (.inl (nI v)), some (.inl (nI k)), o6], [], mkH F R D2 E1 (cS l a (.inl p2)) hd t A o, 0, 0) Q := by
        intro m
        induction m with
        | zero =>
          intro k p2 v a o6 hk hp2 hv hf
          have hx := hf
          change fourS l 4 p1 0 = .inl (v, p2) at hx
          obtain ⟨e1, e2, -⟩ := fourS_ok hp1 hx
          rw [u_X6_unpackSigns_13]
          simp only [u_X6_unpackSigns_0, u_X6_unpackSigns_1, u_X6_unpackSigns_2, u_X6_unpackSigns_3, u_X6_unpackSigns_4, u_X6_unpackSigns_7, u_X6_unpackSigns_8, u_X6_unpackSigns_10, u_X6_unpackSigns_11, u_X6_unpackSigns_15, u_X6_unpackSigns_16, u_X6_unpackSigns_19, u_X6_unpackSigns_20, u_X6_unpackSigns_25, u_X6_unpackSigns_27, u_X6_unpackSigns_28, u_X6_unpackSigns_31, u_X6_unpackSigns_32, u_X6_unpackSigns_36, u_X6_unpackSigns_37, u_X6_unpackSigns_41, u_X6_unpackSigns_43, u_X6_unpackSigns_45, u_X6_unpackSigns_46, u_X6_unpackSigns_48, u_X6_unpackSigns_49, u_X6_unpackSigns_51, u_X6_unpackSigns_54, u_X6_unpackSigns_57, u_X6_unpackSigns_58, u_X6_unpackSigns_62, u_X6_unpackSigns_63, u_X6_unpackSigns_66, u_X6_unpackSigns_67, u_X6_unpackSigns_69, u_X6_unpackSigns_70, u_X6_unpackSigns_71, u_X6_unpackSigns_74, u_X6_unpackSigns_75, u_X6_unpackSigns_77, u_X6_unpackSigns_79, u_X6_unpackSigns_81, u_X6_unpackSigns_83, u_X6_unpackSigns_84, u_X6_unpackSigns_85, u_X6_unpackSigns_86, u_X6_unpackSigns_89, u_X6_unpackSigns_90, u_X6_unpackSigns_96, u_X6_unpackSigns_99, u_X6_unpackSigns_102, u_X6_unpackSigns_105, u_X6_unpackSigns_106, sa_put, sa_sel, sa_split, so_aload, so_bin, so_cmp, so_goto, so_iinc, so_iload, so_istore, so_push, so_stat, so_virt, so_zret, sa_nth, List.cons_append, List.nil_append, Nat.reduceEqDiff, Option.toList_none, Option.toList_some, if_false, if_true, reduceIte, or_true, true_or, z10, z00, true_imp_iff, false_imp_iff, not_false_eq_true, not_true_eq_false, true_and, and_true, Nat.zero_le, Nat.sub_zero, List.length_cons, List.length_nil, Nat.reduceAdd, Nat.reduceLT, Nat.reduceLeDiff]
          rw [show (4 : Int32) = nI 4 from rfl, nI_leI (by omega) (by omega)]
          refine ⟨fun _ => ?_, fun q => absurd (by omega) q⟩
          exact byt (v, p2) hx e1 e2 _ 0 E1 a _ (Nat.zero_add _) (by simpa using hE1)
        | succ m ihm =>
          intro k p2 v a o6 hk hp2 hv hf
          have hv3 : v < 64 ^ 3 := Nat.lt_of_lt_of_le hv (Nat.pow_le_pow_right (by omega) (by omega))
          rw [u_X6_unpackSigns_13]
          simp only [u_X6_unpackSigns_0, u_X6_unpackSigns_1, u_X6_unpackSigns_2, u_X6_unpackSigns_3, u_X6_unpackSigns_4, u_X6_unpackSigns_7, u_X6_unpackSigns_8, u_X6_unpackSigns_10, u_X6_unpackSigns_11, u_X6_unpackSigns_15, u_X6_unpackSigns_16, u_X6_unpackSigns_19, u_X6_unpackSigns_20, u_X6_unpackSigns_25, u_X6_unpackSigns_27, u_X6_unpackSigns_28, u_X6_unpackSigns_31, u_X6_unpackSigns_32, u_X6_unpackSigns_36, u_X6_unpackSigns_37, u_X6_unpackSigns_41, u_X6_unpackSigns_43, u_X6_unpackSigns_45, u_X6_unpackSigns_46, u_X6_unpackSigns_48, u_X6_unpackSigns_49, u_X6_unpackSigns_51, u_X6_unpackSigns_54, u_X6_unpackSigns_57, u_X6_unpackSigns_58, u_X6_unpackSigns_62, u_X6_unpackSigns_63, u_X6_unpackSigns_66, u_X6_unpackSigns_67, u_X6_unpackSigns_69, u_X6_unpackSigns_70, u_X6_unpackSigns_71, u_X6_unpackSigns_74, u_X6_unpackSigns_75, u_X6_unpackSigns_77, u_X6_unpackSigns_79, u_X6_unpackSigns_81, u_X6_unpackSigns_83, u_X6_unpackSigns_84, u_X6_unpackSigns_85, u_X6_unpackSigns_86, u_X6_unpackSigns_89, u_X6_unpackSigns_90, u_X6_unpackSigns_96, u_X6_unpackSigns_99, u_X6_unpackSigns_102, u_X6_unpackSigns_105, u_X6_unpackSigns_106, sa_put, sa_sel, sa_split, so_aload, so_bin, so_cmp, so_goto, so_iinc, so_iload, so_istore, so_push, so_stat, so_virt, so_zret, sa_nth, List.cons_append, List.nil_append, Nat.reduceEqDiff, Option.toList_none, Option.toList_some, if_false, if_true, reduceIte, or_true, true_or, z10, z00, true_imp_iff, false_imp_iff, not_false_eq_true, not_true_eq_false, true_and, and_true, Nat.zero_le, Nat.sub_zero, List.length_cons, List.length_nil, Nat.reduceAdd, Nat.reduceLT, Nat.reduceLeDiff]
          rw [show (4 : Int32) = nI 4 from rfl, nI_leI (by omega) (by omega)]
          refine ⟨fun q => absurd q (by omega), fun _ => ?_⟩
          refine k_X6_signAt hR hp2 (fun hs => ?_) (fun hs => ?_)
          · have hlt2 := isSg_lt hs
            have hsl := sv_lt (pk l p2)
            simp only [u_X6_unpackSigns_0, u_X6_unpackSigns_1, u_X6_unpackSigns_2, u_X6_unpackSigns_3, u_X6_unpackSigns_4, u_X6_unpackSigns_7, u_X6_unpackSigns_8, u_X6_unpackSigns_10, u_X6_unpackSigns_11, u_X6_unpackSigns_15, u_X6_unpackSigns_16, u_X6_unpackSigns_19, u_X6_unpackSigns_20, u_X6_unpackSigns_23, u_X6_unpackSigns_25, u_X6_unpackSigns_27, u_X6_unpackSigns_28, u_X6_unpackSigns_31, u_X6_unpackSigns_32, u_X6_unpackSigns_36, u_X6_unpackSigns_37, u_X6_unpackSigns_41, u_X6_unpackSigns_43, u_X6_unpackSigns_45, u_X6_unpackSigns_46, u_X6_unpackSigns_48, u_X6_unpackSigns_49, u_X6_unpackSigns_51, u_X6_unpackSigns_54, u_X6_unpackSigns_57, u_X6_unpackSigns_58, u_X6_unpackSigns_62, u_X6_unpackSigns_63, u_X6_unpackSigns_66, u_X6_unpackSigns_67, u_X6_unpackSigns_69, u_X6_unpackSigns_70, u_X6_unpackSigns_71, u_X6_unpackSigns_74, u_X6_unpackSigns_75, u_X6_unpackSigns_77, u_X6_unpackSigns_79, u_X6_unpackSigns_81, u_X6_unpackSigns_83, u_X6_unpackSigns_84, u_X6_unpackSigns_85, u_X6_unpackSigns_86, u_X6_unpackSigns_89, u_X6_unpackSigns_90, u_X6_unpackSigns_96, u_X6_unpackSigns_99, u_X6_unpackSigns_102, u_X6_unpackSigns_105, u_X6_unpackSigns_106, sa_put, sa_sel, sa_split, so_aload, so_bin, so_cmp, so_goto, so_iinc, so_iload, so_istore, so_push, so_stat, so_virt, so_zret, sa_nth, c24, List.cons_append, List.nil_append, Nat.reduceEqDiff, Option.toList_none, Option.toList_some, if_false, if_true, reduceIte, or_true, true_or, z10, z00, true_imp_iff, false_imp_iff, not_false_eq_true, not_true_eq_false, true_and, and_true, Nat.zero_le, Nat.sub_zero, List.length_cons, List.length_nil, Nat.reduceAdd, Nat.reduceLT, Nat.reduceLeDiff]
            refine ⟨fun q => absurd q (nI_ne_m1 (by omega)), fun _ => ?_⟩
            refine k_X1_take hR hlt2 (fun b => ?_)
            simp only [u_X6_unpackSigns_0, u_X6_unpackSigns_1, u_X6_unpackSigns_2, u_X6_unpackSigns_3, u_X6_unpackSigns_4, u_X6_unpackSigns_7, u_X6_unpackSigns_8, u_X6_unpackSigns_10, u_X6_unpackSigns_11, u_X6_unpackSigns_15, u_X6_unpackSigns_16, u_X6_unpackSigns_19, u_X6_unpackSigns_20, u_X6_unpackSigns_25, u_X6_unpackSigns_27, u_X6_unpackSigns_28, u_X6_unpackSigns_31, u_X6_unpackSigns_32, u_X6_unpackSigns_36, u_X6_unpackSigns_37, u_X6_unpackSigns_40, u_X6_unpackSigns_41, u_X6_unpackSigns_43, u_X6_unpackSigns_45, u_X6_unpackSigns_46, u_X6_unpackSigns_48, u_X6_unpackSigns_49, u_X6_unpackSigns_51, u_X6_unpackSigns_54, u_X6_unpackSigns_57, u_X6_unpackSigns_58, u_X6_unpackSigns_62, u_X6_unpackSigns_63, u_X6_unpackSigns_66, u_X6_unpackSigns_67, u_X6_unpackSigns_69, u_X6_unpackSigns_70, u_X6_unpackSigns_71, u_X6_unpackSigns_74, u_X6_unpackSigns_75, u_X6_unpackSigns_77, u_X6_unpackSigns_79, u_X6_unpackSigns_81, u_X6_unpackSigns_83, u_X6_unpackSigns_84, u_X6_unpackSigns_85, u_X6_unpackSigns_86, u_X6_unpackSigns_89, u_X6_unpackSigns_90, u_X6_unpackSigns_96, u_X6_unpackSigns_99, u_X6_unpackSigns_102, u_X6_unpackSigns_105, u_X6_unpackSigns_106, sa_put, sa_sel, sa_split, so_aload, so_bin, so_cmp, so_goto, so_iinc, so_iload, so_istore, so_pop, so_push, so_stat, so_virt, so_zret, sa_nth, List.cons_append, List.nil_append, Nat.reduceEqDiff, Option.toList_none, Option.toList_some, if_false, if_true, reduceIte, or_true, true_or, z10, z00, true_imp_iff, false_imp_iff, not_false_eq_true, not_true_eq_false, true_and, and_true, Nat.zero_le, Nat.sub_zero, List.length_cons, List.length_nil, Nat.reduceAdd, Nat.reduceLT, Nat.reduceLeDiff]
            rw [show (6 : Int32) &&& 31 = 6 by decide, pk_shlN 6 6 (by decide) (by omega), or_add _ _ 6 (by omega) (by omega), nI_1]
            refine ihm (k + 1) (p2 + 1) _ b _ (by omega) (by omega) ?_ ?_
            · rw [Nat.pow_succ]; omega
            · rw [hf]
              show (if isSg (pk l p2) then fourS l m (p2 + 1) (64 * v + sv (pk l p2)) else _) = _
              rw [if_pos hs, Nat.mul_comm 64 v]
          · simp only [u_X6_unpackSigns_0, u_X6_unpackSigns_1, u_X6_unpackSigns_2, u_X6_unpackSigns_3, u_X6_unpackSigns_4, u_X6_unpackSigns_7, u_X6_unpackSigns_8, u_X6_unpackSigns_10, u_X6_unpackSigns_11, u_X6_unpackSigns_15, u_X6_unpackSigns_16, u_X6_unpackSigns_19, u_X6_unpackSigns_20, u_X6_unpackSigns_23, u_X6_unpackSigns_25, u_X6_unpackSigns_27, u_X6_unpackSigns_28, u_X6_unpackSigns_31, u_X6_unpackSigns_32, u_X6_unpackSigns_36, u_X6_unpackSigns_37, u_X6_unpackSigns_41, u_X6_unpackSigns_43, u_X6_unpackSigns_45, u_X6_unpackSigns_46, u_X6_unpackSigns_48, u_X6_unpackSigns_49, u_X6_unpackSigns_51, u_X6_unpackSigns_54, u_X6_unpackSigns_57, u_X6_unpackSigns_58, u_X6_unpackSigns_62, u_X6_unpackSigns_63, u_X6_unpackSigns_66, u_X6_unpackSigns_67, u_X6_unpackSigns_69, u_X6_unpackSigns_70, u_X6_unpackSigns_71, u_X6_unpackSigns_74, u_X6_unpackSigns_75, u_X6_unpackSigns_77, u_X6_unpackSigns_79, u_X6_unpackSigns_81, u_X6_unpackSigns_83, u_X6_unpackSigns_84, u_X6_unpackSigns_85, u_X6_unpackSigns_86, u_X6_unpackSigns_89, u_X6_unpackSigns_90, u_X6_unpackSigns_96, u_X6_unpackSigns_99, u_X6_unpackSigns_102, u_X6_unpackSigns_105, u_X6_unpackSigns_106, sa_put, sa_sel, sa_split, so_aload, so_bin, so_cmp, so_goto, so_iinc, so_iload, so_istore, so_push, so_stat, so_virt, so_zret, sa_nth, c24, List.cons_append, List.nil_append, Nat.reduceEqDiff, Option.toList_none, Option.toList_some, if_false, if_true, reduceIte, or_true, true_or, z10, z00, true_imp_iff, false_imp_iff, not_false_eq_true, not_true_eq_false, true_and, and_true, Nat.zero_le, Nat.sub_zero, List.length_cons, List.length_nil, Nat.reduceAdd, Nat.reduceLT, Nat.reduceLeDiff]
            refine k_X1_refuseHere hp2 hl (fun b => ?_)
            simp only [u_X6_unpackSigns_0, u_X6_unpackSigns_1, u_X6_unpackSigns_2, u_X6_unpackSigns_3, u_X6_unpackSigns_4, u_X6_unpackSigns_7, u_X6_unpackSigns_8, u_X6_unpackSigns_10, u_X6_unpackSigns_11, u_X6_unpackSigns_15, u_X6_unpackSigns_16, u_X6_unpackSigns_19, u_X6_unpackSigns_20, u_X6_unpackSigns_25, u_X6_unpackSigns_27, u_X6_unpackSigns_28, u_X6_unpackSigns_31, u_X6_unpackSigns_32, u_X6_unpackSigns_35, u_X6_unpackSigns_36, u_X6_unpackSigns_37, u_X6_unpackSigns_41, u_X6_unpackSigns_43, u_X6_unpackSigns_45, u_X6_unpackSigns_46, u_X6_unpackSigns_48, u_X6_unpackSigns_49, u_X6_unpackSigns_51, u_X6_unpackSigns_54, u_X6_unpackSigns_57, u_X6_unpackSigns_58, u_X6_unpackSigns_62, u_X6_unpackSigns_63, u_X6_unpackSigns_66, u_X6_unpackSigns_67, u_X6_unpackSigns_69, u_X6_unpackSigns_70, u_X6_unpackSigns_71, u_X6_unpackSigns_74, u_X6_unpackSigns_75, u_X6_unpackSigns_77, u_X6_unpackSigns_79, u_X6_unpackSigns_81, u_X6_unpackSigns_83, u_X6_unpackSigns_84, u_X6_unpackSigns_85, u_X6_unpackSigns_86, u_X6_unpackSigns_89, u_X6_unpackSigns_90, u_X6_unpackSigns_96, u_X6_unpackSigns_99, u_X6_unpackSigns_102, u_X6_unpackSigns_105, u_X6_unpackSigns_106, sa_put, sa_sel, sa_split, so_aload, so_bin, so_cmp, so_goto, so_iinc, so_iload, so_istore, so_push, so_stat, so_virt, so_zret, sa_nth, List.cons_append, List.nil_append, Nat.reduceEqDiff, Option.toList_none, Option.toList_some, if_false, if_true, reduceIte, or_true, true_or, z10, z00, true_imp_iff, false_imp_iff, not_false_eq_true, not_true_eq_false, true_and, and_true, Nat.zero_le, Nat.sub_zero, List.length_cons, List.length_nil, Nat.reduceAdd, Nat.reduceLT, Nat.reduceLeDiff]
            have hr : sgS l n ((n + 2) / 3) 0 p d = rf l p2 := by
              rw [he, hf]
              show rX.b (if isSg (pk l p2) then _ else rf l p2) _ = _
              rw [if_neg hs]
              unfold rf
              split <;> rfl
            unfold rf at hr ⊢
            split at hr
            · next z => rw [if_pos z]; exact h0 b E1 d1 _ hr hE1
            · next z => rw [if_neg z]; exact h0 b E1 d1 _ hr hE1
      rw [u_X6_unpackSigns_2]
      simp only [u_X6_unpackSigns_0, u_X6_unpackSigns_1, u_X6_unpackSigns_3, u_X6_unpackSigns_4, u_X6_unpackSigns_7, u_X6_unpackSigns_8, u_X6_unpackSigns_10, u_X6_unpackSigns_11, u_X6_unpackSigns_15, u_X6_unpackSigns_16, u_X6_unpackSigns_19, u_X6_unpackSigns_20, u_X6_unpackSigns_25, u_X6_unpackSigns_27, u_X6_unpackSigns_28, u_X6_unpackSigns_31, u_X6_unpackSigns_32, u_X6_unpackSigns_36, u_X6_unpackSigns_37, u_X6_unpackSigns_41, u_X6_unpackSigns_43, u_X6_unpackSigns_45, u_X6_unpackSigns_46, u_X6_unpackSigns_48, u_X6_unpackSigns_49, u_X6_unpackSigns_51, u_X6_unpackSigns_54, u_X6_unpackSigns_57, u_X6_unpackSigns_58, u_X6_unpackSigns_62, u_X6_unpackSigns_63, u_X6_unpackSigns_66, u_X6_unpackSigns_67, u_X6_unpackSigns_69, u_X6_unpackSigns_70, u_X6_unpackSigns_71, u_X6_unpackSigns_74, u_X6_unpackSigns_75, u_X6_unpackSigns_77, u_X6_unpackSigns_79, u_X6_unpackSigns_81, u_X6_unpackSigns_83, u_X6_unpackSigns_84, u_X6_unpackSigns_85, u_X6_unpackSigns_86, u_X6_unpackSigns_89, u_X6_unpackSigns_90, u_X6_unpackSigns_96, u_X6_unpackSigns_99, u_X6_unpackSigns_102, u_X6_unpackSigns_105, u_X6_unpackSigns_106, sa_put, sa_sel, sa_split, so_aload, so_bin, so_cmp, so_goto, so_iinc, so_iload, so_istore, so_push, so_stat, so_virt, so_zret, sa_nth, List.cons_append, List.nil_append, Nat.reduceEqDiff, Option.toList_none, Option.toList_some, if_false, if_true, reduceIte, or_true, true_or, z10, z00, true_imp_iff, false_imp_iff, not_false_eq_true, not_true_eq_false, true_and, and_true, Nat.zero_le, Nat.sub_zero, List.length_cons, List.length_nil, Nat.reduceAdd, Nat.reduceLT, Nat.reduceLeDiff]
      rw [nI_leI (by omega) (by omega)]
      refine ⟨fun q => absurd q (by omega), fun _ => ?_⟩
      exact four 4 0 p1 0 a _ rfl hp1 (by decide) rfl
  simp only [e_X6_unpackSigns, u_X6_unpackSigns_0, u_X6_unpackSigns_1, u_X6_unpackSigns_3, u_X6_unpackSigns_4, u_X6_unpackSigns_7, u_X6_unpackSigns_8, u_X6_unpackSigns_10, u_X6_unpackSigns_11, u_X6_unpackSigns_13, u_X6_unpackSigns_15, u_X6_unpackSigns_16, u_X6_unpackSigns_19, u_X6_unpackSigns_20, u_X6_unpackSigns_25, u_X6_unpackSigns_27, u_X6_unpackSigns_28, u_X6_unpackSigns_31, u_X6_unpackSigns_32, u_X6_unpackSigns_36, u_X6_unpackSigns_37, u_X6_unpackSigns_41, u_X6_unpackSigns_43, u_X6_unpackSigns_45, u_X6_unpackSigns_46, u_X6_unpackSigns_48, u_X6_unpackSigns_49, u_X6_unpackSigns_51, u_X6_unpackSigns_54, u_X6_unpackSigns_57, u_X6_unpackSigns_58, u_X6_unpackSigns_60, u_X6_unpackSigns_62, u_X6_unpackSigns_63, u_X6_unpackSigns_66, u_X6_unpackSigns_67, u_X6_unpackSigns_69, u_X6_unpackSigns_70, u_X6_unpackSigns_71, u_X6_unpackSigns_74, u_X6_unpackSigns_75, u_X6_unpackSigns_77, u_X6_unpackSigns_79, u_X6_unpackSigns_81, u_X6_unpackSigns_83, u_X6_unpackSigns_84, u_X6_unpackSigns_85, u_X6_unpackSigns_86, u_X6_unpackSigns_89, u_X6_unpackSigns_90, u_X6_unpackSigns_96, u_X6_unpackSigns_99, u_X6_unpackSigns_102, u_X6_unpackSigns_105, u_X6_unpackSigns_106, sa_put, sa_sel, sa_split, so_aload, so_bin, so_cmp, so_goto, so_iinc, so_iload, so_istore, so_push, so_stat, so_virt, so_zret, sa_nth, List.cons_append, List.nil_append, Nat.reduceEqDiff, Option.toList_none, Option.toList_some, if_false, if_true, reduceIte, or_true, true_or, z10, z00, true_imp_iff, false_imp_iff, not_false_eq_true, not_true_eq_false, true_and, and_true, Nat.zero_le, Nat.sub_zero, List.length_cons, List.length_nil, Nat.reduceAdd, Nat.reduceLT, Nat.reduceLeDiff]
  exact outer _ 0 p d E a _ _ _ (Nat.zero_add _) hp hE hlt rfl
end LRD
/-! FORM 2 READ BY THE CLASS -/
section LR2
variable {F : gF} {R D2 : sB_T} {E : gE} {cu hd : gC} {t : gI} {A : gA} {o : Nat → Int64} {l : List Int32} {p : Nat} {a : Int32} {Q : sa_Q} {N D : List (List Int32)} {w d : List Int32} {B U K O : List Int32}
theorem rf_e {α : Type} (l : List Int32) (p : Nat) : ∃ e, (∀ β : Type, (rf l p : rX β) = .inr e) := by
  unfold rf
  split
  · exact ⟨_, fun _ => rfl⟩
  · exact ⟨_, fun _ => rfl⟩
theorem k_X6_unpackName (hR : sB_R 1500 R l) (hp : p ≤ l.length) (hE : sE_R E (N ++ [[]]) D B U K O) (hN : ∀ l ∈ N, l.length ≤ 20) (h : ∀ a E', sE_R E' (N ++ [nmS l 20 p]) D B U K O → Q (some (.inl (rb (nm2 l p)))) (mkH F R D2 E' (cS l a (nm2 l p)) hd t A o)) : ct_X6_unpackName 0 0 [.inr (.inl (some 24)), .inr (.inl (some 13))] (mkH F R D2 E (cS l a (.inl p)) hd t A o) Q := by
  have hl := hR.2.1
  have fin : ∀ (E1 : gE) (a : Int32) (o2 : Option sa_V), sE_R E1 (N ++ [nmS l 20 p]) D B U K O → sa_w tb_X6_unpackName (32, [some (.inr (.inl (some 24))), some (.inr (.inl (some 13))), o2], [], mkH F R D2 E1 (cS l a (.inl (p + (nmS l 20 p).length))) hd t A o, 0, 0) Q := by
    intro E1 a o2 hE1
    obtain ⟨n1, n2⟩ := nmS_le l 20 p hp
    have hb := hE1.1.2.2.1
    rw [List.length_append, List.length_cons, List.length_nil] at hb
    simp only [u_X6_unpackName_0, u_X6_unpackName_1, u_X6_unpackName_3, u_X6_unpackName_5, u_X6_unpackName_8, u_X6_unpackName_9, u_X6_unpackName_18, u_X6_unpackName_19, u_X6_unpackName_20, u_X6_unpackName_29, u_X6_unpackName_32, u_X6_unpackName_33, u_X6_unpackName_34, u_X6_unpackName_43, u_X6_unpackName_44, u_X6_unpackName_46, u_X6_unpackName_52, u_X6_unpackName_53, sa_put, sa_sel, sa_split, so_aload, so_cmp, so_goto, so_istore, so_push, so_virt, sa_nth, c13, List.cons_append, List.nil_append, Nat.reduceEqDiff, Option.toList_none, Option.toList_some, if_false, if_true, reduceIte, or_true, true_or, z10, z00, true_imp_iff, false_imp_iff, not_false_eq_true, not_true_eq_false, true_and, and_true, Nat.zero_le, Nat.sub_zero, List.length_cons, List.length_nil, Nat.reduceAdd, Nat.reduceLT, Nat.reduceLeDiff]
    refine k_X8_last ((mk_E F R D2 _ hd t A o).1 E1.2.2) hE1.1 ?_
    rw [List.length_append, List.length_cons, List.length_nil, Nat.zero_add, nI_pred]
    simp only [u_X6_unpackName_0, u_X6_unpackName_1, u_X6_unpackName_3, u_X6_unpackName_5, u_X6_unpackName_8, u_X6_unpackName_9, u_X6_unpackName_18, u_X6_unpackName_19, u_X6_unpackName_20, u_X6_unpackName_29, u_X6_unpackName_32, u_X6_unpackName_33, u_X6_unpackName_34, u_X6_unpackName_37, u_X6_unpackName_43, u_X6_unpackName_44, u_X6_unpackName_46, u_X6_unpackName_52, u_X6_unpackName_53, sa_put, sa_sel, sa_split, so_aload, so_cmp, so_goto, so_istore, so_push, so_virt, sa_nth, c13, List.cons_append, List.nil_append, Nat.reduceEqDiff, Option.toList_none, Option.toList_some, if_false, if_true, reduceIte, or_true, true_or, z10, z00, true_imp_iff, false_imp_iff, not_false_eq_true, not_true_eq_false, true_and, and_true, Nat.zero_le, Nat.sub_zero, List.length_cons, List.length_nil, Nat.reduceAdd, Nat.reduceLT, Nat.reduceLeDiff]
    refine k_X8_nameLength ((mk_E F R D2 _ hd t A o).1 E1.2.2) hE1.1 _ ?_
    rw [sS_row_nI (by omega), getD_app_r]
    simp only [u_X6_unpackName_0, u_X6_unpackName_1, u_X6_unpackName_3, u_X6_unpackName_5, u_X6_unpackName_8, u_X6_unpackName_9, u_X6_unpackName_18, u_X6_unpackName_19, u_X6_unpackName_20, u_X6_unpackName_29, u_X6_unpackName_32, u_X6_unpackName_33, u_X6_unpackName_34, u_X6_unpackName_40, u_X6_unpackName_43, u_X6_unpackName_44, u_X6_unpackName_46, u_X6_unpackName_52, u_X6_unpackName_53, sa_put, sa_sel, sa_split, so_aload, so_cmp, so_goto, so_if, so_istore, so_push, so_virt, sa_nth, c24, List.cons_append, List.nil_append, Nat.reduceEqDiff, Option.toList_none, Option.toList_some, if_false, if_true, reduceIte, or_true, true_or, z10, z00, true_imp_iff, false_imp_iff, not_false_eq_true, not_true_eq_false, true_and, and_true, Nat.zero_le, Nat.sub_zero, List.length_cons, List.length_nil, Nat.reduceAdd, Nat.reduceLT, Nat.reduceLeDiff]
    refine ⟨fun q => ?_, fun q => ?_⟩
    · have hz : nmS l 20 p = [] := List.length_eq_zero_iff.mp (by have := (nI_leI (b := 0) (by omega) (by omega)).mp q; omega)
      have hnm : nm2 l p = rf l p := by unfold nm2; rw [if_pos hz]
      refine k_X1_refuseHere n2 hl (fun b => ?_)
      have := h b E1 hE1
      rw [hnm] at this
      rw [hz, List.length_nil, Nat.add_zero]
      obtain ⟨e, he⟩ := rf_e (α := Nat) l p
      rw [he Nat] at this ⊢
      simp only [u_X6_unpackName_0, u_X6_unpackName_1, u_X6_unpackName_2, u_X6_unpackName_3, u_X6_unpackName_5, u_X6_unpackName_8, u_X6_unpackName_9, u_X6_unpackName_18, u_X6_unpackName_19, u_X6_unpackName_20, u_X6_unpackName_29, u_X6_unpackName_32, u_X6_unpackName_33, u_X6_unpackName_34, u_X6_unpackName_43, u_X6_unpackName_44, u_X6_unpackName_46, u_X6_unpackName_52, u_X6_unpackName_53, u_X6_unpackName_56, sa_put, sa_sel, sa_split, so_aload, so_cmp, so_goto, so_iload, so_istore, so_push, so_virt, so_zret, sa_nth, List.cons_append, List.nil_append, Nat.reduceEqDiff, Option.toList_none, Option.toList_some, if_false, if_true, reduceIte, or_true, true_or, z10, z00, true_imp_iff, false_imp_iff, not_false_eq_true, not_true_eq_false, true_and, and_true, Nat.zero_le, Nat.sub_zero, List.length_cons, List.length_nil, Nat.reduceAdd, Nat.reduceLT, Nat.reduceLeDiff]
      exact this
    · have hz : ¬ nmS l 20 p = [] := fun c => q (by rw [c]; decide)
      have hnm : nm2 l p = eS l 10 (p + (nmS l 20 p).length) := by unfold nm2; rw [if_neg hz]
      refine k_X1_expect hR n2 10 (by decide) (fun b => ?_)
      have := h b E1 hE1
      rw [hnm] at this
      cases hc : eS l 10 (p + (nmS l 20 p).length) with
      | inl p2 =>
        rw [hc] at this
        simp only [u_X6_unpackName_0, u_X6_unpackName_1, u_X6_unpackName_2, u_X6_unpackName_3, u_X6_unpackName_5, u_X6_unpackName_8, u_X6_unpackName_9, u_X6_unpackName_18, u_X6_unpackName_19, u_X6_unpackName_20, u_X6_unpackName_29, u_X6_unpackName_32, u_X6_unpackName_33, u_X6_unpackName_34, u_X6_unpackName_43, u_X6_unpackName_44, u_X6_unpackName_46, u_X6_unpackName_49, u_X6_unpackName_52, u_X6_unpackName_53, u_X6_unpackName_56, sa_put, sa_sel, sa_split, so_aload, so_cmp, so_goto, so_iload, so_istore, so_push, so_virt, so_zret, sa_nth, rb_ok, List.cons_append, List.nil_append, Nat.reduceEqDiff, Option.toList_none, Option.toList_some, if_false, if_true, reduceIte, or_true, true_or, z10, z00, true_imp_iff, false_imp_iff, not_false_eq_true, not_true_eq_false, true_and, and_true, Nat.zero_le, Nat.sub_zero, List.length_cons, List.length_nil, Nat.reduceAdd, Nat.reduceLT, Nat.reduceLeDiff]
        exact this
      | inr e =>
        rw [hc] at this
        simp only [u_X6_unpackName_0, u_X6_unpackName_1, u_X6_unpackName_2, u_X6_unpackName_3, u_X6_unpackName_5, u_X6_unpackName_8, u_X6_unpackName_9, u_X6_unpackName_18, u_X6_unpackName_19, u_X6_unpackName_20, u_X6_unpackName_29, u_X6_unpackName_32, u_X6_unpackName_33, u_X6_unpackName_34, u_X6_unpackName_43, u_X6_unpackName_44, u_X6_unpackName_46, u_X6_unpackName_49, u_X6_unpackName_52, u_X6_unpackName_53, u_X6_unpackName_56, sa_put, sa_sel, sa_split, so_aload, so_cmp, so_goto, so_iload, so_istore, so_push, so_virt, so_zret, sa_nth, rb_no, List.cons_append, List.nil_append, Nat.reduceEqDiff, Option.toList_none, Option.toList_some, if_false, if_true, reduceIte, or_true, true_or, z10, z00, true_imp_iff, false_imp_iff, not_false_eq_true, not_true_eq_false, true_and, and_true, Nat.zero_le, Nat.sub_zero, List.length_cons, List.length_nil, Nat.reduceAdd, Nat.reduceLT, Nat.reduceLeDiff]
        exact this
  have loop : ∀ (m k : Nat) (E1 : gE) (a : Int32) (w1 : List Int32), k + m = 20 → w1.length = k → nmS l 20 p = w1 ++ nmS l m (p + k) → p + k ≤ l.length → sE_R E1 (N ++ [w1]) D B U K O → sa_w tb_X6_unpackName (2, [some (.inr (.inl (some 24))), some (.inr (.inl (some 13))), some (.inl (nI k))], [], mkH F R D2 E1 (cS l a (.inl (p + k))) hd t A o, 0, 0) Q := by
    intro m
    induction m with
    | zero =>
      intro k E1 a w1 hk hw hn hpk hE1
      have e : nmS l 20 p = w1 := by rw [hn]; exact List.append_nil _
      rw [u_X6_unpackName_2]
      simp only [u_X6_unpackName_0, u_X6_unpackName_1, u_X6_unpackName_3, u_X6_unpackName_5, u_X6_unpackName_8, u_X6_unpackName_9, u_X6_unpackName_18, u_X6_unpackName_19, u_X6_unpackName_20, u_X6_unpackName_29, u_X6_unpackName_33, u_X6_unpackName_34, u_X6_unpackName_43, u_X6_unpackName_44, u_X6_unpackName_46, u_X6_unpackName_52, u_X6_unpackName_53, sa_put, sa_sel, sa_split, so_aload, so_cmp, so_goto, so_iload, so_istore, so_push, so_virt, sa_nth, c24, List.cons_append, List.nil_append, Nat.reduceEqDiff, Option.toList_none, Option.toList_some, if_false, if_true, reduceIte, or_true, true_or, z10, z00, true_imp_iff, false_imp_iff, not_false_eq_true, not_true_eq_false, true_and, and_true, Nat.zero_le, Nat.sub_zero, List.length_cons, List.length_nil, Nat.reduceAdd, Nat.reduceLT, Nat.reduceLeDiff]
      rw [show (20 : Int32) = nI 20 from rfl, nI_leI (by omega) (by omega)]
      refine ⟨fun _ => ?_, fun q => absurd (by omega) q⟩
      have := fin E1 a (some (.inl (nI k))) (by rw [e]; exact hE1)
      rw [e, hw] at this
      exact this
    | succ m ih =>
      intro k E1 a w1 hk hw hn hpk hE1
      rw [u_X6_unpackName_2]
      simp only [u_X6_unpackName_0, u_X6_unpackName_1, u_X6_unpackName_3, u_X6_unpackName_5, u_X6_unpackName_8, u_X6_unpackName_9, u_X6_unpackName_18, u_X6_unpackName_19, u_X6_unpackName_20, u_X6_unpackName_29, u_X6_unpackName_33, u_X6_unpackName_34, u_X6_unpackName_43, u_X6_unpackName_44, u_X6_unpackName_46, u_X6_unpackName_52, u_X6_unpackName_53, sa_put, sa_sel, sa_split, so_aload, so_cmp, so_goto, so_iload, so_istore, so_push, so_virt, sa_nth, c24, List.cons_append, List.nil_append, Nat.reduceEqDiff, Option.toList_none, Option.toList_some, if_false, if_true, reduceIte, or_true, true_or, z10, z00, true_imp_iff, false_imp_iff, not_false_eq_true, not_true_eq_false, true_and, and_true, Nat.zero_le, Nat.sub_zero, List.length_cons, List.length_nil, Nat.reduceAdd, Nat.reduceLT, Nat.reduceLeDiff]
      rw [show (20 : Int32) = nI 20 from rfl, nI_leI (by omega) (by omega)]
      refine ⟨fun q => absurd q (by omega), fun _ => ?_⟩
      refine k_X1_peek hR hpk ?_
      simp only [u_X6_unpackName_0, u_X6_unpackName_1, u_X6_unpackName_2, u_X6_unpackName_3, u_X6_unpackName_5, u_X6_unpackName_8, u_X6_unpackName_9, u_X6_unpackName_12, u_X6_unpackName_18, u_X6_unpackName_19, u_X6_unpackName_20, u_X6_unpackName_29, u_X6_unpackName_33, u_X6_unpackName_34, u_X6_unpackName_43, u_X6_unpackName_44, u_X6_unpackName_46, u_X6_unpackName_52, u_X6_unpackName_53, sa_put, sa_sel, sa_split, so_aload, so_cmp, so_goto, so_iload, so_istore, so_push, so_stat, so_virt, sa_nth, c24, List.cons_append, List.nil_append, Nat.reduceEqDiff, Option.toList_none, Option.toList_some, if_false, if_true, reduceIte, or_true, true_or, z10, z00, true_imp_iff, false_imp_iff, not_false_eq_true, not_true_eq_false, true_and, and_true, Nat.zero_le, Nat.sub_zero, List.length_cons, List.length_nil, Nat.reduceAdd, Nat.reduceLT, Nat.reduceLeDiff]
      refine k_X10_isNameByte _ (fun hq => ?_) (fun hq => ?_)
      · have hlt := isL_lt hq
        simp only [u_X6_unpackName_0, u_X6_unpackName_1, u_X6_unpackName_3, u_X6_unpackName_5, u_X6_unpackName_8, u_X6_unpackName_9, u_X6_unpackName_15, u_X6_unpackName_18, u_X6_unpackName_19, u_X6_unpackName_20, u_X6_unpackName_29, u_X6_unpackName_33, u_X6_unpackName_34, u_X6_unpackName_43, u_X6_unpackName_44, u_X6_unpackName_46, u_X6_unpackName_52, u_X6_unpackName_53, sa_put, sa_sel, sa_split, so_aload, so_cmp, so_goto, so_if, so_istore, so_push, so_virt, sa_nth, c24, List.cons_append, List.nil_append, Nat.reduceEqDiff, Option.toList_none, Option.toList_some, if_false, if_true, reduceIte, or_true, true_or, z10, z00, true_imp_iff, false_imp_iff, not_false_eq_true, not_true_eq_false, true_and, and_true, Nat.zero_le, Nat.sub_zero, List.length_cons, List.length_nil, Nat.reduceAdd, Nat.reduceLT, Nat.reduceLeDiff]
        refine k_X1_take hR hlt (fun b => ?_)
        simp only [u_X6_unpackName_0, u_X6_unpackName_1, u_X6_unpackName_3, u_X6_unpackName_5, u_X6_unpackName_8, u_X6_unpackName_9, u_X6_unpackName_18, u_X6_unpackName_19, u_X6_unpackName_20, u_X6_unpackName_23, u_X6_unpackName_29, u_X6_unpackName_33, u_X6_unpackName_34, u_X6_unpackName_43, u_X6_unpackName_44, u_X6_unpackName_46, u_X6_unpackName_52, u_X6_unpackName_53, sa_put, sa_sel, sa_split, so_aload, so_cmp, so_goto, so_istore, so_push, so_virt, sa_nth, c13, List.cons_append, List.nil_append, Nat.reduceEqDiff, Option.toList_none, Option.toList_some, if_false, if_true, reduceIte, or_true, true_or, z10, z00, true_imp_iff, false_imp_iff, not_false_eq_true, not_true_eq_false, true_and, and_true, Nat.zero_le, Nat.sub_zero, List.length_cons, List.length_nil, Nat.reduceAdd, Nat.reduceLT, Nat.reduceLeDiff]
        refine kE_addName (mk_E F R D2 _ hd t A o) hE1 hN (by omega) _ (fun E2 hE2 => ?_)
        simp only [u_X6_unpackName_0, u_X6_unpackName_1, u_X6_unpackName_3, u_X6_unpackName_5, u_X6_unpackName_8, u_X6_unpackName_9, u_X6_unpackName_18, u_X6_unpackName_19, u_X6_unpackName_20, u_X6_unpackName_26, u_X6_unpackName_29, u_X6_unpackName_33, u_X6_unpackName_34, u_X6_unpackName_43, u_X6_unpackName_44, u_X6_unpackName_46, u_X6_unpackName_52, u_X6_unpackName_53, sa_put, sa_sel, sa_split, so_aload, so_cmp, so_goto, so_iinc, so_istore, so_push, so_virt, sa_nth, List.cons_append, List.nil_append, Nat.reduceEqDiff, Option.toList_none, Option.toList_some, if_false, if_true, reduceIte, or_true, true_or, z10, z00, true_imp_iff, false_imp_iff, not_false_eq_true, not_true_eq_false, true_and, and_true, Nat.zero_le, Nat.sub_zero, List.length_cons, List.length_nil, Nat.reduceAdd, Nat.reduceLT, Nat.reduceLeDiff]
        rw [nI_1]
        refine ih (k + 1) E2 b (w1 ++ [pk l (p + k)]) (by omega) (by simp [hw]) ?_ (by omega) hE2
        rw [hn]
        show w1 ++ (if isL (pk l (p + k)) then _ else _) = _
        rw [if_pos hq]
        simp [Nat.add_assoc]
      · have e : nmS l 20 p = w1 := by
          rw [hn]
          show w1 ++ (if isL (pk l (p + k)) then _ else _) = _
          rw [if_neg hq, List.append_nil]
        simp only [u_X6_unpackName_0, u_X6_unpackName_1, u_X6_unpackName_3, u_X6_unpackName_5, u_X6_unpackName_8, u_X6_unpackName_9, u_X6_unpackName_15, u_X6_unpackName_18, u_X6_unpackName_19, u_X6_unpackName_20, u_X6_unpackName_29, u_X6_unpackName_33, u_X6_unpackName_34, u_X6_unpackName_43, u_X6_unpackName_44, u_X6_unpackName_46, u_X6_unpackName_52, u_X6_unpackName_53, sa_put, sa_sel, sa_split, so_aload, so_cmp, so_goto, so_if, so_istore, so_push, so_virt, sa_nth, c24, List.cons_append, List.nil_append, Nat.reduceEqDiff, Option.toList_none, Option.toList_some, if_false, if_true, reduceIte, or_true, true_or, z10, z00, true_imp_iff, false_imp_iff, not_false_eq_true, not_true_eq_false, true_and, and_true, Nat.zero_le, Nat.sub_zero, List.length_cons, List.length_nil, Nat.reduceAdd, Nat.reduceLT, Nat.reduceLeDiff]
        have := fin E1 a (some (.inl (nI k))) (by rw [e]; exact hE1)
        rw [e, hw] at this
        exact this
  simp only [e_X6_unpackName, u_X6_unpackName_0, u_X6_unpackName_1, u_X6_unpackName_3, u_X6_unpackName_5, u_X6_unpackName_8, u_X6_unpackName_9, u_X6_unpackName_18, u_X6_unpackName_19, u_X6_unpackName_20, u_X6_unpackName_29, u_X6_unpackName_32, u_X6_unpackName_33, u_X6_unpackName_34, u_X6_unpackName_43, u_X6_unpackName_44, u_X6_unpackName_46, u_X6_unpackName_52, u_X6_unpackName_53, sa_put, sa_sel, sa_split, so_aload, so_cmp, so_goto, so_istore, so_push, so_virt, sa_nth, List.cons_append, List.nil_append, Nat.reduceEqDiff, Option.toList_none, Option.toList_some, if_false, if_true, reduceIte, or_true, true_or, z10, z00, true_imp_iff, false_imp_iff, not_false_eq_true, not_true_eq_false, true_and, and_true, Nat.zero_le, Nat.sub_zero, List.length_cons, List.length_nil, Nat.reduceAdd, Nat.reduceLT, Nat.reduceLeDiff]
  exact loop 20 0 E a [] rfl rfl rfl hp hE
theorem k_X6_unpackLines (hR : sB_R 1500 R l) (hp : p ≤ l.length) (hE : sE_R E N (D ++ [[]]) B U K O) (hlt : D.flatten.length ≤ p) (h1 : ∀ a E' x, lnS l 61 15 p [] = .inl x → sE_R E' N (D ++ [x.1]) B U K O → Q (some (.inl 1)) (mkH F R D2 E' (cS l a (.inl x.2)) hd t A o)) (h0 : ∀ a E' d' e, lnS l 61 15 p [] = .inr e → sE_R E' N (D ++ [d']) B U K O → Q (some (.inl 0)) (mkH F R D2 E' (cS l a (.inr e)) hd t A o)) : ct_X6_unpackLines 0 0 [.inr (.inl (some 24)), .inr (.inl (some 13))] (mkH F R D2 E (cS l a (.inl p)) hd t A o) Q := by
  have hl := hR.2.1
  have loop : ∀ (f k b p1 : Nat) (E1 : gE) (a : Int32) (d1 : List Int32) (o5 : Option sa_V), k + f = 61 → b ≤ 15 → d1.length ≤ 60 → k ≤ d1.length → p1 ≤ l.length → D.flatten.length + d1.length ≤ p1 → sE_R E1 N (D ++ [d1]) B U K O → lnS l 61 15 p [] = lnS l f b p1 d1 → sa_w tb_X6_unpackLines (8, [some (.inr (.inl (some 24))), some (.inr (.inl (some 13))), some (.inl (nI d1.length)), some (.inl (nI b)), some (.inl (nI k)), o5], [], mkH F R D2 E1 (cS l a (.inl p1)) hd t A o, 0, 0) Q := by
    intro f
    induction f with
    | zero =>
      intro k b p1 E1 a d1 o5 hk hb hd1 hkd hp1 hdl hE1 he
      omega
    | succ f ih =>
      intro k b p1 E1 a d1 o5 hk hb hd1 hkd hp1 hdl hE1 he
      have heq : lnS l (f + 1) b p1 d1 = if ¬ isSg (pk l p1) ∨ 15 < sv (pk l p1) then rf l p1 else if 0 < sv (pk l p1) ∧ (b < 15 ∨ 60 < d1.length + sv (pk l p1)) then rf l p1 else if sv (pk l p1) = 0 then .inl (d1, p1 + 1) else
        rX.b (sgS l (sv (pk l p1)) ((sv (pk l p1) + 2) / 3) 0 (p1 + 1) d1) (fun x => rX.b (eS l 10 x.2) (fun p' => lnS l f (sv (pk l p1)) p' x.1)) := rfl
      rw [heq] at he
      have hsl := sv_lt (pk l p1)
      obtain ⟨er, her⟩ := rf_e (α := Nat) l p1
      have ref : lnS l 61 15 p [] = rf l p1 → ∀ a, Q (some (.inl 0)) (mkH F R D2 E1 (cS l a (rf l p1)) hd t A o) := by
        intro hr a
        rw [her Nat]
        exact h0 a E1 d1 er (by rw [hr, her]) hE1
      rw [u_X6_unpackLines_8]
      simp only [u_X6_unpackLines_0, u_X6_unpackLines_1, u_X6_unpackLines_2, u_X6_unpackLines_4, u_X6_unpackLines_5, u_X6_unpackLines_6, u_X6_unpackLines_10, u_X6_unpackLines_12, u_X6_unpackLines_15, u_X6_unpackLines_16, u_X6_unpackLines_21, u_X6_unpackLines_23, u_X6_unpackLines_24, u_X6_unpackLines_27, u_X6_unpackLines_29, u_X6_unpackLines_31, u_X6_unpackLines_34, u_X6_unpackLines_35, u_X6_unpackLines_39, u_X6_unpackLines_41, u_X6_unpackLines_44, u_X6_unpackLines_45, u_X6_unpackLines_47, u_X6_unpackLines_50, u_X6_unpackLines_51, u_X6_unpackLines_53, u_X6_unpackLines_54, u_X6_unpackLines_56, u_X6_unpackLines_59, u_X6_unpackLines_60, u_X6_unpackLines_64, u_X6_unpackLines_65, u_X6_unpackLines_69, u_X6_unpackLines_71, u_X6_unpackLines_74, u_X6_unpackLines_75, u_X6_unpackLines_76, u_X6_unpackLines_77, u_X6_unpackLines_78, u_X6_unpackLines_80, u_X6_unpackLines_86, u_X6_unpackLines_87, u_X6_unpackLines_89, u_X6_unpackLines_95, u_X6_unpackLines_96, u_X6_unpackLines_97, u_X6_unpackLines_98, u_X6_unpackLines_100, u_X6_unpackLines_101, u_X6_unpackLines_102, u_X6_unpackLines_104, u_X6_unpackLines_105, u_X6_unpackLines_108, u_X6_unpackLines_111, u_X6_unpackLines_112, sa_put, sa_sel, sa_split, so_aload, so_bin, so_cmp, so_goto, so_if, so_iinc, so_iload, so_istore, so_push, so_stat, so_virt, so_zret, sa_nth, c24, List.cons_append, List.nil_append, Nat.reduceEqDiff, Option.toList_none, Option.toList_some, if_false, if_true, reduceIte, or_true, true_or, z10, z00, true_imp_iff, false_imp_iff, not_false_eq_true, not_true_eq_false, true_and, and_true, Nat.zero_le, Nat.sub_zero, List.length_cons, List.length_nil, Nat.reduceAdd, Nat.reduceLT, Nat.reduceLeDiff]
      rw [show (60 : Int32) = nI 60 from rfl, nI_ltI (by omega) (by omega)]
      refine ⟨fun q => absurd q (by omega), fun _ => ?_⟩
      refine k_X6_signAt hR hp1 (fun hs => ?_) (fun hs => ?_)
      · have hlt2 := isSg_lt hs
        simp only [u_X6_unpackLines_0, u_X6_unpackLines_1, u_X6_unpackLines_2, u_X6_unpackLines_4, u_X6_unpackLines_5, u_X6_unpackLines_6, u_X6_unpackLines_10, u_X6_unpackLines_12, u_X6_unpackLines_15, u_X6_unpackLines_16, u_X6_unpackLines_19, u_X6_unpackLines_21, u_X6_unpackLines_23, u_X6_unpackLines_24, u_X6_unpackLines_27, u_X6_unpackLines_29, u_X6_unpackLines_31, u_X6_unpackLines_35, u_X6_unpackLines_39, u_X6_unpackLines_41, u_X6_unpackLines_44, u_X6_unpackLines_45, u_X6_unpackLines_47, u_X6_unpackLines_50, u_X6_unpackLines_51, u_X6_unpackLines_53, u_X6_unpackLines_54, u_X6_unpackLines_56, u_X6_unpackLines_60, u_X6_unpackLines_65, u_X6_unpackLines_69, u_X6_unpackLines_71, u_X6_unpackLines_74, u_X6_unpackLines_75, u_X6_unpackLines_76, u_X6_unpackLines_77, u_X6_unpackLines_78, u_X6_unpackLines_80, u_X6_unpackLines_86, u_X6_unpackLines_87, u_X6_unpackLines_89, u_X6_unpackLines_95, u_X6_unpackLines_96, u_X6_unpackLines_97, u_X6_unpackLines_98, u_X6_unpackLines_100, u_X6_unpackLines_101, u_X6_unpackLines_102, u_X6_unpackLines_104, u_X6_unpackLines_105, u_X6_unpackLines_108, u_X6_unpackLines_111, u_X6_unpackLines_112, sa_put, sa_sel, sa_split, so_aload, so_bin, so_cmp, so_goto, so_if, so_iinc, so_iload, so_istore, so_push, so_stat, so_virt, so_zret, sa_nth, c24, List.cons_append, List.nil_append, Nat.reduceEqDiff, Option.toList_none, Option.toList_some, if_false, if_true, reduceIte, or_true, true_or, z10, z00, true_imp_iff, false_imp_iff, not_false_eq_true, not_true_eq_false, true_and, and_true, Nat.zero_le, Nat.sub_zero, List.length_cons, List.length_nil, Nat.reduceAdd, Nat.reduceLT, Nat.reduceLeDiff]
        rw [show (60 : Int32) = nI 60 from rfl, show (15 : Int32) = nI 15 from rfl, nI_leI (by omega) (by omega), nI_ltI (by omega) (by omega), nI_add d1.length, nI_leI (by omega) (by omega)]
        refine ⟨fun q => absurd q (nI_ne_m1 (by omega)), fun _ => ⟨fun q15 => ?_, fun q15 => ?_⟩⟩
        · rw [if_neg (by rintro (c | c); exact c hs; omega)] at he
          have go : ¬ (0 < sv (pk l p1) ∧ (b < 15 ∨ 60 < d1.length + sv (pk l p1))) → sa_w tb_X6_unpackLines (64, [some (.inr (.inl (some 24))), some (.inr (.inl (some 13))), some (.inl (nI d1.length)), some (.inl (nI b)), some (.inl (nI k)), some (.inl (nI (sv (pk l p1))))], [], mkH F R D2 E1 (cS l a (.inl p1)) hd t A o, 0, 0) Q := by
            intro hgo
            rw [if_neg hgo] at he
            simp only [u_X6_unpackLines_0, u_X6_unpackLines_1, u_X6_unpackLines_2, u_X6_unpackLines_4, u_X6_unpackLines_5, u_X6_unpackLines_6, u_X6_unpackLines_10, u_X6_unpackLines_12, u_X6_unpackLines_15, u_X6_unpackLines_16, u_X6_unpackLines_21, u_X6_unpackLines_23, u_X6_unpackLines_24, u_X6_unpackLines_27, u_X6_unpackLines_29, u_X6_unpackLines_31, u_X6_unpackLines_34, u_X6_unpackLines_35, u_X6_unpackLines_39, u_X6_unpackLines_41, u_X6_unpackLines_44, u_X6_unpackLines_45, u_X6_unpackLines_47, u_X6_unpackLines_50, u_X6_unpackLines_51, u_X6_unpackLines_53, u_X6_unpackLines_54, u_X6_unpackLines_56, u_X6_unpackLines_59, u_X6_unpackLines_60, u_X6_unpackLines_64, u_X6_unpackLines_65, u_X6_unpackLines_69, u_X6_unpackLines_71, u_X6_unpackLines_74, u_X6_unpackLines_75, u_X6_unpackLines_76, u_X6_unpackLines_77, u_X6_unpackLines_78, u_X6_unpackLines_80, u_X6_unpackLines_86, u_X6_unpackLines_87, u_X6_unpackLines_89, u_X6_unpackLines_95, u_X6_unpackLines_96, u_X6_unpackLines_97, u_X6_unpackLines_98, u_X6_unpackLines_100, u_X6_unpackLines_101, u_X6_unpackLines_102, u_X6_unpackLines_104, u_X6_unpackLines_105, u_X6_unpackLines_108, u_X6_unpackLines_111, u_X6_unpackLines_112, sa_put, sa_sel, sa_split, so_aload, so_bin, so_cmp, so_goto, so_if, so_iinc, so_iload, so_istore, so_push, so_stat, so_virt, so_zret, sa_nth, c24, List.cons_append, List.nil_append, Nat.reduceEqDiff, Option.toList_none, Option.toList_some, if_false, if_true, reduceIte, or_true, true_or, z10, z00, true_imp_iff, false_imp_iff, not_false_eq_true, not_true_eq_false, true_and, and_true, Nat.zero_le, Nat.sub_zero, List.length_cons, List.length_nil, Nat.reduceAdd, Nat.reduceLT, Nat.reduceLeDiff]
            refine k_X1_take hR hlt2 (fun a2 => ?_)
            simp only [u_X6_unpackLines_0, u_X6_unpackLines_1, u_X6_unpackLines_2, u_X6_unpackLines_4, u_X6_unpackLines_5, u_X6_unpackLines_6, u_X6_unpackLines_10, u_X6_unpackLines_12, u_X6_unpackLines_15, u_X6_unpackLines_16, u_X6_unpackLines_21, u_X6_unpackLines_23, u_X6_unpackLines_24, u_X6_unpackLines_27, u_X6_unpackLines_29, u_X6_unpackLines_31, u_X6_unpackLines_34, u_X6_unpackLines_35, u_X6_unpackLines_39, u_X6_unpackLines_41, u_X6_unpackLines_44, u_X6_unpackLines_45, u_X6_unpackLines_47, u_X6_unpackLines_50, u_X6_unpackLines_51, u_X6_unpackLines_53, u_X6_unpackLines_54, u_X6_unpackLines_56, u_X6_unpackLines_59, u_X6_unpackLines_60, u_X6_unpackLines_64, u_X6_unpackLines_65, u_X6_unpackLines_68, u_X6_unpackLines_69, u_X6_unpackLines_71, u_X6_unpackLines_74, u_X6_unpackLines_75, u_X6_unpackLines_76, u_X6_unpackLines_77, u_X6_unpackLines_78, u_X6_unpackLines_80, u_X6_unpackLines_86, u_X6_unpackLines_87, u_X6_unpackLines_89, u_X6_unpackLines_95, u_X6_unpackLines_96, u_X6_unpackLines_97, u_X6_unpackLines_98, u_X6_unpackLines_100, u_X6_unpackLines_101, u_X6_unpackLines_102, u_X6_unpackLines_104, u_X6_unpackLines_105, u_X6_unpackLines_108, u_X6_unpackLines_111, u_X6_unpackLines_112, sa_put, sa_sel, sa_split, so_aload, so_bin, so_cmp, so_goto, so_if, so_iinc, so_iload, so_istore, so_pop, so_push, so_stat, so_virt, so_zret, sa_nth, List.cons_append, List.nil_append, Nat.reduceEqDiff, Option.toList_none, Option.toList_some, if_false, if_true, reduceIte, or_true, true_or, z10, z00, true_imp_iff, false_imp_iff, not_false_eq_true, not_true_eq_false, true_and, and_true, Nat.zero_le, Nat.sub_zero, List.length_cons, List.length_nil, Nat.reduceAdd, Nat.reduceLT, Nat.reduceLeDiff]
            refine ⟨fun q => ?_, fun q => ?_⟩
            · rw [if_pos ((nI_eq (b := 0) (by omega) (by omega)).mp q)] at he
              exact h1 a2 E1 (d1, p1 + 1) he hE1
            · have hne : ¬ sv (pk l p1) = 0 := fun c => q (by rw [c]; rfl)
              rw [if_neg hne] at he
              refine k_X6_unpackSigns hR (by omega) (by omega) hE1 (by omega) (fun a3 E3 x hx hE3 => ?_) (fun a3 E3 d3 e hx hE3 => ?_)
              · rw [hx, rX.b_ok] at he
                obtain ⟨s1, s2, s3⟩ := sgS_ok (by omega) (by omega) hx
                simp only [u_X6_unpackLines_0, u_X6_unpackLines_1, u_X6_unpackLines_2, u_X6_unpackLines_4, u_X6_unpackLines_5, u_X6_unpackLines_6, u_X6_unpackLines_10, u_X6_unpackLines_12, u_X6_unpackLines_15, u_X6_unpackLines_16, u_X6_unpackLines_21, u_X6_unpackLines_23, u_X6_unpackLines_24, u_X6_unpackLines_27, u_X6_unpackLines_29, u_X6_unpackLines_31, u_X6_unpackLines_34, u_X6_unpackLines_35, u_X6_unpackLines_39, u_X6_unpackLines_41, u_X6_unpackLines_44, u_X6_unpackLines_45, u_X6_unpackLines_47, u_X6_unpackLines_50, u_X6_unpackLines_51, u_X6_unpackLines_53, u_X6_unpackLines_54, u_X6_unpackLines_56, u_X6_unpackLines_59, u_X6_unpackLines_60, u_X6_unpackLines_64, u_X6_unpackLines_65, u_X6_unpackLines_69, u_X6_unpackLines_71, u_X6_unpackLines_74, u_X6_unpackLines_75, u_X6_unpackLines_76, u_X6_unpackLines_77, u_X6_unpackLines_78, u_X6_unpackLines_80, u_X6_unpackLines_83, u_X6_unpackLines_86, u_X6_unpackLines_87, u_X6_unpackLines_89, u_X6_unpackLines_95, u_X6_unpackLines_96, u_X6_unpackLines_97, u_X6_unpackLines_98, u_X6_unpackLines_100, u_X6_unpackLines_101, u_X6_unpackLines_102, u_X6_unpackLines_104, u_X6_unpackLines_105, u_X6_unpackLines_108, u_X6_unpackLines_111, u_X6_unpackLines_112, sa_put, sa_sel, sa_split, so_aload, so_bin, so_cmp, so_goto, so_if, so_iinc, so_iload, so_istore, so_push, so_stat, so_virt, so_zret, sa_nth, c24, List.cons_append, List.nil_append, Nat.reduceEqDiff, Option.toList_none, Option.toList_some, if_false, if_true, reduceIte, or_true, true_or, z10, z00, true_imp_iff, false_imp_iff, not_false_eq_true, not_true_eq_false, true_and, and_true, Nat.zero_le, Nat.sub_zero, List.length_cons, List.length_nil, Nat.reduceAdd, Nat.reduceLT, Nat.reduceLeDiff]
                refine k_X1_expect hR s2 10 (by decide) (fun a4 => ?_)
                cases hc : eS l 10 x.2 with
                | inl p2 =>
                  rw [hc, rX.b_ok] at he
                  obtain ⟨-, e4, e5⟩ := eS_ok hc
                  simp only [u_X6_unpackLines_0, u_X6_unpackLines_1, u_X6_unpackLines_2, u_X6_unpackLines_4, u_X6_unpackLines_5, u_X6_unpackLines_6, u_X6_unpackLines_10, u_X6_unpackLines_12, u_X6_unpackLines_15, u_X6_unpackLines_16, u_X6_unpackLines_21, u_X6_unpackLines_23, u_X6_unpackLines_24, u_X6_unpackLines_27, u_X6_unpackLines_29, u_X6_unpackLines_31, u_X6_unpackLines_34, u_X6_unpackLines_35, u_X6_unpackLines_39, u_X6_unpackLines_41, u_X6_unpackLines_44, u_X6_unpackLines_45, u_X6_unpackLines_47, u_X6_unpackLines_50, u_X6_unpackLines_51, u_X6_unpackLines_53, u_X6_unpackLines_54, u_X6_unpackLines_56, u_X6_unpackLines_59, u_X6_unpackLines_60, u_X6_unpackLines_64, u_X6_unpackLines_65, u_X6_unpackLines_69, u_X6_unpackLines_71, u_X6_unpackLines_74, u_X6_unpackLines_75, u_X6_unpackLines_76, u_X6_unpackLines_77, u_X6_unpackLines_78, u_X6_unpackLines_80, u_X6_unpackLines_86, u_X6_unpackLines_87, u_X6_unpackLines_89, u_X6_unpackLines_92, u_X6_unpackLines_95, u_X6_unpackLines_96, u_X6_unpackLines_97, u_X6_unpackLines_98, u_X6_unpackLines_100, u_X6_unpackLines_101, u_X6_unpackLines_102, u_X6_unpackLines_104, u_X6_unpackLines_105, u_X6_unpackLines_108, u_X6_unpackLines_111, u_X6_unpackLines_112, sa_put, sa_sel, sa_split, so_aload, so_bin, so_cmp, so_goto, so_if, so_iinc, so_iload, so_istore, so_push, so_stat, so_virt, so_zret, sa_nth, rb_ok, List.cons_append, List.nil_append, Nat.reduceEqDiff, Option.toList_none, Option.toList_some, if_false, if_true, reduceIte, or_true, true_or, z10, z00, true_imp_iff, false_imp_iff, not_false_eq_true, not_true_eq_false, true_and, and_true, Nat.zero_le, Nat.sub_zero, List.length_cons, List.length_nil, Nat.reduceAdd, Nat.reduceLT, Nat.reduceLeDiff]
                  rw [nI_1, nI_add, show d1.length + sv (pk l p1) = x.1.length by omega]
                  exact ih (k + 1) _ p2 E3 a4 x.1 _ (by omega) (by omega) (by omega) (by omega) (by omega) (by omega) hE3 he
                | inr e =>
                  rw [hc, rX.b_no] at he
                  simp only [u_X6_unpackLines_0, u_X6_unpackLines_1, u_X6_unpackLines_2, u_X6_unpackLines_4, u_X6_unpackLines_5, u_X6_unpackLines_6, u_X6_unpackLines_10, u_X6_unpackLines_12, u_X6_unpackLines_15, u_X6_unpackLines_16, u_X6_unpackLines_21, u_X6_unpackLines_23, u_X6_unpackLines_24, u_X6_unpackLines_27, u_X6_unpackLines_29, u_X6_unpackLines_31, u_X6_unpackLines_34, u_X6_unpackLines_35, u_X6_unpackLines_39, u_X6_unpackLines_41, u_X6_unpackLines_44, u_X6_unpackLines_45, u_X6_unpackLines_47, u_X6_unpackLines_50, u_X6_unpackLines_51, u_X6_unpackLines_53, u_X6_unpackLines_54, u_X6_unpackLines_56, u_X6_unpackLines_59, u_X6_unpackLines_60, u_X6_unpackLines_64, u_X6_unpackLines_65, u_X6_unpackLines_69, u_X6_unpackLines_71, u_X6_unpackLines_74, u_X6_unpackLines_75, u_X6_unpackLines_76, u_X6_unpackLines_77, u_X6_unpackLines_78, u_X6_unpackLines_80, u_X6_unpackLines_86, u_X6_unpackLines_87, u_X6_unpackLines_89, u_X6_unpackLines_92, u_X6_unpackLines_95, u_X6_unpackLines_96, u_X6_unpackLines_97, u_X6_unpackLines_98, u_X6_unpackLines_100, u_X6_unpackLines_101, u_X6_unpackLines_102, u_X6_unpackLines_104, u_X6_unpackLines_105, u_X6_unpackLines_108, u_X6_unpackLines_111, u_X6_unpackLines_112, sa_put, sa_sel, sa_split, so_aload, so_bin, so_cmp, so_goto, so_if, so_iinc, so_iload, so_istore, so_push, so_stat, so_virt, so_zret, sa_nth, rb_no, List.cons_append, List.nil_append, Nat.reduceEqDiff, Option.toList_none, Option.toList_some, if_false, if_true, reduceIte, or_true, true_or, z10, z00, true_imp_iff, false_imp_iff, not_false_eq_true, not_true_eq_false, true_and, and_true, Nat.zero_le, Nat.sub_zero, List.length_cons, List.length_nil, Nat.reduceAdd, Nat.reduceLT, Nat.reduceLeDiff]
                  exact h0 a4 E3 x.1 e he hE3
              · rw [hx, rX.b_no] at he
                simp only [u_X6_unpackLines_0, u_X6_unpackLines_1, u_X6_unpackLines_2, u_X6_unpackLines_4, u_X6_unpackLines_5, u_X6_unpackLines_6, u_X6_unpackLines_10, u_X6_unpackLines_12, u_X6_unpackLines_15, u_X6_unpackLines_16, u_X6_unpackLines_21, u_X6_unpackLines_23, u_X6_unpackLines_24, u_X6_unpackLines_27, u_X6_unpackLines_29, u_X6_unpackLines_31, u_X6_unpackLines_34, u_X6_unpackLines_35, u_X6_unpackLines_39, u_X6_unpackLines_41, u_X6_unpackLines_44, u_X6_unpackLines_45, u_X6_unpackLines_47, u_X6_unpackLines_50, u_X6_unpackLines_51, u_X6_unpackLines_53, u_X6_unpackLines_54, u_X6_unpackLines_56, u_X6_unpackLines_59, u_X6_unpackLines_60, u_X6_unpackLines_64, u_X6_unpackLines_65, u_X6_unpackLines_69, u_X6_unpackLines_71, u_X6_unpackLines_74, u_X6_unpackLines_75, u_X6_unpackLines_76, u_X6_unpackLines_77, u_X6_unpackLines_78, u_X6_unpackLines_80, u_X6_unpackLines_83, u_X6_unpackLines_86, u_X6_unpackLines_87, u_X6_unpackLines_89, u_X6_unpackLines_95, u_X6_unpackLines_96, u_X6_unpackLines_97, u_X6_unpackLines_98, u_X6_unpackLines_100, u_X6_unpackLines_101, u_X6_unpackLines_102, u_X6_unpackLines_104, u_X6_unpackLines_105, u_X6_unpackLines_108, u_X6_unpackLines_111, u_X6_unpackLines_112, sa_put, sa_sel, sa_split, so_aload, so_bin, so_cmp, so_goto, so_if, so_iinc, so_iload, so_istore, so_push, so_stat, so_virt, so_zret, sa_nth, List.cons_append, List.nil_append, Nat.reduceEqDiff, Option.toList_none, Option.toList_some, if_false, if_true, reduceIte, or_true, true_or, z10, z00, true_imp_iff, false_imp_iff, not_false_eq_true, not_true_eq_false, true_and, and_true, Nat.zero_le, Nat.sub_zero, List.length_cons, List.length_nil, Nat.reduceAdd, Nat.reduceLT, Nat.reduceLeDiff]
                exact h0 a3 E3 d3 e he hE3
          have ref2 : (0 < sv (pk l p1) ∧ (b < 15 ∨ 60 < d1.length + sv (pk l p1))) → sa_w tb_X6_unpackLines (59, [some (.inr (.inl (some 24))), some (.inr (.inl (some 13))), some (.inl (nI d1.length)), some (.inl (nI b)), some (.inl (nI k)), some (.inl (nI (sv (pk l p1))))], [], mkH F R D2 E1 (cS l a (.inl p1)) hd t A o, 0, 0) Q := by
            intro hgo
            rw [if_pos hgo] at he
            simp only [u_X6_unpackLines_0, u_X6_unpackLines_1, u_X6_unpackLines_2, u_X6_unpackLines_4, u_X6_unpackLines_5, u_X6_unpackLines_6, u_X6_unpackLines_10, u_X6_unpackLines_12, u_X6_unpackLines_15, u_X6_unpackLines_16, u_X6_unpackLines_21, u_X6_unpackLines_23, u_X6_unpackLines_24, u_X6_unpackLines_27, u_X6_unpackLines_29, u_X6_unpackLines_31, u_X6_unpackLines_34, u_X6_unpackLines_35, u_X6_unpackLines_39, u_X6_unpackLines_41, u_X6_unpackLines_44, u_X6_unpackLines_45, u_X6_unpackLines_47, u_X6_unpackLines_50, u_X6_unpackLines_51, u_X6_unpackLines_53, u_X6_unpackLines_54, u_X6_unpackLines_56, u_X6_unpackLines_59, u_X6_unpackLines_60, u_X6_unpackLines_64, u_X6_unpackLines_65, u_X6_unpackLines_69, u_X6_unpackLines_71, u_X6_unpackLines_74, u_X6_unpackLines_75, u_X6_unpackLines_76, u_X6_unpackLines_77, u_X6_unpackLines_78, u_X6_unpackLines_80, u_X6_unpackLines_86, u_X6_unpackLines_87, u_X6_unpackLines_89, u_X6_unpackLines_95, u_X6_unpackLines_96, u_X6_unpackLines_97, u_X6_unpackLines_98, u_X6_unpackLines_100, u_X6_unpackLines_101, u_X6_unpackLines_102, u_X6_unpackLines_104, u_X6_unpackLines_105, u_X6_unpackLines_108, u_X6_unpackLines_111, u_X6_unpackLines_112, sa_put, sa_sel, sa_split, so_aload, so_bin, so_cmp, so_goto, so_if, so_iinc, so_iload, so_istore, so_push, so_stat, so_virt, so_zret, sa_nth, c24, List.cons_append, List.nil_append, Nat.reduceEqDiff, Option.toList_none, Option.toList_some, if_false, if_true, reduceIte, or_true, true_or, z10, z00, true_imp_iff, false_imp_iff, not_false_eq_true, not_true_eq_false, true_and, and_true, Nat.zero_le, Nat.sub_zero, List.length_cons, List.length_nil, Nat.reduceAdd, Nat.reduceLT, Nat.reduceLeDiff]
            refine k_X1_refuseHere hp1 hl (fun a2 => ?_)
            simp only [u_X6_unpackLines_0, u_X6_unpackLines_1, u_X6_unpackLines_2, u_X6_unpackLines_4, u_X6_unpackLines_5, u_X6_unpackLines_6, u_X6_unpackLines_10, u_X6_unpackLines_12, u_X6_unpackLines_15, u_X6_unpackLines_16, u_X6_unpackLines_21, u_X6_unpackLines_23, u_X6_unpackLines_24, u_X6_unpackLines_27, u_X6_unpackLines_29, u_X6_unpackLines_31, u_X6_unpackLines_34, u_X6_unpackLines_35, u_X6_unpackLines_39, u_X6_unpackLines_41, u_X6_unpackLines_44, u_X6_unpackLines_45, u_X6_unpackLines_47, u_X6_unpackLines_50, u_X6_unpackLines_51, u_X6_unpackLines_53, u_X6_unpackLines_54, u_X6_unpackLines_56, u_X6_unpackLines_59, u_X6_unpackLines_60, u_X6_unpackLines_63, u_X6_unpackLines_64, u_X6_unpackLines_65, u_X6_unpackLines_69, u_X6_unpackLines_71, u_X6_unpackLines_74, u_X6_unpackLines_75, u_X6_unpackLines_76, u_X6_unpackLines_77, u_X6_unpackLines_78, u_X6_unpackLines_80, u_X6_unpackLines_86, u_X6_unpackLines_87, u_X6_unpackLines_89, u_X6_unpackLines_95, u_X6_unpackLines_96, u_X6_unpackLines_97, u_X6_unpackLines_98, u_X6_unpackLines_100, u_X6_unpackLines_101, u_X6_unpackLines_102, u_X6_unpackLines_104, u_X6_unpackLines_105, u_X6_unpackLines_108, u_X6_unpackLines_111, u_X6_unpackLines_112, sa_put, sa_sel, sa_split, so_aload, so_bin, so_cmp, so_goto, so_if, so_iinc, so_iload, so_istore, so_push, so_stat, so_virt, so_zret, sa_nth, List.cons_append, List.nil_append, Nat.reduceEqDiff, Option.toList_none, Option.toList_some, if_false, if_true, reduceIte, or_true, true_or, z10, z00, true_imp_iff, false_imp_iff, not_false_eq_true, not_true_eq_false, true_and, and_true, Nat.zero_le, Nat.sub_zero, List.length_cons, List.length_nil, Nat.reduceAdd, Nat.reduceLT, Nat.reduceLeDiff]
            exact ref he a2
          refine ⟨fun q0 => go (fun c => ?_), fun q0 => ⟨fun q1 => ref2 ⟨?_, Or.inl q1⟩, fun q1 => ⟨fun q2 => go (by omega), fun q2 => ref2 ⟨?_, Or.inr (by omega)⟩⟩⟩⟩
          · have := (nI_leI (b := 0) (by omega) (by omega)).mp q0
            omega
          · rcases Nat.eq_zero_or_pos (sv (pk l p1)) with z | z
            · exact absurd (by rw [z]; decide) q0
            · exact z
          · rcases Nat.eq_zero_or_pos (sv (pk l p1)) with z | z
            · exact absurd (by rw [z]; decide) q0
            · exact z
        · rw [if_pos (Or.inr (by omega))] at he
          simp only [u_X6_unpackLines_0, u_X6_unpackLines_1, u_X6_unpackLines_2, u_X6_unpackLines_4, u_X6_unpackLines_5, u_X6_unpackLines_6, u_X6_unpackLines_10, u_X6_unpackLines_12, u_X6_unpackLines_15, u_X6_unpackLines_16, u_X6_unpackLines_21, u_X6_unpackLines_23, u_X6_unpackLines_24, u_X6_unpackLines_27, u_X6_unpackLines_29, u_X6_unpackLines_31, u_X6_unpackLines_34, u_X6_unpackLines_35, u_X6_unpackLines_39, u_X6_unpackLines_41, u_X6_unpackLines_44, u_X6_unpackLines_45, u_X6_unpackLines_47, u_X6_unpackLines_50, u_X6_unpackLines_51, u_X6_unpackLines_53, u_X6_unpackLines_54, u_X6_unpackLines_56, u_X6_unpackLines_59, u_X6_unpackLines_60, u_X6_unpackLines_64, u_X6_unpackLines_65, u_X6_unpackLines_69, u_X6_unpackLines_71, u_X6_unpackLines_74, u_X6_unpackLines_75, u_X6_unpackLines_76, u_X6_unpackLines_77, u_X6_unpackLines_78, u_X6_unpackLines_80, u_X6_unpackLines_86, u_X6_unpackLines_87, u_X6_unpackLines_89, u_X6_unpackLines_95, u_X6_unpackLines_96, u_X6_unpackLines_97, u_X6_unpackLines_98, u_X6_unpackLines_100, u_X6_unpackLines_101, u_X6_unpackLines_102, u_X6_unpackLines_104, u_X6_unpackLines_105, u_X6_unpackLines_108, u_X6_unpackLines_111, u_X6_unpackLines_112, sa_put, sa_sel, sa_split, so_aload, so_bin, so_cmp, so_goto, so_if, so_iinc, so_iload, so_istore, so_push, so_stat, so_virt, so_zret, sa_nth, c24, List.cons_append, List.nil_append, Nat.reduceEqDiff, Option.toList_none, Option.toList_some, if_false, if_true, reduceIte, or_true, true_or, z10, z00, true_imp_iff, false_imp_iff, not_false_eq_true, not_true_eq_false, true_and, and_true, Nat.zero_le, Nat.sub_zero, List.length_cons, List.length_nil, Nat.reduceAdd, Nat.reduceLT, Nat.reduceLeDiff]
          refine k_X1_refuseHere hp1 hl (fun a2 => ?_)
          simp only [u_X6_unpackLines_0, u_X6_unpackLines_1, u_X6_unpackLines_2, u_X6_unpackLines_4, u_X6_unpackLines_5, u_X6_unpackLines_6, u_X6_unpackLines_10, u_X6_unpackLines_12, u_X6_unpackLines_15, u_X6_unpackLines_16, u_X6_unpackLines_21, u_X6_unpackLines_23, u_X6_unpackLines_24, u_X6_unpackLines_27, u_X6_unpackLines_29, u_X6_unpackLines_31, u_X6_unpackLines_34, u_X6_unpackLines_35, u_X6_unpackLines_38, u_X6_unpackLines_39, u_X6_unpackLines_41, u_X6_unpackLines_44, u_X6_unpackLines_45, u_X6_unpackLines_47, u_X6_unpackLines_50, u_X6_unpackLines_51, u_X6_unpackLines_53, u_X6_unpackLines_54, u_X6_unpackLines_56, u_X6_unpackLines_59, u_X6_unpackLines_60, u_X6_unpackLines_64, u_X6_unpackLines_65, u_X6_unpackLines_69, u_X6_unpackLines_71, u_X6_unpackLines_74, u_X6_unpackLines_75, u_X6_unpackLines_76, u_X6_unpackLines_77, u_X6_unpackLines_78, u_X6_unpackLines_80, u_X6_unpackLines_86, u_X6_unpackLines_87, u_X6_unpackLines_89, u_X6_unpackLines_95, u_X6_unpackLines_96, u_X6_unpackLines_97, u_X6_unpackLines_98, u_X6_unpackLines_100, u_X6_unpackLines_101, u_X6_unpackLines_102, u_X6_unpackLines_104, u_X6_unpackLines_105, u_X6_unpackLines_108, u_X6_unpackLines_111, u_X6_unpackLines_112, sa_put, sa_sel, sa_split, so_aload, so_bin, so_cmp, so_goto, so_if, so_iinc, so_iload, so_istore, so_push, so_stat, so_virt, so_zret, sa_nth, List.cons_append, List.nil_append, Nat.reduceEqDiff, Option.toList_none, Option.toList_some, if_false, if_true, reduceIte, or_true, true_or, z10, z00, true_imp_iff, false_imp_iff, not_false_eq_true, not_true_eq_false, true_and, and_true, Nat.zero_le, Nat.sub_zero, List.length_cons, List.length_nil, Nat.reduceAdd, Nat.reduceLT, Nat.reduceLeDiff]
          exact ref he a2
      · rw [if_pos (Or.inl hs)] at he
        simp only [u_X6_unpackLines_0, u_X6_unpackLines_1, u_X6_unpackLines_2, u_X6_unpackLines_4, u_X6_unpackLines_5, u_X6_unpackLines_6, u_X6_unpackLines_10, u_X6_unpackLines_12, u_X6_unpackLines_15, u_X6_unpackLines_16, u_X6_unpackLines_19, u_X6_unpackLines_21, u_X6_unpackLines_23, u_X6_unpackLines_24, u_X6_unpackLines_27, u_X6_unpackLines_29, u_X6_unpackLines_31, u_X6_unpackLines_34, u_X6_unpackLines_35, u_X6_unpackLines_39, u_X6_unpackLines_41, u_X6_unpackLines_44, u_X6_unpackLines_45, u_X6_unpackLines_47, u_X6_unpackLines_50, u_X6_unpackLines_51, u_X6_unpackLines_53, u_X6_unpackLines_54, u_X6_unpackLines_56, u_X6_unpackLines_60, u_X6_unpackLines_65, u_X6_unpackLines_69, u_X6_unpackLines_71, u_X6_unpackLines_74, u_X6_unpackLines_75, u_X6_unpackLines_76, u_X6_unpackLines_77, u_X6_unpackLines_78, u_X6_unpackLines_80, u_X6_unpackLines_86, u_X6_unpackLines_87, u_X6_unpackLines_89, u_X6_unpackLines_95, u_X6_unpackLines_96, u_X6_unpackLines_97, u_X6_unpackLines_98, u_X6_unpackLines_100, u_X6_unpackLines_101, u_X6_unpackLines_102, u_X6_unpackLines_104, u_X6_unpackLines_105, u_X6_unpackLines_108, u_X6_unpackLines_111, u_X6_unpackLines_112, sa_put, sa_sel, sa_split, so_aload, so_bin, so_cmp, so_goto, so_if, so_iinc, so_iload, so_istore, so_push, so_stat, so_virt, so_zret, sa_nth, c24, List.cons_append, List.nil_append, Nat.reduceEqDiff, Option.toList_none, Option.toList_some, if_false, if_true, reduceIte, or_true, true_or, z10, z00, true_imp_iff, false_imp_iff, not_false_eq_true, not_true_eq_false, true_and, and_true, Nat.zero_le, Nat.sub_zero, List.length_cons, List.length_nil, Nat.reduceAdd, Nat.reduceLT, Nat.reduceLeDiff]
        refine k_X1_refuseHere hp1 hl (fun a2 => ?_)
        simp only [u_X6_unpackLines_0, u_X6_unpackLines_1, u_X6_unpackLines_2, u_X6_unpackLines_4, u_X6_unpackLines_5, u_X6_unpackLines_6, u_X6_unpackLines_10, u_X6_unpackLines_12, u_X6_unpackLines_15, u_X6_unpackLines_16, u_X6_unpackLines_21, u_X6_unpackLines_23, u_X6_unpackLines_24, u_X6_unpackLines_27, u_X6_unpackLines_29, u_X6_unpackLines_31, u_X6_unpackLines_34, u_X6_unpackLines_35, u_X6_unpackLines_38, u_X6_unpackLines_39, u_X6_unpackLines_41, u_X6_unpackLines_44, u_X6_unpackLines_45, u_X6_unpackLines_47, u_X6_unpackLines_50, u_X6_unpackLines_51, u_X6_unpackLines_53, u_X6_unpackLines_54, u_X6_unpackLines_56, u_X6_unpackLines_59, u_X6_unpackLines_60, u_X6_unpackLines_64, u_X6_unpackLines_65, u_X6_unpackLines_69, u_X6_unpackLines_71, u_X6_unpackLines_74, u_X6_unpackLines_75, u_X6_unpackLines_76, u_X6_unpackLines_77, u_X6_unpackLines_78, u_X6_unpackLines_80, u_X6_unpackLines_86, u_X6_unpackLines_87, u_X6_unpackLines_89, u_X6_unpackLines_95, u_X6_unpackLines_96, u_X6_unpackLines_97, u_X6_unpackLines_98, u_X6_unpackLines_100, u_X6_unpackLines_101, u_X6_unpackLines_102, u_X6_unpackLines_104, u_X6_unpackLines_105, u_X6_unpackLines_108, u_X6_unpackLines_111, u_X6_unpackLines_112, sa_put, sa_sel, sa_split, so_aload, so_bin, so_cmp, so_goto, so_if, so_iinc, so_iload, so_istore, so_push, so_stat, so_virt, so_zret, sa_nth, List.cons_append, List.nil_append, Nat.reduceEqDiff, Option.toList_none, Option.toList_some, if_false, if_true, reduceIte, or_true, true_or, z10, z00, true_imp_iff, false_imp_iff, not_false_eq_true, not_true_eq_false, true_and, and_true, Nat.zero_le, Nat.sub_zero, List.length_cons, List.length_nil, Nat.reduceAdd, Nat.reduceLT, Nat.reduceLeDiff]
        exact ref he a2
  simp only [e_X6_unpackLines, u_X6_unpackLines_0, u_X6_unpackLines_1, u_X6_unpackLines_2, u_X6_unpackLines_4, u_X6_unpackLines_5, u_X6_unpackLines_6, u_X6_unpackLines_10, u_X6_unpackLines_12, u_X6_unpackLines_15, u_X6_unpackLines_16, u_X6_unpackLines_21, u_X6_unpackLines_23, u_X6_unpackLines_24, u_X6_unpackLines_27, u_X6_unpackLines_29, u_X6_unpackLines_31, u_X6_unpackLines_34, u_X6_unpackLines_35, u_X6_unpackLines_39, u_X6_unpackLines_41, u_X6_unpackLines_44, u_X6_unpackLines_45, u_X6_unpackLines_47, u_X6_unpackLines_50, u_X6_unpackLines_51, u_X6_unpackLines_53, u_X6_unpackLines_54, u_X6_unpackLines_56, u_X6_unpackLines_59, u_X6_unpackLines_60, u_X6_unpackLines_64, u_X6_unpackLines_65, u_X6_unpackLines_69, u_X6_unpackLines_71, u_X6_unpackLines_74, u_X6_unpackLines_75, u_X6_unpackLines_76, u_X6_unpackLines_77, u_X6_unpackLines_78, u_X6_unpackLines_80, u_X6_unpackLines_86, u_X6_unpackLines_87, u_X6_unpackLines_89, u_X6_unpackLines_95, u_X6_unpackLines_96, u_X6_unpackLines_97, u_X6_unpackLines_98, u_X6_unpackLines_100, u_X6_unpackLines_101, u_X6_unpackLines_102, u_X6_unpackLines_104, u_X6_unpackLines_105, u_X6_unpackLines_108, u_X6_unpackLines_111, u_X6_unpackLines_112, sa_put, sa_sel, sa_split, so_aload, so_bin, so_cmp, so_goto, so_if, so_iinc, so_iload, so_istore, so_push, so_stat, so_virt, so_zret, sa_nth, List.cons_append, List.nil_append, Nat.reduceEqDiff, Option.toList_none, Option.toList_some, if_false, if_true, reduceIte, or_true, true_or, z10, z00, true_imp_iff, false_imp_iff, not_false_eq_true, not_true_eq_false, true_and, and_true, Nat.zero_le, Nat.sub_zero, List.length_cons, List.length_nil, Nat.reduceAdd, Nat.reduceLT, Nat.reduceLeDiff]
  exact loop 61 0 15 p E a [] _ rfl (by omega) (by simp) (by omega) hp (by simpa using hlt) hE rfl
end LR2
/-! FORM 2 READ BY THE CLASS, WHOLE -/
def rgN (n : Nat) : List Int32 := (List.range n).map nI
theorem rgN_s (n : Nat) : rgN (n + 1) = rgN n ++ [nI n] := by unfold rgN; rw [List.range_succ, List.map_append]; rfl
theorem rgN_len (n : Nat) : (rgN n).length = n := by unfold rgN; simp
theorem rgN_get (n i : Nat) (h : i < n) : (rgN n)[i]? = some (nI i) := by unfold rgN; rw [List.getElem?_map, List.getElem?_range h]; rfl
def sIR (N D : List (List Int32)) (p : Nat) : Prop := (∀ l ∈ N, l.length ≤ 20) ∧ (∀ l ∈ D, l.length ≤ 60) ∧ D.flatten.length ≤ p ∧ 12 * N.length ≤ p
theorem sIR_app {N D : List (List Int32)} {p p' : Nat} {w d : List Int32} (h : sIR N D p) (hw : w.length ≤ 20) (hd : d.length ≤ 60) (hp : p + 12 ≤ p') (hdp : d.length + p ≤ p') : sIR (N ++ [w]) (D ++ [d]) p' := by
  obtain ⟨h1, h2, h3, h4⟩ := h
  refine ⟨fun l hl => ?_, fun l hl => ?_, ?_, ?_⟩
  · rcases List.mem_append.mp hl with q | q
    · exact h1 l q
    · rw [List.mem_singleton] at q; rw [q]; exact hw
  · rcases List.mem_append.mp hl with q | q
    · exact h2 l q
    · rw [List.mem_singleton] at q; rw [q]; exact hd
  · rw [flat_snoc]; omega
  · rw [List.length_append, List.length_cons, List.length_nil]; omega
abbrev gL : Type := List (List Int32) × List (List Int32) × List Int32
def lq2 (l : List Int32) : Nat → Nat → gL → gL × rX Nat
  | 0, p, z => (z, .inl p)
  | f + 1, p, z => if p < l.length then (match r2 l p with
    | .inl x => lq2 l f x.2 (z.1 ++ [x.1.1], z.2.1 ++ [x.1.2], z.2.2 ++ [nI p])
    | .inr e => (z, .inr e)) else (z, .inl p)
theorem lq2_in {l : List Int32} {f p : Nat} {z : gL} (h : p < l.length) {x : (List Int32 × List Int32) × Nat} (hx : r2 l p = .inl x) : lq2 l (f + 1) p z = lq2 l f x.2 (z.1 ++ [x.1.1], z.2.1 ++ [x.1.2], z.2.2 ++ [nI p]) := by
  show (if p < l.length then _ else _) = _
  rw [if_pos h, hx]
theorem lq2_no {l : List Int32} {f p : Nat} {z : gL} (h : p < l.length) {e : Fin 6 × Nat} (hx : r2 l p = .inr e) : lq2 l (f + 1) p z = (z, .inr e) := by
  show (if p < l.length then _ else _) = _
  rw [if_pos h, hx]
theorem lq2_end {l : List Int32} {f p : Nat} {z : gL} (h : ¬ p < l.length) : lq2 l f p z = (z, .inl p) := by
  cases f with
  | zero => rfl
  | succ f =>
    show (if p < l.length then _ else _) = _
    rw [if_neg h]
section LR3
variable {F : gF} {R D2 : sB_T} {E : gE} {cu hd : gC} {t : gI} {A : gA} {o : Nat → Int64} {l : List Int32} {p : Nat} {a : Int32} {Q : sa_Q} {N D : List (List Int32)} {w d : List Int32} {B U K O : List Int32}
theorem k_X6_unpackEntry (hR : sB_R 1500 R l) (hp : p ≤ l.length) (hE : sE_R E (N ++ [[]]) (D ++ [[]]) B U K O) (hI : sIR N D p) (h1 : ∀ a E' x, r2 l p = .inl x → sE_R E' (N ++ [x.1.1]) (D ++ [x.1.2]) B U K O → Q (some (.inl 1)) (mkH F R D2 E' (cS l a (.inl x.2)) hd t A o)) (h0 : ∀ a E' w' d' e, r2 l p = .inr e → sE_R E' (N ++ [w']) (D ++ [d']) B U K O → Q (some (.inl 0)) (mkH F R D2 E' (cS l a (.inr e)) hd t A o)) : ct_X6_unpackEntry 0 0 [.inr (.inl (some 24)), .inr (.inl (some 13))] (mkH F R D2 E (cS l a (.inl p)) hd t A o) Q := by
  have hl := hR.2.1
  have hr : r2 l p = rX.b (eT l (sT 5) p) (fun p1 => rX.b (nm2 l p1) (fun p2 => rX.b (lnS l 61 15 p2 []) (fun x => rX.b (eS l 10 x.2) (fun p4 => rX.b (eT l (sT 6) p4) (fun p5 => .inl ((nmS l 20 p1, x.1), p5)))))) := rfl
  simp only [e_X6_unpackEntry, u_X6_unpackEntry_0, u_X6_unpackEntry_1, u_X6_unpackEntry_3, u_X6_unpackEntry_9, u_X6_unpackEntry_10, u_X6_unpackEntry_11, u_X6_unpackEntry_17, u_X6_unpackEntry_18, u_X6_unpackEntry_19, u_X6_unpackEntry_25, u_X6_unpackEntry_26, u_X6_unpackEntry_28, u_X6_unpackEntry_34, u_X6_unpackEntry_35, u_X6_unpackEntry_37, u_X6_unpackEntry_43, u_X6_unpackEntry_44, u_X6_unpackEntry_47, u_X6_unpackEntry_48, sa_sel, sa_split, so_aload, so_goto, so_push, so_stat, so_virt, so_zret, sa_nth, c24, List.cons_append, List.nil_append, Nat.reduceEqDiff, Option.toList_none, Option.toList_some, if_false, if_true, reduceIte, or_true, true_or, z10, z00, true_imp_iff, false_imp_iff, not_false_eq_true, not_true_eq_false, true_and, and_true, Nat.zero_le, Nat.sub_zero, List.length_cons, List.length_nil, Nat.reduceAdd, Nat.reduceLT, Nat.reduceLeDiff]
  refine k_X1_expectText hR hp (by decide) (fun a1 => ?_)
  cases c1 : eT l (sT 5) p with
  | inr e =>
    rw [c1, rX.b_no] at hr
    simp only [u_X6_unpackEntry_0, u_X6_unpackEntry_1, u_X6_unpackEntry_3, u_X6_unpackEntry_6, u_X6_unpackEntry_9, u_X6_unpackEntry_10, u_X6_unpackEntry_11, u_X6_unpackEntry_17, u_X6_unpackEntry_18, u_X6_unpackEntry_19, u_X6_unpackEntry_25, u_X6_unpackEntry_26, u_X6_unpackEntry_28, u_X6_unpackEntry_34, u_X6_unpackEntry_35, u_X6_unpackEntry_37, u_X6_unpackEntry_43, u_X6_unpackEntry_44, u_X6_unpackEntry_47, u_X6_unpackEntry_48, sa_sel, sa_split, so_aload, so_goto, so_if, so_push, so_stat, so_virt, so_zret, sa_nth, rb_no, List.cons_append, List.nil_append, Nat.reduceEqDiff, Option.toList_none, Option.toList_some, if_false, if_true, reduceIte, or_true, true_or, z10, z00, true_imp_iff, false_imp_iff, not_false_eq_true, not_true_eq_false, true_and, and_true, Nat.zero_le, Nat.sub_zero, List.length_cons, List.length_nil, Nat.reduceAdd, Nat.reduceLT, Nat.reduceLeDiff]
    exact h0 a1 E _ _ e hr hE
  | inl p1 =>
    rw [c1, rX.b_ok] at hr
    obtain ⟨a1', a2⟩ := eT_ok c1 hp
    simp only [u_X6_unpackEntry_0, u_X6_unpackEntry_1, u_X6_unpackEntry_3, u_X6_unpackEntry_6, u_X6_unpackEntry_9, u_X6_unpackEntry_10, u_X6_unpackEntry_11, u_X6_unpackEntry_17, u_X6_unpackEntry_18, u_X6_unpackEntry_19, u_X6_unpackEntry_25, u_X6_unpackEntry_26, u_X6_unpackEntry_28, u_X6_unpackEntry_34, u_X6_unpackEntry_35, u_X6_unpackEntry_37, u_X6_unpackEntry_43, u_X6_unpackEntry_44, u_X6_unpackEntry_47, u_X6_unpackEntry_48, sa_sel, sa_split, so_aload, so_goto, so_if, so_push, so_stat, so_virt, so_zret, sa_nth, rb_ok, List.cons_append, List.nil_append, Nat.reduceEqDiff, Option.toList_none, Option.toList_some, if_false, if_true, reduceIte, or_true, true_or, z10, z00, true_imp_iff, false_imp_iff, not_false_eq_true, not_true_eq_false, true_and, and_true, Nat.zero_le, Nat.sub_zero, List.length_cons, List.length_nil, Nat.reduceAdd, Nat.reduceLT, Nat.reduceLeDiff]
    refine k_X6_unpackName hR a2 hE hI.1 (fun a2' E2 hE2 => ?_)
    cases c2 : nm2 l p1 with
    | inr e =>
      rw [c2, rX.b_no] at hr
      simp only [u_X6_unpackEntry_0, u_X6_unpackEntry_1, u_X6_unpackEntry_3, u_X6_unpackEntry_9, u_X6_unpackEntry_10, u_X6_unpackEntry_11, u_X6_unpackEntry_14, u_X6_unpackEntry_17, u_X6_unpackEntry_18, u_X6_unpackEntry_19, u_X6_unpackEntry_25, u_X6_unpackEntry_26, u_X6_unpackEntry_28, u_X6_unpackEntry_34, u_X6_unpackEntry_35, u_X6_unpackEntry_37, u_X6_unpackEntry_43, u_X6_unpackEntry_44, u_X6_unpackEntry_47, u_X6_unpackEntry_48, sa_sel, sa_split, so_aload, so_goto, so_if, so_push, so_stat, so_virt, so_zret, sa_nth, rb_no, List.cons_append, List.nil_append, Nat.reduceEqDiff, Option.toList_none, Option.toList_some, if_false, if_true, reduceIte, or_true, true_or, z10, z00, true_imp_iff, false_imp_iff, not_false_eq_true, not_true_eq_false, true_and, and_true, Nat.zero_le, Nat.sub_zero, List.length_cons, List.length_nil, Nat.reduceAdd, Nat.reduceLT, Nat.reduceLeDiff]
      exact h0 a2' E2 _ _ e hr hE2
    | inl p2 =>
      rw [c2, rX.b_ok] at hr
      obtain ⟨b1, b2, b3⟩ := nm2_ok a2 c2
      simp only [u_X6_unpackEntry_0, u_X6_unpackEntry_1, u_X6_unpackEntry_3, u_X6_unpackEntry_9, u_X6_unpackEntry_10, u_X6_unpackEntry_11, u_X6_unpackEntry_14, u_X6_unpackEntry_17, u_X6_unpackEntry_18, u_X6_unpackEntry_19, u_X6_unpackEntry_25, u_X6_unpackEntry_26, u_X6_unpackEntry_28, u_X6_unpackEntry_34, u_X6_unpackEntry_35, u_X6_unpackEntry_37, u_X6_unpackEntry_43, u_X6_unpackEntry_44, u_X6_unpackEntry_47, u_X6_unpackEntry_48, sa_sel, sa_split, so_aload, so_goto, so_if, so_push, so_stat, so_virt, so_zret, sa_nth, rb_ok, List.cons_append, List.nil_append, Nat.reduceEqDiff, Option.toList_none, Option.toList_some, if_false, if_true, reduceIte, or_true, true_or, z10, z00, true_imp_iff, false_imp_iff, not_false_eq_true, not_true_eq_false, true_and, and_true, Nat.zero_le, Nat.sub_zero, List.length_cons, List.length_nil, Nat.reduceAdd, Nat.reduceLT, Nat.reduceLeDiff]
      refine k_X6_unpackLines hR b2 hE2 (by have := hI.2.2.1; omega) (fun a3 E3 x hx hE3 => ?_) (fun a3 E3 d3 e hx hE3 => ?_)
      · rw [hx, rX.b_ok] at hr
        obtain ⟨d1, d2, d3, d4⟩ := lnS_ok b2 (by simp) hx
        simp only [u_X6_unpackEntry_0, u_X6_unpackEntry_1, u_X6_unpackEntry_3, u_X6_unpackEntry_9, u_X6_unpackEntry_10, u_X6_unpackEntry_11, u_X6_unpackEntry_17, u_X6_unpackEntry_18, u_X6_unpackEntry_19, u_X6_unpackEntry_22, u_X6_unpackEntry_25, u_X6_unpackEntry_26, u_X6_unpackEntry_28, u_X6_unpackEntry_34, u_X6_unpackEntry_35, u_X6_unpackEntry_37, u_X6_unpackEntry_43, u_X6_unpackEntry_44, u_X6_unpackEntry_47, u_X6_unpackEntry_48, sa_sel, sa_split, so_aload, so_goto, so_if, so_push, so_stat, so_virt, so_zret, sa_nth, c24, List.cons_append, List.nil_append, Nat.reduceEqDiff, Option.toList_none, Option.toList_some, if_false, if_true, reduceIte, or_true, true_or, z10, z00, true_imp_iff, false_imp_iff, not_false_eq_true, not_true_eq_false, true_and, and_true, Nat.zero_le, Nat.sub_zero, List.length_cons, List.length_nil, Nat.reduceAdd, Nat.reduceLT, Nat.reduceLeDiff]
        refine k_X1_expect hR d2 10 (by decide) (fun a4 => ?_)
        cases c4 : eS l 10 x.2 with
        | inr e =>
          rw [c4, rX.b_no] at hr
          simp only [u_X6_unpackEntry_0, u_X6_unpackEntry_1, u_X6_unpackEntry_3, u_X6_unpackEntry_9, u_X6_unpackEntry_10, u_X6_unpackEntry_11, u_X6_unpackEntry_17, u_X6_unpackEntry_18, u_X6_unpackEntry_19, u_X6_unpackEntry_25, u_X6_unpackEntry_26, u_X6_unpackEntry_28, u_X6_unpackEntry_31, u_X6_unpackEntry_34, u_X6_unpackEntry_35, u_X6_unpackEntry_37, u_X6_unpackEntry_43, u_X6_unpackEntry_44, u_X6_unpackEntry_47, u_X6_unpackEntry_48, sa_sel, sa_split, so_aload, so_goto, so_if, so_push, so_stat, so_virt, so_zret, sa_nth, rb_no, List.cons_append, List.nil_append, Nat.reduceEqDiff, Option.toList_none, Option.toList_some, if_false, if_true, reduceIte, or_true, true_or, z10, z00, true_imp_iff, false_imp_iff, not_false_eq_true, not_true_eq_false, true_and, and_true, Nat.zero_le, Nat.sub_zero, List.length_cons, List.length_nil, Nat.reduceAdd, Nat.reduceLT, Nat.reduceLeDiff]
          exact h0 a4 E3 _ _ e hr hE3
        | inl p4 =>
          rw [c4, rX.b_ok] at hr
          obtain ⟨-, e4, e5⟩ := eS_ok c4
          simp only [u_X6_unpackEntry_0, u_X6_unpackEntry_1, u_X6_unpackEntry_3, u_X6_unpackEntry_9, u_X6_unpackEntry_10, u_X6_unpackEntry_11, u_X6_unpackEntry_17, u_X6_unpackEntry_18, u_X6_unpackEntry_19, u_X6_unpackEntry_25, u_X6_unpackEntry_26, u_X6_unpackEntry_28, u_X6_unpackEntry_31, u_X6_unpackEntry_34, u_X6_unpackEntry_35, u_X6_unpackEntry_37, u_X6_unpackEntry_43, u_X6_unpackEntry_44, u_X6_unpackEntry_47, u_X6_unpackEntry_48, sa_sel, sa_split, so_aload, so_goto, so_if, so_push, so_stat, so_virt, so_zret, sa_nth, rb_ok, c24, List.cons_append, List.nil_append, Nat.reduceEqDiff, Option.toList_none, Option.toList_some, if_false, if_true, reduceIte, or_true, true_or, z10, z00, true_imp_iff, false_imp_iff, not_false_eq_true, not_true_eq_false, true_and, and_true, Nat.zero_le, Nat.sub_zero, List.length_cons, List.length_nil, Nat.reduceAdd, Nat.reduceLT, Nat.reduceLeDiff]
          refine k_X1_expectText hR (by omega) (by decide) (fun a5 => ?_)
          cases c5 : eT l (sT 6) p4 with
          | inr e =>
            rw [c5, rX.b_no] at hr
            simp only [u_X6_unpackEntry_0, u_X6_unpackEntry_1, u_X6_unpackEntry_3, u_X6_unpackEntry_9, u_X6_unpackEntry_10, u_X6_unpackEntry_11, u_X6_unpackEntry_17, u_X6_unpackEntry_18, u_X6_unpackEntry_19, u_X6_unpackEntry_25, u_X6_unpackEntry_26, u_X6_unpackEntry_28, u_X6_unpackEntry_34, u_X6_unpackEntry_35, u_X6_unpackEntry_37, u_X6_unpackEntry_40, u_X6_unpackEntry_43, u_X6_unpackEntry_44, u_X6_unpackEntry_47, u_X6_unpackEntry_48, sa_sel, sa_split, so_aload, so_goto, so_if, so_push, so_stat, so_virt, so_zret, sa_nth, rb_no, List.cons_append, List.nil_append, Nat.reduceEqDiff, Option.toList_none, Option.toList_some, if_false, if_true, reduceIte, or_true, true_or, z10, z00, true_imp_iff, false_imp_iff, not_false_eq_true, not_true_eq_false, true_and, and_true, Nat.zero_le, Nat.sub_zero, List.length_cons, List.length_nil, Nat.reduceAdd, Nat.reduceLT, Nat.reduceLeDiff]
            exact h0 a5 E3 _ _ e hr hE3
          | inl p5 =>
            rw [c5, rX.b_ok] at hr
            simp only [u_X6_unpackEntry_0, u_X6_unpackEntry_1, u_X6_unpackEntry_3, u_X6_unpackEntry_9, u_X6_unpackEntry_10, u_X6_unpackEntry_11, u_X6_unpackEntry_17, u_X6_unpackEntry_18, u_X6_unpackEntry_19, u_X6_unpackEntry_25, u_X6_unpackEntry_26, u_X6_unpackEntry_28, u_X6_unpackEntry_34, u_X6_unpackEntry_35, u_X6_unpackEntry_37, u_X6_unpackEntry_40, u_X6_unpackEntry_43, u_X6_unpackEntry_44, u_X6_unpackEntry_47, u_X6_unpackEntry_48, sa_sel, sa_split, so_aload, so_goto, so_if, so_push, so_stat, so_virt, so_zret, sa_nth, rb_ok, List.cons_append, List.nil_append, Nat.reduceEqDiff, Option.toList_none, Option.toList_some, if_false, if_true, reduceIte, or_true, true_or, z10, z00, true_imp_iff, false_imp_iff, not_false_eq_true, not_true_eq_false, true_and, and_true, Nat.zero_le, Nat.sub_zero, List.length_cons, List.length_nil, Nat.reduceAdd, Nat.reduceLT, Nat.reduceLeDiff]
            exact h1 a5 E3 _ hr hE3
      · rw [hx, rX.b_no] at hr
        simp only [u_X6_unpackEntry_0, u_X6_unpackEntry_1, u_X6_unpackEntry_3, u_X6_unpackEntry_9, u_X6_unpackEntry_10, u_X6_unpackEntry_11, u_X6_unpackEntry_17, u_X6_unpackEntry_18, u_X6_unpackEntry_19, u_X6_unpackEntry_22, u_X6_unpackEntry_25, u_X6_unpackEntry_26, u_X6_unpackEntry_28, u_X6_unpackEntry_34, u_X6_unpackEntry_35, u_X6_unpackEntry_37, u_X6_unpackEntry_43, u_X6_unpackEntry_44, u_X6_unpackEntry_47, u_X6_unpackEntry_48, sa_sel, sa_split, so_aload, so_goto, so_if, so_push, so_stat, so_virt, so_zret, sa_nth, List.cons_append, List.nil_append, Nat.reduceEqDiff, Option.toList_none, Option.toList_some, if_false, if_true, reduceIte, or_true, true_or, z10, z00, true_imp_iff, false_imp_iff, not_false_eq_true, not_true_eq_false, true_and, and_true, Nat.zero_le, Nat.sub_zero, List.length_cons, List.length_nil, Nat.reduceAdd, Nat.reduceLT, Nat.reduceLeDiff]
        exact h0 a3 E3 _ _ e hr hE3
theorem k_X6_unpack (hR : sB_R 1500 R l) (hE : sE_R E [] [] [] [] [] []) (h : ∀ a E' (z : gL) r, lq2 l 126 0 ([], [], []) = (z, r) → sE_R E' z.1 z.2.1 z.2.2 (List.replicate z.1.length 0) (List.replicate z.1.length 1) (rgN z.1.length) → (∀ p, r = .inl p → p = l.length) → sIE z.1 z.2.1 → Q none (mkH F R D2 E' (cS l a r) hd t A o)) : ct_X6_unpack 0 0 [.inr (.inl (some 27)), .inr (.inl (some 24)), .inr (.inl (some 13))] (mkH F R D2 E (cS l a (.inl 0)) hd t A o) Q := by
  have hl := hR.2.1
  have done : ∀ (k : Nat) (z : gL) (r : rX Nat) (E1 : gE) (a : Int32), k ≤ 126 → (k < 126 → ∀ p, r = .inl p → p = l.length) → (k = 126 → ∀ p, r = .inl p → 1512 ≤ p) → (∀ p, r = .inl p → p ≤ l.length) → lq2 l 126 0 ([], [], []) = (z, r) → sE_R E1 z.1 z.2.1 z.2.2 (List.replicate z.1.length 0) (List.replicate z.1.length 1) (rgN z.1.length) → sIE z.1 z.2.1 → sa_w tb_X6_unpack (2, [some (.inr (.inl (some 27))), some (.inr (.inl (some 24))), some (.inr (.inl (some 13))), some (.inl (nI k))], [], mkH F R D2 E1 (cS l a r) hd t A o, 0, 0) Q := by
    intro k z r E1 a hk he1 he2 hrl hz hE1 hI
    have hfin : ∀ p, r = .inl p → p = l.length := by
      intro p hp
      rcases Nat.lt_or_ge k 126 with q | q
      · exact he1 q p hp
      · have := he2 (by omega) p hp
        have := hrl p hp
        omega
    rw [u_X6_unpack_2]
    simp only [u_X6_unpack_0, u_X6_unpack_1, u_X6_unpack_3, u_X6_unpack_5, u_X6_unpack_8, u_X6_unpack_9, u_X6_unpack_15, u_X6_unpack_16, u_X6_unpack_17, u_X6_unpack_24, u_X6_unpack_25, u_X6_unpack_31, u_X6_unpack_32, u_X6_unpack_38, u_X6_unpack_41, sa_put, sa_sel, sa_split, so_aload, so_cmp, so_goto, so_iload, so_istore, so_push, so_ret, so_stat, so_virt, sa_nth, c24, List.cons_append, List.nil_append, Nat.reduceEqDiff, Option.toList_none, Option.toList_some, if_false, if_true, reduceIte, or_true, true_or, z10, z00, true_imp_iff, false_imp_iff, not_false_eq_true, not_true_eq_false, true_and, and_true, Nat.zero_le, Nat.sub_zero, List.length_cons, List.length_nil, Nat.reduceAdd, Nat.reduceLT, Nat.reduceLeDiff]
    rw [show (126 : Int32) = nI 126 from rfl, nI_leI (by omega) (by omega)]
    refine ⟨fun _ => h a E1 z r hz hE1 hfin hI, fun q => ?_⟩
    refine k_X1_hasMore r hrl hl (fun p hp hlt => ?_) (fun _ => ?_)
    · have := hfin p hp; omega
    · simp only [u_X6_unpack_0, u_X6_unpack_1, u_X6_unpack_3, u_X6_unpack_5, u_X6_unpack_8, u_X6_unpack_9, u_X6_unpack_12, u_X6_unpack_15, u_X6_unpack_16, u_X6_unpack_17, u_X6_unpack_24, u_X6_unpack_25, u_X6_unpack_31, u_X6_unpack_32, u_X6_unpack_38, u_X6_unpack_41, sa_put, sa_sel, sa_split, so_aload, so_cmp, so_goto, so_if, so_istore, so_push, so_ret, so_stat, so_virt, sa_nth, List.cons_append, List.nil_append, Nat.reduceEqDiff, Option.toList_none, Option.toList_some, if_false, if_true, reduceIte, or_true, true_or, z10, z00, true_imp_iff, false_imp_iff, not_false_eq_true, not_true_eq_false, true_and, and_true, Nat.zero_le, Nat.sub_zero, List.length_cons, List.length_nil, Nat.reduceAdd, Nat.reduceLT, Nat.reduceLeDiff]
      exact h a E1 z r hz hE1 hfin hI
  have loop : ∀ (f k p : Nat) (z : gL) (E1 : gE) (a : Int32), k + f = 126 → p ≤ l.length → 12 * k ≤ p → lq2 l 126 0 ([], [], []) = lq2 l f p z → sE_R E1 z.1 z.2.1 z.2.2 (List.replicate z.1.length 0) (List.replicate z.1.length 1) (rgN z.1.length) → sIR z.1 z.2.1 p → sa_w tb_X6_unpack (2, [some (.inr (.inl (some 27))), some (.inr (.inl (some 24))), some (.inr (.inl (some 13))), some (.inl (nI k))], [], mkH F R D2 E1 (cS l a (.inl p)) hd t A o, 0, 0) Q := by
    intro f
    induction f with
    | zero =>
      intro k p z E1 a hk hp h12 hz hE1 hI
      omega
    | succ f ih =>
      intro k p z E1 a hk hp h12 hz hE1 hI
      rcases Nat.lt_or_ge p l.length with hlt | hge
      · have h4 := hI.2.2.2
        rw [u_X6_unpack_2]
        simp only [u_X6_unpack_0, u_X6_unpack_1, u_X6_unpack_3, u_X6_unpack_5, u_X6_unpack_8, u_X6_unpack_9, u_X6_unpack_15, u_X6_unpack_16, u_X6_unpack_17, u_X6_unpack_24, u_X6_unpack_25, u_X6_unpack_31, u_X6_unpack_32, u_X6_unpack_38, u_X6_unpack_41, sa_put, sa_sel, sa_split, so_aload, so_cmp, so_goto, so_iload, so_istore, so_push, so_ret, so_stat, so_virt, sa_nth, c24, List.cons_append, List.nil_append, Nat.reduceEqDiff, Option.toList_none, Option.toList_some, if_false, if_true, reduceIte, or_true, true_or, z10, z00, true_imp_iff, false_imp_iff, not_false_eq_true, not_true_eq_false, true_and, and_true, Nat.zero_le, Nat.sub_zero, List.length_cons, List.length_nil, Nat.reduceAdd, Nat.reduceLT, Nat.reduceLeDiff]
        rw [show (126 : Int32) = nI 126 from rfl, nI_leI (by omega) (by omega)]
        refine ⟨fun q => absurd q (by omega), fun q => ?_⟩
        refine k_X1_hasMore (.inl p) (fun x e => by rw [← Sum.inl.inj e]; exact hp) hl (fun x hx _ => ?_) (fun c => absurd (c p rfl) (by omega))
        simp only [u_X6_unpack_0, u_X6_unpack_1, u_X6_unpack_3, u_X6_unpack_5, u_X6_unpack_8, u_X6_unpack_9, u_X6_unpack_12, u_X6_unpack_15, u_X6_unpack_16, u_X6_unpack_17, u_X6_unpack_24, u_X6_unpack_25, u_X6_unpack_31, u_X6_unpack_32, u_X6_unpack_38, u_X6_unpack_41, sa_put, sa_sel, sa_split, so_aload, so_cmp, so_goto, so_if, so_istore, so_push, so_ret, so_stat, so_virt, sa_nth, c24, List.cons_append, List.nil_append, Nat.reduceEqDiff, Option.toList_none, Option.toList_some, if_false, if_true, reduceIte, or_true, true_or, z10, z00, true_imp_iff, false_imp_iff, not_false_eq_true, not_true_eq_false, true_and, and_true, Nat.zero_le, Nat.sub_zero, List.length_cons, List.length_nil, Nat.reduceAdd, Nat.reduceLT, Nat.reduceLeDiff]
        refine k_X1_position ?_
        simp only [u_X6_unpack_0, u_X6_unpack_1, u_X6_unpack_3, u_X6_unpack_5, u_X6_unpack_8, u_X6_unpack_9, u_X6_unpack_15, u_X6_unpack_16, u_X6_unpack_17, u_X6_unpack_20, u_X6_unpack_24, u_X6_unpack_25, u_X6_unpack_31, u_X6_unpack_32, u_X6_unpack_38, u_X6_unpack_41, sa_put, sa_sel, sa_split, so_aload, so_cmp, so_goto, so_istore, so_push, so_ret, so_stat, so_virt, sa_nth, c13, List.cons_append, List.nil_append, Nat.reduceEqDiff, Option.toList_none, Option.toList_some, if_false, if_true, reduceIte, or_true, true_or, z10, z00, true_imp_iff, false_imp_iff, not_false_eq_true, not_true_eq_false, true_and, and_true, Nat.zero_le, Nat.sub_zero, List.length_cons, List.length_nil, Nat.reduceAdd, Nat.reduceLT, Nat.reduceLeDiff]
        refine k_X2_begin (mk_E F R D2 _ hd t A o) hE1 (by omega) _ (fun E2 hE2 => ?_)
        simp only [u_X6_unpack_0, u_X6_unpack_1, u_X6_unpack_3, u_X6_unpack_5, u_X6_unpack_8, u_X6_unpack_9, u_X6_unpack_15, u_X6_unpack_16, u_X6_unpack_17, u_X6_unpack_23, u_X6_unpack_24, u_X6_unpack_25, u_X6_unpack_31, u_X6_unpack_32, u_X6_unpack_38, u_X6_unpack_41, sa_put, sa_sel, sa_split, so_aload, so_cmp, so_goto, so_istore, so_push, so_ret, so_stat, so_virt, sa_nth, List.cons_append, List.nil_append, Nat.reduceEqDiff, Option.toList_none, Option.toList_some, if_false, if_true, reduceIte, or_true, true_or, z10, z00, true_imp_iff, false_imp_iff, not_false_eq_true, not_true_eq_false, true_and, and_true, Nat.zero_le, Nat.sub_zero, List.length_cons, List.length_nil, Nat.reduceAdd, Nat.reduceLT, Nat.reduceLeDiff]
        refine k_X6_unpackEntry hR hp hE2 hI (fun a3 E3 x hx hE3 => ?_) (fun a3 E3 w3 d3 e hx hE3 => ?_)
        · obtain ⟨s1, s2, s3, s4, s5⟩ := r2_ok hp hx
          simp only [u_X6_unpack_0, u_X6_unpack_1, u_X6_unpack_3, u_X6_unpack_5, u_X6_unpack_8, u_X6_unpack_9, u_X6_unpack_15, u_X6_unpack_16, u_X6_unpack_17, u_X6_unpack_24, u_X6_unpack_25, u_X6_unpack_28, u_X6_unpack_31, u_X6_unpack_32, u_X6_unpack_35, u_X6_unpack_38, u_X6_unpack_41, sa_put, sa_sel, sa_split, so_aload, so_cmp, so_goto, so_if, so_iinc, so_istore, so_push, so_ret, so_stat, so_virt, sa_nth, List.cons_append, List.nil_append, Nat.reduceEqDiff, Option.toList_none, Option.toList_some, if_false, if_true, reduceIte, or_true, true_or, z10, z00, true_imp_iff, false_imp_iff, not_false_eq_true, not_true_eq_false, true_and, and_true, Nat.zero_le, Nat.sub_zero, List.length_cons, List.length_nil, Nat.reduceAdd, Nat.reduceLT, Nat.reduceLeDiff]
          rw [nI_1]
          refine ih (k + 1) x.2 (z.1 ++ [x.1.1], z.2.1 ++ [x.1.2], z.2.2 ++ [nI p]) E3 a3 (by omega) s4 (by omega) (by rw [hz, lq2_in hlt hx]) ?_ (sIR_app hI s1 s2 s3 s5)
          dsimp only
          rw [List.length_append, List.length_cons, List.length_nil, Nat.zero_add, List.replicate_succ', List.replicate_succ', rgN_s]
          exact hE3
        · simp only [u_X6_unpack_0, u_X6_unpack_1, u_X6_unpack_3, u_X6_unpack_5, u_X6_unpack_8, u_X6_unpack_9, u_X6_unpack_15, u_X6_unpack_16, u_X6_unpack_17, u_X6_unpack_24, u_X6_unpack_25, u_X6_unpack_28, u_X6_unpack_31, u_X6_unpack_32, u_X6_unpack_38, u_X6_unpack_41, sa_put, sa_sel, sa_split, so_aload, so_cmp, so_goto, so_if, so_istore, so_push, so_ret, so_stat, so_virt, sa_nth, c13, List.cons_append, List.nil_append, Nat.reduceEqDiff, Option.toList_none, Option.toList_some, if_false, if_true, reduceIte, or_true, true_or, z10, z00, true_imp_iff, false_imp_iff, not_false_eq_true, not_true_eq_false, true_and, and_true, Nat.zero_le, Nat.sub_zero, List.length_cons, List.length_nil, Nat.reduceAdd, Nat.reduceLT, Nat.reduceLeDiff]
          refine kE_dropLast (mk_E F R D2 _ hd t A o) hE3 (fun E4 hE4 => ?_)
          simp only [u_X6_unpack_0, u_X6_unpack_1, u_X6_unpack_3, u_X6_unpack_5, u_X6_unpack_8, u_X6_unpack_9, u_X6_unpack_15, u_X6_unpack_16, u_X6_unpack_17, u_X6_unpack_24, u_X6_unpack_25, u_X6_unpack_31, u_X6_unpack_32, u_X6_unpack_35, u_X6_unpack_38, u_X6_unpack_41, sa_put, sa_sel, sa_split, so_aload, so_cmp, so_goto, so_iinc, so_istore, so_push, so_ret, so_stat, so_virt, sa_nth, List.cons_append, List.nil_append, Nat.reduceEqDiff, Option.toList_none, Option.toList_some, if_false, if_true, reduceIte, or_true, true_or, z10, z00, true_imp_iff, false_imp_iff, not_false_eq_true, not_true_eq_false, true_and, and_true, Nat.zero_le, Nat.sub_zero, List.length_cons, List.length_nil, Nat.reduceAdd, Nat.reduceLT, Nat.reduceLeDiff]
          rw [nI_1]
          exact done (k + 1) z (.inr e) E4 a3 (by omega) (fun _ p hp => by simp at hp) (fun _ p hp => by simp at hp) (fun p hp => by simp at hp) (by rw [hz, lq2_no hlt hx]) hE4 ⟨hI.1, hI.2.1⟩
      · exact done k z (.inl p) E1 a (by omega) (fun _ x hx => by rw [← Sum.inl.inj hx]; omega) (fun _ x hx => by rw [← Sum.inl.inj hx]; omega) (fun x hx => by rw [← Sum.inl.inj hx]; omega) (by rw [hz, lq2_end (by omega)]) hE1 ⟨hI.1, hI.2.1⟩
  simp only [e_X6_unpack, u_X6_unpack_0, u_X6_unpack_1, u_X6_unpack_3, u_X6_unpack_5, u_X6_unpack_8, u_X6_unpack_9, u_X6_unpack_15, u_X6_unpack_16, u_X6_unpack_17, u_X6_unpack_24, u_X6_unpack_25, u_X6_unpack_31, u_X6_unpack_32, u_X6_unpack_38, u_X6_unpack_41, sa_put, sa_sel, sa_split, so_aload, so_cmp, so_goto, so_istore, so_push, so_ret, so_stat, so_virt, sa_nth, List.cons_append, List.nil_append, Nat.reduceEqDiff, Option.toList_none, Option.toList_some, if_false, if_true, reduceIte, or_true, true_or, z10, z00, true_imp_iff, false_imp_iff, not_false_eq_true, not_true_eq_false, true_and, and_true, Nat.zero_le, Nat.sub_zero, List.length_cons, List.length_nil, Nat.reduceAdd, Nat.reduceLT, Nat.reduceLeDiff]
  exact loop 126 0 0 ([], [], []) E a rfl (by omega) (by omega) rfl hE ⟨by simp, by simp, by simp, by simp⟩
end LR3
