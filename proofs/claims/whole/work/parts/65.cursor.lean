/-! READING: what comes out, and the cursor -/
abbrev kN : Fin 6 := 0
abbrev kI : Fin 6 := 1
abbrev kZ : Fin 6 := 2
abbrev kF : Fin 6 := 3
abbrev kS : Fin 6 := 4
abbrev kL : Fin 6 := 5
def kv (k : Fin 6) : Int32 := nI (k.val + 1)
theorem kv_ne : ∀ k : Fin 6, ¬ kv k = 0 := by decide
abbrev rX (α : Type) : Type := α ⊕ (Fin 6 × Nat)
def rX.b {α β : Type} (r : rX α) (f : α → rX β) : rX β := match r with
  | .inl a => f a
  | .inr e => .inr e
theorem rX.b_ok {α β : Type} (a : α) (f : α → rX β) : rX.b (.inl a) f = f a := rfl
theorem rX.b_no {α β : Type} (e : Fin 6 × Nat) (f : α → rX β) : rX.b (.inr e) f = .inr e := rfl
theorem rX.b_b {α β γ : Type} (r : rX α) (f : α → rX β) (g : β → rX γ) : rX.b (rX.b r f) g = rX.b r (fun x => rX.b (f x) g) := by cases r <;> rfl
def rb {α : Type} : rX α → Int32
  | .inl _ => 1
  | .inr _ => 0
theorem rb_ok {α : Type} (a : α) : rb (.inl a) = 1 := rfl
theorem rb_no {α : Type} (e : Fin 6 × Nat) : rb (.inr e : rX α) = 0 := rfl
def rf {α : Type} (l : List Int32) (p : Nat) : rX α := if p < l.length then .inr (kF, p) else .inr (kI, l.length)
def eS (l : List Int32) (c : Int32) (p : Nat) : rX Nat := if l[p]? = some c then .inl (p + 1) else rf l p
def eT (l : List Int32) : List Int32 → Nat → rX Nat
  | [], p => .inl p
  | c :: w, p => rX.b (eS l c p) (eT l w)
theorem eT_app (l u v : List Int32) (p : Nat) : eT l (u ++ v) p = rX.b (eT l u p) (eT l v) := by
  induction u generalizing p with
  | nil => rfl
  | cons c u ih =>
    show rX.b (eS l c p) (eT l (u ++ v)) = rX.b (rX.b (eS l c p) (eT l u)) (eT l v)
    cases eS l c p with
    | inl a => exact ih a
    | inr kq =>
      obtain ⟨k, q⟩ := kq; rfl
theorem rf_no {α : Type} (l : List Int32) (p : Nat) : ∃ k q, (rf l p : rX α) = .inr (k, q) := by
  unfold rf
  split
  · exact ⟨_, _, rfl⟩
  · exact ⟨_, _, rfl⟩
theorem eS_ok {l : List Int32} {c : Int32} {p p' : Nat} (h : eS l c p = .inl p') : l[p]? = some c ∧ p' = p + 1 ∧ p < l.length := by
  unfold eS at h
  split at h
  · next q =>
    exact ⟨q, (Sum.inl.inj h).symm, (List.getElem?_eq_some_iff.mp q).1⟩
  · obtain ⟨k, q, e⟩ := rf_no (α := Nat) l p
    rw [e] at h; exact absurd h (by simp)
theorem eT_ok {l w : List Int32} {p p' : Nat} (h : eT l w p = .inl p') (hp : p ≤ l.length) : p' = p + w.length ∧ p' ≤ l.length := by
  induction w generalizing p with
  | nil => exact ⟨(Sum.inl.inj h).symm, by rw [← Sum.inl.inj h]; exact hp⟩
  | cons c w ih =>
    change rX.b (eS l c p) (eT l w) = _ at h
    cases hc : eS l c p with
    | inl a =>
      rw [hc] at h
      obtain ⟨-, e, e2⟩ := eS_ok hc
      have := ih (p := a) h (by omega)
      rw [List.length_cons]
      omega
    | inr kq =>
      obtain ⟨k, q⟩ := kq; rw [hc] at h; exact absurd h (by simp [rX.b])
def cS (l : List Int32) (a : Int32) : rX Nat → gC
  | .inl p => (nI p, nI l.length, 0, -1)
  | .inr (k, q) => (a, nI l.length, (kv k), nI q)
def pk (l : List Int32) (p : Nat) : Int32 := (l[p]?).getD (-1)
theorem pe_lt {l : List Int32} {p : Nat} (h : ¬ pk l p = -1) : p < l.length := by
  rcases Nat.lt_or_ge p l.length with q | q
  · exact q
  · exact absurd (by unfold pk; rw [List.getElem?_eq_none q]; rfl) h
theorem pe_some {l : List Int32} {p : Nat} (h : p < l.length) : l[p]? = some (pk l p) := by
  unfold pk
  rw [List.getElem?_eq_getElem h]; rfl
section CUR
variable {F : gF} {R D2 : sB_T} {E : gE} {cu hd : gC} {t : gI} {A : gA} {o : Nat → Int64} {l : List Int32} {p : Nat} {a : Int32} {Q : sa_Q}
theorem c24 : sa_nth (mkH F R D2 E cu hd t A o) 24 = some (.inr (1, [.inr (.inl (some 9)), .inl cu.1, .inl cu.2.1, .inl cu.2.2.1, .inl cu.2.2.2])) := rfl
theorem c24p (x y z w : Int32) : sa_put (mkH F R D2 E cu hd t A o) 24 (.inr (1, [.inr (.inl (some 9)), .inl x, .inl y, .inl z, .inl w])) = mkH F R D2 E (x, y, z, w) hd t A o := rfl
theorem c9 : sa_nth (mkH F R D2 E cu hd t A o) 9 = some (.inr (0, [.inr (.inl (some 10)), .inl R.2.1, .inl R.2.2])) := rfl
theorem c13 : sa_nth (mkH F R D2 E cu hd t A o) 13 = some (.inr (2, [.inr (.inl (some 14)), .inr (.inl (some 17)), .inr (.inl (some 20)), .inr (.inl (some 21)), .inr (.inl (some 22)), .inr (.inl (some 23))])) := rfl
theorem cS_ok (l : List Int32) (a : Int32) (p : Nat) : cS l a (.inl p) = (nI p, nI l.length, 0, -1) := rfl
theorem cS_no (l : List Int32) (a : Int32) (k : Fin 6) (q : Nat) : cS l a (.inr (k, q)) = (a, nI l.length, (kv k), nI q) := rfl
theorem k_X1_restart (hR : sB_R 1500 R l) (h : Q none (mkH F R D2 E (cS l 0 (.inl 0)) hd t A o)) : ct_X1_restart 0 0 [.inr (.inl (some 24))] (mkH F R D2 E cu hd t A o) Q := by
  simp only [e_X1_restart, u_X1_restart_0, u_X1_restart_1, u_X1_restart_2, u_X1_restart_5, u_X1_restart_6, u_X1_restart_7, u_X1_restart_10, u_X1_restart_16, u_X1_restart_17, u_X1_restart_18, u_X1_restart_21, u_X1_restart_22, u_X1_restart_23, u_X1_restart_26, sa_put, sa_sel, sa_split, so_aload, so_get, so_push, so_put, so_ret, so_virt, sa_nth, c24, c24p, c9, List.cons_append, List.nil_append, Nat.reduceEqDiff, Option.toList_none, Option.toList_some, if_false, if_true, reduceIte, sc_1, sf_0, sf_1, sf_i, sf_r, or_true, true_or, z10, z00, true_imp_iff, false_imp_iff, not_false_eq_true, not_true_eq_false, true_and, and_true, Nat.zero_le, Nat.sub_zero, List.length_cons, List.length_nil, Nat.reduceAdd, Nat.reduceLT, Nat.reduceLeDiff]
  refine k_X0_size (mk_R F D2 E _ hd t A o) hR ?_
  simp only [u_X1_restart_0, u_X1_restart_1, u_X1_restart_2, u_X1_restart_5, u_X1_restart_6, u_X1_restart_7, u_X1_restart_10, u_X1_restart_13, u_X1_restart_16, u_X1_restart_17, u_X1_restart_18, u_X1_restart_21, u_X1_restart_22, u_X1_restart_23, u_X1_restart_26, sa_put, sa_sel, sa_split, so_aload, so_get, so_push, so_put, so_ret, so_virt, sa_nth, c24, c24p, c9, List.cons_append, List.nil_append, Nat.reduceEqDiff, Option.toList_none, Option.toList_some, if_false, if_true, reduceIte, sc_1, sf_0, sf_1, sf_i, sf_r, or_true, true_or, z10, z00, true_imp_iff, false_imp_iff, not_false_eq_true, not_true_eq_false, true_and, and_true, Nat.zero_le, Nat.sub_zero, List.length_cons, List.length_nil, Nat.reduceAdd, Nat.reduceLT, Nat.reduceLeDiff]
  exact h
theorem k_X1_position (h : Q (some (.inl (nI p))) (mkH F R D2 E (cS l a (.inl p)) hd t A o)) : ct_X1_position 0 0 [.inr (.inl (some 24))] (mkH F R D2 E (cS l a (.inl p)) hd t A o) Q := by
  simp only [e_X1_position, u_X1_position_0, u_X1_position_1, u_X1_position_4, so_aload, so_get, so_iret, sa_nth, c24, cS_ok, sc_1, or_true, true_or, z10, z00, true_imp_iff, false_imp_iff, not_false_eq_true, not_true_eq_false, true_and, and_true, Nat.zero_le, Nat.sub_zero, List.length_cons, List.length_nil, Nat.reduceAdd, Nat.reduceLT, Nat.reduceLeDiff]
  exact h
theorem k_X1_hasMore (r : rX Nat) (hp : ∀ p, r = .inl p → p ≤ l.length) (hl : l.length ≤ 1500) (h1 : ∀ p, r = .inl p → p < l.length → Q (some (.inl 1)) (mkH F R D2 E (cS l a r) hd t A o)) (h0 : (∀ p, r = .inl p → p = l.length) → Q (some (.inl 0)) (mkH F R D2 E (cS l a r) hd t A o)) : ct_X1_hasMore 0 0 [.inr (.inl (some 24))] (mkH F R D2 E (cS l a r) hd t A o) Q := by
  cases r with
  | inl p =>
    have := hp p rfl
    simp only [e_X1_hasMore, u_X1_hasMore_0, u_X1_hasMore_1, u_X1_hasMore_4, u_X1_hasMore_7, u_X1_hasMore_8, u_X1_hasMore_11, u_X1_hasMore_12, u_X1_hasMore_15, u_X1_hasMore_18, u_X1_hasMore_19, u_X1_hasMore_22, u_X1_hasMore_23, so_aload, so_cmp, so_get, so_goto, so_if, so_push, so_zret, sa_nth, c24, cS_ok, sc_1, or_true, true_or, z10, z00, true_imp_iff, false_imp_iff, not_false_eq_true, not_true_eq_false, true_and, and_true, Nat.zero_le, Nat.sub_zero, List.length_cons, List.length_nil, Nat.reduceAdd, Nat.reduceLT, Nat.reduceLeDiff]
    rw [nI_leI (by omega) (by omega)]
    exact ⟨fun q => h0 (fun x e => by rw [← Sum.inl.inj e]; omega), fun q => h1 p rfl (by omega)⟩
  | inr kq =>
    obtain ⟨k, q⟩ := kq
    simp only [e_X1_hasMore, u_X1_hasMore_0, u_X1_hasMore_1, u_X1_hasMore_4, u_X1_hasMore_7, u_X1_hasMore_8, u_X1_hasMore_11, u_X1_hasMore_12, u_X1_hasMore_15, u_X1_hasMore_18, u_X1_hasMore_19, u_X1_hasMore_22, u_X1_hasMore_23, so_aload, so_cmp, so_get, so_goto, so_if, so_push, so_zret, sa_nth, c24, cS_no, sc_1, or_true, true_or, z10, z00, true_imp_iff, false_imp_iff, not_false_eq_true, not_true_eq_false, true_and, and_true, Nat.zero_le, Nat.sub_zero, List.length_cons, List.length_nil, Nat.reduceAdd, Nat.reduceLT, Nat.reduceLeDiff]
    exact ⟨fun c => absurd c (kv_ne k), fun _ => h0 (fun x e => by simp at e)⟩
theorem k_X1_hasFinding (r : rX Nat) (h0 : ∀ p, r = .inl p → Q (some (.inl 0)) (mkH F R D2 E (cS l a r) hd t A o)) (h1 : ∀ e, r = .inr e → Q (some (.inl 1)) (mkH F R D2 E (cS l a r) hd t A o)) : ct_X1_hasFinding 0 0 [.inr (.inl (some 24))] (mkH F R D2 E (cS l a r) hd t A o) Q := by
  cases r with
  | inl p =>
    simp only [e_X1_hasFinding, u_X1_hasFinding_0, u_X1_hasFinding_1, u_X1_hasFinding_4, u_X1_hasFinding_7, u_X1_hasFinding_8, u_X1_hasFinding_11, u_X1_hasFinding_12, so_aload, so_get, so_goto, so_if, so_push, so_zret, sa_nth, c24, cS_ok, sc_1, or_true, true_or, z10, z00, true_imp_iff, false_imp_iff, not_false_eq_true, not_true_eq_false, true_and, and_true, Nat.zero_le, Nat.sub_zero, List.length_cons, List.length_nil, Nat.reduceAdd, Nat.reduceLT, Nat.reduceLeDiff]
    exact h0 p rfl
  | inr kq =>
    obtain ⟨k, q⟩ := kq
    simp only [e_X1_hasFinding, u_X1_hasFinding_0, u_X1_hasFinding_1, u_X1_hasFinding_4, u_X1_hasFinding_7, u_X1_hasFinding_8, u_X1_hasFinding_11, u_X1_hasFinding_12, so_aload, so_get, so_goto, so_if, so_push, so_zret, sa_nth, c24, cS_no, sc_1, or_true, true_or, z10, z00, true_imp_iff, false_imp_iff, not_false_eq_true, not_true_eq_false, true_and, and_true, Nat.zero_le, Nat.sub_zero, List.length_cons, List.length_nil, Nat.reduceAdd, Nat.reduceLT, Nat.reduceLeDiff]
    exact ⟨fun c => absurd c (kv_ne k), fun _ => h1 _ rfl⟩
theorem k_X1_findingKind {k : Fin 6} {q : Nat} (h : Q (some (.inl (kv k))) (mkH F R D2 E (cS l a (.inr (k, q))) hd t A o)) : ct_X1_findingKind 0 0 [.inr (.inl (some 24))] (mkH F R D2 E (cS l a (.inr (k, q))) hd t A o) Q := by
  simp only [e_X1_findingKind, u_X1_findingKind_0, u_X1_findingKind_1, u_X1_findingKind_4, so_aload, so_get, so_iret, sa_nth, c24, cS_no, sc_1, or_true, true_or, z10, z00, true_imp_iff, false_imp_iff, not_false_eq_true, not_true_eq_false, true_and, and_true, Nat.zero_le, Nat.sub_zero, List.length_cons, List.length_nil, Nat.reduceAdd, Nat.reduceLT, Nat.reduceLeDiff]
  exact h
theorem k_X1_byteAt (hR : sB_R 1500 R l) (i : Int32) (h : Q (some (.inl (sS_at l i))) (mkH F R D2 E cu hd t A o)) : ct_X1_byteAt 0 0 [.inr (.inl (some 24)), .inl i] (mkH F R D2 E cu hd t A o) Q := by
  simp only [e_X1_byteAt, u_X1_byteAt_0, u_X1_byteAt_1, u_X1_byteAt_4, u_X1_byteAt_5, sa_sel, sa_split, so_aload, so_get, so_iload, so_virt, sa_nth, c24, c9, List.cons_append, List.nil_append, Nat.reduceEqDiff, Option.toList_none, Option.toList_some, if_false, if_true, reduceIte, sc_1, or_true, true_or, z10, z00, true_imp_iff, false_imp_iff, not_false_eq_true, not_true_eq_false, true_and, and_true, Nat.zero_le, Nat.sub_zero, List.length_cons, List.length_nil, Nat.reduceAdd, Nat.reduceLT, Nat.reduceLeDiff]
  refine k_X0_at (mk_R F D2 E cu hd t A o) hR _ ?_
  simp only [u_X1_byteAt_0, u_X1_byteAt_1, u_X1_byteAt_4, u_X1_byteAt_5, u_X1_byteAt_8, sa_sel, sa_split, so_aload, so_get, so_iload, so_iret, so_virt, sa_nth, List.cons_append, List.nil_append, Nat.reduceEqDiff, Option.toList_none, Option.toList_some, if_false, if_true, reduceIte, sc_1, or_true, true_or, z10, z00, true_imp_iff, false_imp_iff, not_false_eq_true, not_true_eq_false, true_and, and_true, Nat.zero_le, Nat.sub_zero, List.length_cons, List.length_nil, Nat.reduceAdd, Nat.reduceLT, Nat.reduceLeDiff]
  exact h
theorem k_X1_peek (hR : sB_R 1500 R l) (hp : p ≤ l.length) (h : Q (some (.inl (pk l p))) (mkH F R D2 E (cS l a (.inl p)) hd t A o)) : ct_X1_peek 0 0 [.inr (.inl (some 24))] (mkH F R D2 E (cS l a (.inl p)) hd t A o) Q := by
  have hl := hR.2.1
  simp only [e_X1_peek, u_X1_peek_0, u_X1_peek_1, u_X1_peek_4, u_X1_peek_5, u_X1_peek_8, sa_sel, sa_split, so_aload, so_get, so_virt, sa_nth, c24, c9, cS_ok, List.cons_append, List.nil_append, Nat.reduceEqDiff, Option.toList_none, Option.toList_some, if_false, if_true, reduceIte, sc_1, or_true, true_or, z10, z00, true_imp_iff, false_imp_iff, not_false_eq_true, not_true_eq_false, true_and, and_true, Nat.zero_le, Nat.sub_zero, List.length_cons, List.length_nil, Nat.reduceAdd, Nat.reduceLT, Nat.reduceLeDiff]
  refine k_X0_at (mk_R F D2 E _ hd t A o) hR _ ?_
  rw [sS_at_nI (by omega)]
  simp only [u_X1_peek_0, u_X1_peek_1, u_X1_peek_4, u_X1_peek_5, u_X1_peek_8, u_X1_peek_11, sa_sel, sa_split, so_aload, so_get, so_iret, so_virt, sa_nth, List.cons_append, List.nil_append, Nat.reduceEqDiff, Option.toList_none, Option.toList_some, if_false, if_true, reduceIte, sc_1, or_true, true_or, z10, z00, true_imp_iff, false_imp_iff, not_false_eq_true, not_true_eq_false, true_and, and_true, Nat.zero_le, Nat.sub_zero, List.length_cons, List.length_nil, Nat.reduceAdd, Nat.reduceLT, Nat.reduceLeDiff]
  exact h
theorem k_X1_take (hR : sB_R 1500 R l) (hp : p < l.length) (h : ∀ a, Q (some (.inl (pk l p))) (mkH F R D2 E (cS l a (.inl (p + 1))) hd t A o)) : ct_X1_take 0 0 [.inr (.inl (some 24))] (mkH F R D2 E (cS l a (.inl p)) hd t A o) Q := by
  have hl := hR.2.1
  simp only [e_X1_take, u_X1_take_0, u_X1_take_1, u_X1_take_4, u_X1_take_5, u_X1_take_8, u_X1_take_12, u_X1_take_13, u_X1_take_16, u_X1_take_17, u_X1_take_20, u_X1_take_23, u_X1_take_24, u_X1_take_25, u_X1_take_28, u_X1_take_29, u_X1_take_30, u_X1_take_33, u_X1_take_34, sa_put, sa_sel, sa_split, so_aload, so_bin, so_cmp, so_dup, so_get, so_iload, so_iret, so_push, so_put, so_virt, sa_nth, c24, c9, cS_ok, List.cons_append, List.nil_append, Nat.reduceEqDiff, Option.toList_none, Option.toList_some, if_false, if_true, reduceIte, sc_1, sf_0, sf_1, sf_i, sf_r, or_true, true_or, z10, z00, true_imp_iff, false_imp_iff, not_false_eq_true, not_true_eq_false, true_and, and_true, Nat.zero_le, Nat.sub_zero, List.length_cons, List.length_nil, Nat.reduceAdd, Nat.reduceLT, Nat.reduceLeDiff]
  refine k_X0_at (mk_R F D2 E _ hd t A o) hR _ ?_
  rw [sS_at_nI (by omega)]
  simp only [u_X1_take_0, u_X1_take_1, u_X1_take_4, u_X1_take_5, u_X1_take_8, u_X1_take_11, u_X1_take_12, u_X1_take_13, u_X1_take_16, u_X1_take_17, u_X1_take_20, u_X1_take_23, u_X1_take_24, u_X1_take_25, u_X1_take_28, u_X1_take_29, u_X1_take_30, u_X1_take_33, u_X1_take_34, sa_put, sa_sel, sa_split, so_aload, so_bin, so_cmp, so_dup, so_get, so_iload, so_iret, so_istore, so_push, so_put, so_virt, sa_nth, c24, c24p, List.cons_append, List.nil_append, Nat.reduceEqDiff, Option.toList_none, Option.toList_some, if_false, if_true, reduceIte, sc_1, sf_0, sf_1, sf_i, sf_r, or_true, true_or, z10, z00, true_imp_iff, false_imp_iff, not_false_eq_true, not_true_eq_false, true_and, and_true, Nat.zero_le, Nat.sub_zero, List.length_cons, List.length_nil, Nat.reduceAdd, Nat.reduceLT, Nat.reduceLeDiff]
  rw [nI_leI (by omega) (by omega), nI_1]
  exact ⟨fun q => absurd q (by omega), fun _ => h 0⟩
theorem k_X1_find (k : Fin 6) (q : Nat) (h : ∀ a, Q (some (.inl 0)) (mkH F R D2 E (cS l a (.inr (k, q))) hd t A o)) : ct_X1_find 0 0 [.inr (.inl (some 24)), .inl (kv k), .inl (nI q)] (mkH F R D2 E (cS l a (.inl p)) hd t A o) Q := by
  simp only [e_X1_find, u_X1_find_0, u_X1_find_1, u_X1_find_2, u_X1_find_5, u_X1_find_6, u_X1_find_7, u_X1_find_10, u_X1_find_11, sa_put, so_aload, so_iload, so_push, so_put, so_zret, sa_nth, c24, c24p, cS_ok, sc_1, sf_0, sf_1, sf_i, sf_r, or_true, true_or, z10, z00, true_imp_iff, false_imp_iff, not_false_eq_true, not_true_eq_false, true_and, and_true, Nat.zero_le, Nat.sub_zero, List.length_cons, List.length_nil, Nat.reduceAdd, Nat.reduceLT, Nat.reduceLeDiff]
  exact h (nI p)
theorem k_X1_refuseHere (hp : p ≤ l.length) (hl : l.length ≤ 1500) (h : ∀ a, Q (some (.inl 0)) (mkH F R D2 E (cS l a (rf l p)) hd t A o)) : ct_X1_refuseHere 0 0 [.inr (.inl (some 24))] (mkH F R D2 E (cS l a (.inl p)) hd t A o) Q := by
  simp only [e_X1_refuseHere, u_X1_refuseHere_0, u_X1_refuseHere_1, u_X1_refuseHere_4, u_X1_refuseHere_5, u_X1_refuseHere_8, u_X1_refuseHere_11, u_X1_refuseHere_12, u_X1_refuseHere_13, u_X1_refuseHere_14, u_X1_refuseHere_17, u_X1_refuseHere_23, u_X1_refuseHere_24, u_X1_refuseHere_25, u_X1_refuseHere_26, u_X1_refuseHere_29, sa_sel, sa_split, so_aload, so_cmp, so_get, so_push, so_virt, sa_nth, c24, cS_ok, List.cons_append, List.nil_append, Nat.reduceEqDiff, Option.toList_none, Option.toList_some, if_false, if_true, reduceIte, sc_1, or_true, true_or, z10, z00, true_imp_iff, false_imp_iff, not_false_eq_true, not_true_eq_false, true_and, and_true, Nat.zero_le, Nat.sub_zero, List.length_cons, List.length_nil, Nat.reduceAdd, Nat.reduceLT, Nat.reduceLeDiff]
  rw [nI_leI (by omega) (by omega)]
  refine ⟨fun q => ?_, fun q => ?_⟩
  · refine k_X1_find (l := l) (p := p) (a := 0) kI l.length (fun b => ?_)
    simp only [u_X1_refuseHere_0, u_X1_refuseHere_1, u_X1_refuseHere_4, u_X1_refuseHere_5, u_X1_refuseHere_8, u_X1_refuseHere_11, u_X1_refuseHere_12, u_X1_refuseHere_13, u_X1_refuseHere_14, u_X1_refuseHere_17, u_X1_refuseHere_23, u_X1_refuseHere_24, u_X1_refuseHere_25, u_X1_refuseHere_26, u_X1_refuseHere_29, u_X1_refuseHere_32, sa_sel, sa_split, so_aload, so_cmp, so_get, so_push, so_virt, so_zret, sa_nth, List.cons_append, List.nil_append, Nat.reduceEqDiff, Option.toList_none, Option.toList_some, if_false, if_true, reduceIte, sc_1, or_true, true_or, z10, z00, true_imp_iff, false_imp_iff, not_false_eq_true, not_true_eq_false, true_and, and_true, Nat.zero_le, Nat.sub_zero, List.length_cons, List.length_nil, Nat.reduceAdd, Nat.reduceLT, Nat.reduceLeDiff]
    have := h b
    unfold rf at this
    rw [if_neg (by omega)] at this
    exact this
  · refine k_X1_find (l := l) (p := p) (a := 0) kF p (fun b => ?_)
    simp only [u_X1_refuseHere_0, u_X1_refuseHere_1, u_X1_refuseHere_4, u_X1_refuseHere_5, u_X1_refuseHere_8, u_X1_refuseHere_11, u_X1_refuseHere_12, u_X1_refuseHere_13, u_X1_refuseHere_14, u_X1_refuseHere_17, u_X1_refuseHere_20, u_X1_refuseHere_23, u_X1_refuseHere_24, u_X1_refuseHere_25, u_X1_refuseHere_26, u_X1_refuseHere_29, u_X1_refuseHere_32, sa_sel, sa_split, so_aload, so_cmp, so_get, so_goto, so_push, so_virt, so_zret, sa_nth, List.cons_append, List.nil_append, Nat.reduceEqDiff, Option.toList_none, Option.toList_some, if_false, if_true, reduceIte, sc_1, or_true, true_or, z10, z00, true_imp_iff, false_imp_iff, not_false_eq_true, not_true_eq_false, true_and, and_true, Nat.zero_le, Nat.sub_zero, List.length_cons, List.length_nil, Nat.reduceAdd, Nat.reduceLT, Nat.reduceLeDiff]
    have := h b
    unfold rf at this
    rw [if_pos (by omega)] at this
    exact this
theorem k_X1_hasBytes {n : Nat} (hp : p ≤ l.length) (hl : l.length ≤ 1500) (hn : n < 2 ^ 30) (h1 : p + n ≤ l.length → Q (some (.inl 1)) (mkH F R D2 E (cS l a (.inl p)) hd t A o)) (h0 : ¬ p + n ≤ l.length → ∀ a, Q (some (.inl 0)) (mkH F R D2 E (cS l a (.inr (kI, l.length))) hd t A o)) : ct_X1_hasBytes 0 0 [.inr (.inl (some 24)), .inl (nI n)] (mkH F R D2 E (cS l a (.inl p)) hd t A o) Q := by
  simp only [e_X1_hasBytes, u_X1_hasBytes_0, u_X1_hasBytes_1, u_X1_hasBytes_2, u_X1_hasBytes_5, u_X1_hasBytes_6, u_X1_hasBytes_9, u_X1_hasBytes_10, u_X1_hasBytes_13, u_X1_hasBytes_14, u_X1_hasBytes_15, u_X1_hasBytes_16, u_X1_hasBytes_19, u_X1_hasBytes_25, u_X1_hasBytes_26, u_X1_hasBytes_29, u_X1_hasBytes_30, sa_sel, sa_split, so_aload, so_bin, so_cmp, so_get, so_goto, so_iload, so_push, so_virt, so_zret, sa_nth, c24, cS_ok, List.cons_append, List.nil_append, Nat.reduceEqDiff, Option.toList_none, Option.toList_some, if_false, if_true, reduceIte, sc_1, or_true, true_or, z10, z00, true_imp_iff, false_imp_iff, not_false_eq_true, not_true_eq_false, true_and, and_true, Nat.zero_le, Nat.sub_zero, List.length_cons, List.length_nil, Nat.reduceAdd, Nat.reduceLT, Nat.reduceLeDiff]
  rw [pk_sub (by omega), nI_leI (by omega) (by omega)]
  refine ⟨fun q => h1 (by omega), fun q => ?_⟩
  refine k_X1_find (l := l) (p := p) (a := 0) kI l.length (fun b => ?_)
  simp only [u_X1_hasBytes_0, u_X1_hasBytes_1, u_X1_hasBytes_2, u_X1_hasBytes_5, u_X1_hasBytes_6, u_X1_hasBytes_9, u_X1_hasBytes_10, u_X1_hasBytes_13, u_X1_hasBytes_14, u_X1_hasBytes_15, u_X1_hasBytes_16, u_X1_hasBytes_19, u_X1_hasBytes_22, u_X1_hasBytes_25, u_X1_hasBytes_26, u_X1_hasBytes_29, u_X1_hasBytes_30, sa_sel, sa_split, so_aload, so_bin, so_cmp, so_get, so_goto, so_if, so_iload, so_push, so_virt, so_zret, sa_nth, List.cons_append, List.nil_append, Nat.reduceEqDiff, Option.toList_none, Option.toList_some, if_false, if_true, reduceIte, sc_1, or_true, true_or, z10, z00, true_imp_iff, false_imp_iff, not_false_eq_true, not_true_eq_false, true_and, and_true, Nat.zero_le, Nat.sub_zero, List.length_cons, List.length_nil, Nat.reduceAdd, Nat.reduceLT, Nat.reduceLeDiff]
  exact h0 (by omega) b
theorem k_X1_expect (hR : sB_R 1500 R l) (hp : p ≤ l.length) (c : Int32) (hc : ¬ c = -1) (h : ∀ a, Q (some (.inl (rb (eS l c p)))) (mkH F R D2 E (cS l a (eS l c p)) hd t A o)) : ct_X1_expect 0 0 [.inr (.inl (some 24)), .inl c] (mkH F R D2 E (cS l a (.inl p)) hd t A o) Q := by
  have hl := hR.2.1
  simp only [e_X1_expect, u_X1_expect_0, u_X1_expect_1, u_X1_expect_4, u_X1_expect_5, u_X1_expect_8, u_X1_expect_12, u_X1_expect_15, u_X1_expect_16, u_X1_expect_20, u_X1_expect_21, u_X1_expect_22, u_X1_expect_25, u_X1_expect_26, u_X1_expect_27, u_X1_expect_30, u_X1_expect_31, sa_put, sa_sel, sa_split, so_aload, so_bin, so_cmp, so_dup, so_get, so_push, so_put, so_virt, so_zret, sa_nth, c24, c9, cS_ok, List.cons_append, List.nil_append, Nat.reduceEqDiff, Option.toList_none, Option.toList_some, if_false, if_true, reduceIte, sc_1, sf_0, sf_1, sf_i, sf_r, or_true, true_or, z10, z00, true_imp_iff, false_imp_iff, not_false_eq_true, not_true_eq_false, true_and, and_true, Nat.zero_le, Nat.sub_zero, List.length_cons, List.length_nil, Nat.reduceAdd, Nat.reduceLT, Nat.reduceLeDiff]
  refine k_X0_at (mk_R F D2 E _ hd t A o) hR _ ?_
  rw [sS_at_nI (by omega)]
  simp only [u_X1_expect_0, u_X1_expect_1, u_X1_expect_4, u_X1_expect_5, u_X1_expect_8, u_X1_expect_11, u_X1_expect_12, u_X1_expect_15, u_X1_expect_16, u_X1_expect_20, u_X1_expect_21, u_X1_expect_22, u_X1_expect_25, u_X1_expect_26, u_X1_expect_27, u_X1_expect_30, u_X1_expect_31, sa_put, sa_sel, sa_split, so_aload, so_bin, so_cmp, so_dup, so_get, so_iload, so_push, so_put, so_virt, so_zret, sa_nth, c24, c24p, List.cons_append, List.nil_append, Nat.reduceEqDiff, Option.toList_none, Option.toList_some, if_false, if_true, reduceIte, sc_1, sf_0, sf_1, sf_i, sf_r, or_true, true_or, z10, z00, true_imp_iff, false_imp_iff, not_false_eq_true, not_true_eq_false, true_and, and_true, Nat.zero_le, Nat.sub_zero, List.length_cons, List.length_nil, Nat.reduceAdd, Nat.reduceLT, Nat.reduceLeDiff]
  change (pk l p = c → _) ∧ (¬ pk l p = c → _)
  refine ⟨fun q => ?_, fun q => ?_⟩
  · have hlt : p < l.length := pe_lt (by rw [q]; exact hc)
    have e : eS l c p = .inl (p + 1) := by
      unfold eS
      rw [if_pos (by rw [pe_some hlt, q])]
    have := h 0
    rw [e] at this
    rw [nI_1]
    exact this
  · refine k_X1_refuseHere (l := l) (p := p) (a := 0) hp hl (fun b => ?_)
    have e : eS l c p = rf l p := by
      unfold eS
      rw [if_neg (fun z => q (by unfold pk; rw [z]; rfl))]
    have := h b
    rw [e] at this
    obtain ⟨k, q, e2⟩ := rf_no (α := Nat) l p
    rw [e2] at this ⊢
    simp only [u_X1_expect_0, u_X1_expect_1, u_X1_expect_4, u_X1_expect_5, u_X1_expect_8, u_X1_expect_12, u_X1_expect_15, u_X1_expect_16, u_X1_expect_19, u_X1_expect_20, u_X1_expect_21, u_X1_expect_22, u_X1_expect_25, u_X1_expect_26, u_X1_expect_27, u_X1_expect_30, u_X1_expect_31, sa_put, sa_sel, sa_split, so_aload, so_bin, so_cmp, so_dup, so_get, so_push, so_put, so_virt, so_zret, sa_nth, List.cons_append, List.nil_append, Nat.reduceEqDiff, Option.toList_none, Option.toList_some, if_false, if_true, reduceIte, sc_1, sf_0, sf_1, sf_i, sf_r, or_true, true_or, z10, z00, true_imp_iff, false_imp_iff, not_false_eq_true, not_true_eq_false, true_and, and_true, Nat.zero_le, Nat.sub_zero, List.length_cons, List.length_nil, Nat.reduceAdd, Nat.reduceLT, Nat.reduceLeDiff]
    exact this
theorem k_X1_expectText (hR : sB_R 1500 R l) (hp : p ≤ l.length) {j : Nat} (hj : j < 8) (h : ∀ a, Q (some (.inl (rb (eT l (sT j) p)))) (mkH F R D2 E (cS l a (eT l (sT j) p)) hd t A o)) : ct_X1_expectText 0 0 [.inr (.inl (some 24)), .inr (.inr j)] (mkH F R D2 E (cS l a (.inl p)) hd t A o) Q := by
  have hl := hR.2.1
  obtain ⟨-, t2, -⟩ := sT_all j hj
  have tb : ∀ j, j < 8 → ∀ b ∈ sT j, ¬ b = -1 := by decide
  have loop : ∀ (m i : Nat) (p1 : Nat) (a : Int32), i + m = (sT j).length → p1 ≤ l.length → eT l (sT j) p = eT l ((sT j).drop i) p1 → sa_w tb_X1_expectText (2, [some (.inr (.inl (some 24))), some (.inr (.inr j)), some (.inl (nI i))], [], mkH F R D2 E (cS l a (.inl p1)) hd t A o, 0, 0) Q := by
    intro m
    induction m with
    | zero =>
      intro i p1 a hi hp1 he
      simp only [u_X1_expectText_0, u_X1_expectText_1, u_X1_expectText_2, u_X1_expectText_3, u_X1_expectText_4, u_X1_expectText_10, u_X1_expectText_11, u_X1_expectText_12, u_X1_expectText_13, u_X1_expectText_22, u_X1_expectText_23, u_X1_expectText_24, u_X1_expectText_27, u_X1_expectText_30, u_X1_expectText_31, sa_put, sa_split, so_aload, so_goto, so_iinc, so_iload, so_istore, so_push, so_svirt, so_zret, sa_nth, sa_N8, hj, List.cons_append, List.nil_append, Option.toList_none, Option.toList_some, or_true, true_or, z10, z00, true_imp_iff, false_imp_iff, not_false_eq_true, not_true_eq_false, true_and, and_true, Nat.zero_le, Nat.sub_zero, List.length_cons, List.length_nil, Nat.reduceAdd, Nat.reduceLT, Nat.reduceLeDiff]
      refine k_slen hj _ ?_
      simp only [u_X1_expectText_0, u_X1_expectText_1, u_X1_expectText_3, u_X1_expectText_4, u_X1_expectText_7, u_X1_expectText_10, u_X1_expectText_11, u_X1_expectText_12, u_X1_expectText_13, u_X1_expectText_22, u_X1_expectText_23, u_X1_expectText_24, u_X1_expectText_27, u_X1_expectText_30, u_X1_expectText_31, sa_put, sa_split, so_aload, so_cmp, so_goto, so_iinc, so_iload, so_istore, so_push, so_svirt, so_zret, sa_nth, sa_N8, hj, List.cons_append, List.nil_append, Option.toList_none, Option.toList_some, or_true, true_or, z10, z00, true_imp_iff, false_imp_iff, not_false_eq_true, not_true_eq_false, true_and, and_true, Nat.zero_le, Nat.sub_zero, List.length_cons, List.length_nil, Nat.reduceAdd, Nat.reduceLT, Nat.reduceLeDiff]
      rw [nI_leI (by omega) (by omega)]
      refine ⟨fun q => ?_, fun q => absurd (by omega) q⟩
      rw [List.drop_of_length_le (by omega)] at he
      have := h a
      rw [he] at this
      exact this
    | succ m ih =>
      intro i p1 a hi hp1 he
      have hil : i < (sT j).length := by omega
      simp only [u_X1_expectText_0, u_X1_expectText_1, u_X1_expectText_2, u_X1_expectText_3, u_X1_expectText_4, u_X1_expectText_10, u_X1_expectText_11, u_X1_expectText_12, u_X1_expectText_13, u_X1_expectText_22, u_X1_expectText_23, u_X1_expectText_24, u_X1_expectText_27, u_X1_expectText_30, u_X1_expectText_31, sa_put, sa_split, so_aload, so_goto, so_iinc, so_iload, so_istore, so_push, so_svirt, so_zret, sa_nth, sa_N8, hj, List.cons_append, List.nil_append, Option.toList_none, Option.toList_some, or_true, true_or, z10, z00, true_imp_iff, false_imp_iff, not_false_eq_true, not_true_eq_false, true_and, and_true, Nat.zero_le, Nat.sub_zero, List.length_cons, List.length_nil, Nat.reduceAdd, Nat.reduceLT, Nat.reduceLeDiff]
      refine k_slen hj _ ?_
      simp only [u_X1_expectText_0, u_X1_expectText_1, u_X1_expectText_3, u_X1_expectText_4, u_X1_expectText_7, u_X1_expectText_10, u_X1_expectText_11, u_X1_expectText_12, u_X1_expectText_13, u_X1_expectText_22, u_X1_expectText_23, u_X1_expectText_24, u_X1_expectText_27, u_X1_expectText_30, u_X1_expectText_31, sa_put, sa_split, so_aload, so_cmp, so_goto, so_iinc, so_iload, so_istore, so_push, so_svirt, so_zret, sa_nth, sa_N8, hj, List.cons_append, List.nil_append, Option.toList_none, Option.toList_some, or_true, true_or, z10, z00, true_imp_iff, false_imp_iff, not_false_eq_true, not_true_eq_false, true_and, and_true, Nat.zero_le, Nat.sub_zero, List.length_cons, List.length_nil, Nat.reduceAdd, Nat.reduceLT, Nat.reduceLeDiff]
      rw [nI_leI (by omega) (by omega)]
      refine ⟨fun q => absurd q (by omega), fun q => ?_⟩
      refine k_schar hj (List.getElem?_eq_getElem hil) _ ?_
      simp only [u_X1_expectText_0, u_X1_expectText_1, u_X1_expectText_3, u_X1_expectText_4, u_X1_expectText_10, u_X1_expectText_11, u_X1_expectText_12, u_X1_expectText_13, u_X1_expectText_16, u_X1_expectText_22, u_X1_expectText_23, u_X1_expectText_24, u_X1_expectText_27, u_X1_expectText_30, u_X1_expectText_31, sa_put, sa_sel, sa_split, so_aload, so_goto, so_iinc, so_iload, so_istore, so_push, so_svirt, so_virt, so_zret, sa_nth, c24, sa_N8, hj, List.cons_append, List.nil_append, Nat.reduceEqDiff, Option.toList_none, Option.toList_some, if_false, if_true, reduceIte, or_true, true_or, z10, z00, true_imp_iff, false_imp_iff, not_false_eq_true, not_true_eq_false, true_and, and_true, Nat.zero_le, Nat.sub_zero, List.length_cons, List.length_nil, Nat.reduceAdd, Nat.reduceLT, Nat.reduceLeDiff]
      refine k_X1_expect hR hp1 _ (tb j hj _ (List.getElem_mem hil)) (fun b => ?_)
      rw [List.drop_eq_getElem_cons hil] at he
      change _ = rX.b (eS l (sT j)[i] p1) _ at he
      cases hc : eS l (sT j)[i] p1 with
      | inl p2 =>
        rw [hc] at he
        obtain ⟨-, e, e2⟩ := eS_ok hc
        simp only [u_X1_expectText_0, u_X1_expectText_1, u_X1_expectText_3, u_X1_expectText_4, u_X1_expectText_10, u_X1_expectText_11, u_X1_expectText_12, u_X1_expectText_13, u_X1_expectText_19, u_X1_expectText_22, u_X1_expectText_23, u_X1_expectText_24, u_X1_expectText_27, u_X1_expectText_30, u_X1_expectText_31, sa_put, sa_split, so_aload, so_goto, so_if, so_iinc, so_iload, so_istore, so_push, so_svirt, so_zret, sa_nth, rb_ok, List.cons_append, List.nil_append, Option.toList_none, Option.toList_some, or_true, true_or, z10, z00, true_imp_iff, false_imp_iff, not_false_eq_true, not_true_eq_false, true_and, and_true, Nat.zero_le, Nat.sub_zero, List.length_cons, List.length_nil, Nat.reduceAdd, Nat.reduceLT, Nat.reduceLeDiff]
        rw [nI_1]
        exact ih (i + 1) p2 b (by omega) (by omega) he
      | inr kq =>
        obtain ⟨k, q⟩ := kq
        rw [hc] at he
        simp only [u_X1_expectText_0, u_X1_expectText_1, u_X1_expectText_3, u_X1_expectText_4, u_X1_expectText_10, u_X1_expectText_11, u_X1_expectText_12, u_X1_expectText_13, u_X1_expectText_19, u_X1_expectText_22, u_X1_expectText_23, u_X1_expectText_24, u_X1_expectText_27, u_X1_expectText_30, u_X1_expectText_31, sa_put, sa_split, so_aload, so_goto, so_if, so_iinc, so_iload, so_istore, so_push, so_svirt, so_zret, sa_nth, rb_no, List.cons_append, List.nil_append, Option.toList_none, Option.toList_some, or_true, true_or, z10, z00, true_imp_iff, false_imp_iff, not_false_eq_true, not_true_eq_false, true_and, and_true, Nat.zero_le, Nat.sub_zero, List.length_cons, List.length_nil, Nat.reduceAdd, Nat.reduceLT, Nat.reduceLeDiff]
        have := h b
        rw [he] at this
        exact this
  simp only [e_X1_expectText, u_X1_expectText_0, u_X1_expectText_1, u_X1_expectText_3, u_X1_expectText_4, u_X1_expectText_10, u_X1_expectText_11, u_X1_expectText_12, u_X1_expectText_13, u_X1_expectText_22, u_X1_expectText_23, u_X1_expectText_24, u_X1_expectText_27, u_X1_expectText_30, u_X1_expectText_31, sa_put, sa_split, so_aload, so_goto, so_iinc, so_iload, so_istore, so_push, so_svirt, so_zret, sa_nth, List.cons_append, List.nil_append, Option.toList_none, Option.toList_some, or_true, true_or, z10, z00, true_imp_iff, false_imp_iff, not_false_eq_true, not_true_eq_false, true_and, and_true, Nat.zero_le, Nat.sub_zero, List.length_cons, List.length_nil, Nat.reduceAdd, Nat.reduceLT, Nat.reduceLeDiff]
  exact loop _ 0 p a (Nat.zero_add _) hp rfl
theorem k_X1_expectBlanksTo (hR : sB_R 1500 R l) (hp : p ≤ l.length) {s : Nat} (hs : s < 2 ^ 30) (hps : p ≤ s) (h : ∀ a, Q (some (.inl (rb (eT l (List.replicate (s - p) 32) p)))) (mkH F R D2 E (cS l a (eT l (List.replicate (s - p) 32) p)) hd t A o)) : ct_X1_expectBlanksTo 0 0 [.inr (.inl (some 24)), .inl (nI s)] (mkH F R D2 E (cS l a (.inl p)) hd t A o) Q := by
  have hl := hR.2.1
  have loop : ∀ (m : Nat) (p1 : Nat) (a : Int32), m < 2 ^ 30 → p1 ≤ l.length → eT l (List.replicate (s - p) 32) p = eT l (List.replicate m 32) p1 → sa_w tb_X1_expectBlanksTo (7, [some (.inr (.inl (some 24))), some (.inl (nI s)), some (.inl (nI m))], [], mkH F R D2 E (cS l a (.inl p1)) hd t A o, 0, 0) Q := by
    intro m
    induction m with
    | zero =>
      intro p1 a hi hp1 he
      rw [u_X1_expectBlanksTo_7]
      simp only [u_X1_expectBlanksTo_0, u_X1_expectBlanksTo_1, u_X1_expectBlanksTo_2, u_X1_expectBlanksTo_5, u_X1_expectBlanksTo_6, u_X1_expectBlanksTo_8, u_X1_expectBlanksTo_11, u_X1_expectBlanksTo_12, u_X1_expectBlanksTo_14, u_X1_expectBlanksTo_20, u_X1_expectBlanksTo_21, u_X1_expectBlanksTo_22, u_X1_expectBlanksTo_25, u_X1_expectBlanksTo_28, u_X1_expectBlanksTo_29, sa_put, sa_sel, sa_split, so_aload, so_bin, so_get, so_goto, so_if, so_iinc, so_iload, so_istore, so_push, so_virt, so_zret, sa_nth, c24, List.cons_append, List.nil_append, Nat.reduceEqDiff, Option.toList_none, Option.toList_some, if_false, if_true, reduceIte, sc_1, or_true, true_or, z10, z00, true_imp_iff, false_imp_iff, not_false_eq_true, not_true_eq_false, true_and, and_true, Nat.zero_le, Nat.sub_zero, List.length_cons, List.length_nil, Nat.reduceAdd, Nat.reduceLT, Nat.reduceLeDiff]
      refine ⟨fun q => ?_, fun q => absurd (by decide) q⟩
      have := h a
      rw [he] at this
      exact this
    | succ m ih =>
      intro p1 a hi hp1 he
      rw [u_X1_expectBlanksTo_7]
      simp only [u_X1_expectBlanksTo_0, u_X1_expectBlanksTo_1, u_X1_expectBlanksTo_2, u_X1_expectBlanksTo_5, u_X1_expectBlanksTo_6, u_X1_expectBlanksTo_8, u_X1_expectBlanksTo_11, u_X1_expectBlanksTo_12, u_X1_expectBlanksTo_14, u_X1_expectBlanksTo_20, u_X1_expectBlanksTo_21, u_X1_expectBlanksTo_22, u_X1_expectBlanksTo_25, u_X1_expectBlanksTo_28, u_X1_expectBlanksTo_29, sa_put, sa_sel, sa_split, so_aload, so_bin, so_get, so_goto, so_if, so_iinc, so_iload, so_istore, so_push, so_virt, so_zret, sa_nth, c24, List.cons_append, List.nil_append, Nat.reduceEqDiff, Option.toList_none, Option.toList_some, if_false, if_true, reduceIte, sc_1, or_true, true_or, z10, z00, true_imp_iff, false_imp_iff, not_false_eq_true, not_true_eq_false, true_and, and_true, Nat.zero_le, Nat.sub_zero, List.length_cons, List.length_nil, Nat.reduceAdd, Nat.reduceLT, Nat.reduceLeDiff]
      refine ⟨fun q => absurd ((nI_leI (b := 0) (by omega) (by omega)).mp q) (by omega), fun q => ?_⟩
      refine k_X1_expect hR hp1 _ (by decide) (fun b => ?_)
      rw [List.replicate_succ] at he
      change _ = rX.b (eS l 32 p1) _ at he
      cases hc : eS l 32 p1 with
      | inl p2 =>
        rw [hc] at he
        obtain ⟨-, e, e2⟩ := eS_ok hc
        simp only [u_X1_expectBlanksTo_0, u_X1_expectBlanksTo_1, u_X1_expectBlanksTo_2, u_X1_expectBlanksTo_5, u_X1_expectBlanksTo_6, u_X1_expectBlanksTo_8, u_X1_expectBlanksTo_11, u_X1_expectBlanksTo_12, u_X1_expectBlanksTo_14, u_X1_expectBlanksTo_17, u_X1_expectBlanksTo_20, u_X1_expectBlanksTo_21, u_X1_expectBlanksTo_22, u_X1_expectBlanksTo_25, u_X1_expectBlanksTo_28, u_X1_expectBlanksTo_29, sa_put, sa_sel, sa_split, so_aload, so_bin, so_get, so_goto, so_if, so_iinc, so_iload, so_istore, so_push, so_virt, so_zret, sa_nth, rb_ok, List.cons_append, List.nil_append, Nat.reduceEqDiff, Option.toList_none, Option.toList_some, if_false, if_true, reduceIte, sc_1, or_true, true_or, z10, z00, true_imp_iff, false_imp_iff, not_false_eq_true, not_true_eq_false, true_and, and_true, Nat.zero_le, Nat.sub_zero, List.length_cons, List.length_nil, Nat.reduceAdd, Nat.reduceLT, Nat.reduceLeDiff]
        rw [← Int32.sub_eq_add_neg, nI_pred]
        exact ih p2 b (by omega) (by omega) he
      | inr kq =>
        obtain ⟨k, q⟩ := kq
        rw [hc] at he
        simp only [u_X1_expectBlanksTo_0, u_X1_expectBlanksTo_1, u_X1_expectBlanksTo_2, u_X1_expectBlanksTo_5, u_X1_expectBlanksTo_6, u_X1_expectBlanksTo_8, u_X1_expectBlanksTo_11, u_X1_expectBlanksTo_12, u_X1_expectBlanksTo_14, u_X1_expectBlanksTo_17, u_X1_expectBlanksTo_20, u_X1_expectBlanksTo_21, u_X1_expectBlanksTo_22, u_X1_expectBlanksTo_25, u_X1_expectBlanksTo_28, u_X1_expectBlanksTo_29, sa_put, sa_sel, sa_split, so_aload, so_bin, so_get, so_goto, so_if, so_iinc, so_iload, so_istore, so_push, so_virt, so_zret, sa_nth, rb_no, List.cons_append, List.nil_append, Nat.reduceEqDiff, Option.toList_none, Option.toList_some, if_false, if_true, reduceIte, sc_1, or_true, true_or, z10, z00, true_imp_iff, false_imp_iff, not_false_eq_true, not_true_eq_false, true_and, and_true, Nat.zero_le, Nat.sub_zero, List.length_cons, List.length_nil, Nat.reduceAdd, Nat.reduceLT, Nat.reduceLeDiff]
        have := h b
        rw [he] at this
        exact this
  simp only [e_X1_expectBlanksTo, u_X1_expectBlanksTo_0, u_X1_expectBlanksTo_1, u_X1_expectBlanksTo_2, u_X1_expectBlanksTo_5, u_X1_expectBlanksTo_6, u_X1_expectBlanksTo_8, u_X1_expectBlanksTo_11, u_X1_expectBlanksTo_12, u_X1_expectBlanksTo_14, u_X1_expectBlanksTo_20, u_X1_expectBlanksTo_21, u_X1_expectBlanksTo_22, u_X1_expectBlanksTo_25, u_X1_expectBlanksTo_28, u_X1_expectBlanksTo_29, sa_put, sa_sel, sa_split, so_aload, so_bin, so_get, so_goto, so_if, so_iinc, so_iload, so_istore, so_push, so_virt, so_zret, sa_nth, c24, cS_ok, List.cons_append, List.nil_append, Nat.reduceEqDiff, Option.toList_none, Option.toList_some, if_false, if_true, reduceIte, sc_1, or_true, true_or, z10, z00, true_imp_iff, false_imp_iff, not_false_eq_true, not_true_eq_false, true_and, and_true, Nat.zero_le, Nat.sub_zero, List.length_cons, List.length_nil, Nat.reduceAdd, Nat.reduceLT, Nat.reduceLeDiff]
  rw [pk_sub hps]
  exact loop _ p a (by omega) hp rfl
end CUR
/-! ENTRIES ARE BUILT (the class) -/
theorem app_snoc (N : List (List Int32)) (w : List Int32) (c : Int32) : sS_app (N ++ [w]) c = N ++ [w ++ [c]] := by
  unfold sS_app
  rw [List.dropLast_concat, List.getLastD_eq_getLast?, List.getLast?_concat]
  rfl
theorem flat_snoc (N : List (List Int32)) (w : List Int32) : (N ++ [w]).flatten.length = N.flatten.length + w.length := by
  rw [List.flatten_append, List.length_append]
  simp
section EBU
variable {C : gE → sa_H} {E : gE} {N D : List (List Int32)} {w d : List Int32} {B U K O : List Int32} {Q : sa_Q}
theorem kE_contentsSum (hL : sE_L C) (hR : sE_R E N D B U K O) (i : Int32) (h : Q (some (.inl (sm_of (sS_row D (at_ O i i)) &&& 65535))) (C E)) : ct_X8_contentsSum 0 0 [.inr (.inl (some 13)), .inl i] (C E) Q := by
  have g1 : ∀ E, sa_nth (C E) 13 = some (.inr (2, [.inr (.inl (some 14)), .inr (.inl (some 17)), .inr (.inl (some 20)), .inr (.inl (some 21)), .inr (.inl (some 22)), .inr (.inl (some 23))])) := fun E => (hL.1 E.2.2).2.1 E.1 E.2.1
  have g2 : ∀ E, sa_nth (C E) 17 = some (.inr (7, [.inr (.inl (some 19)), .inr (.inl (some 18)), .inl E.2.1.2.2.1, .inl E.2.1.2.2.2])) := fun E => ((hL.1 E.2.2).2.2.2 E.1).1 E.2.1
  have hle := sS_row_le hR.2.1 (at_ O i i)
  generalize hro : sS_row D (at_ O i i) = l at h hle
  have loop : ∀ (m x : Nat), x + m = l.length → sa_w tb_X8_contentsSum (11, [some (.inr (.inl (some 13))), some (.inl i), some (.inl (at_ O i i)), some (.inl (sm_of (l.take x))), some (.inl (nI x))], [], C E, 0, 0) Q := by
    intro m
    induction m with
    | zero =>
      intro x hx
      simp only [u_X8_contentsSum_0, u_X8_contentsSum_1, u_X8_contentsSum_2, u_X8_contentsSum_6, u_X8_contentsSum_7, u_X8_contentsSum_8, u_X8_contentsSum_9, u_X8_contentsSum_11, u_X8_contentsSum_13, u_X8_contentsSum_14, u_X8_contentsSum_17, u_X8_contentsSum_18, u_X8_contentsSum_24, u_X8_contentsSum_25, u_X8_contentsSum_26, u_X8_contentsSum_29, u_X8_contentsSum_30, u_X8_contentsSum_32, u_X8_contentsSum_36, u_X8_contentsSum_37, u_X8_contentsSum_40, u_X8_contentsSum_43, u_X8_contentsSum_44, u_X8_contentsSum_46, u_X8_contentsSum_47, sa_put, sa_sel, sa_split, so_aload, so_bin, so_get, so_goto, so_iinc, so_iload, so_iret, so_istore, so_push, so_virt, sa_nth, g1, g2, List.cons_append, List.nil_append, Nat.reduceEqDiff, Option.toList_none, Option.toList_some, if_false, if_true, reduceIte, sc_22, sc_23, or_true, true_or, z10, z00, true_imp_iff, false_imp_iff, not_false_eq_true, not_true_eq_false, true_and, and_true, Nat.zero_le, Nat.sub_zero, List.length_cons, List.length_nil, Nat.reduceAdd, Nat.reduceLT, Nat.reduceLeDiff]
      refine k_X9_length ((hL.1 E.2.2).2.2.2 E.1) hR.2.1 _ ?_
      rw [hro]
      simp only [u_X8_contentsSum_0, u_X8_contentsSum_1, u_X8_contentsSum_2, u_X8_contentsSum_6, u_X8_contentsSum_7, u_X8_contentsSum_8, u_X8_contentsSum_9, u_X8_contentsSum_13, u_X8_contentsSum_14, u_X8_contentsSum_17, u_X8_contentsSum_18, u_X8_contentsSum_21, u_X8_contentsSum_24, u_X8_contentsSum_25, u_X8_contentsSum_26, u_X8_contentsSum_29, u_X8_contentsSum_30, u_X8_contentsSum_32, u_X8_contentsSum_36, u_X8_contentsSum_37, u_X8_contentsSum_40, u_X8_contentsSum_43, u_X8_contentsSum_44, u_X8_contentsSum_46, u_X8_contentsSum_47, sa_put, sa_sel, sa_split, so_aload, so_bin, so_cmp, so_get, so_goto, so_iinc, so_iload, so_iret, so_istore, so_push, so_virt, sa_nth, g1, g2, List.cons_append, List.nil_append, Nat.reduceEqDiff, Option.toList_none, Option.toList_some, if_false, if_true, reduceIte, sc_22, sc_23, or_true, true_or, z10, z00, true_imp_iff, false_imp_iff, not_false_eq_true, not_true_eq_false, true_and, and_true, Nat.zero_le, Nat.sub_zero, List.length_cons, List.length_nil, Nat.reduceAdd, Nat.reduceLT, Nat.reduceLeDiff]
      rw [nI_leI (by omega) (by omega)]
      refine ⟨fun _ => ?_, fun q => absurd (by omega) q⟩
      rw [List.take_of_length_le (by omega)]
      exact h
    | succ m ih =>
      intro x hx
      have hxl : x < l.length := by omega
      simp only [u_X8_contentsSum_0, u_X8_contentsSum_1, u_X8_contentsSum_2, u_X8_contentsSum_6, u_X8_contentsSum_7, u_X8_contentsSum_8, u_X8_contentsSum_9, u_X8_contentsSum_11, u_X8_contentsSum_13, u_X8_contentsSum_14, u_X8_contentsSum_17, u_X8_contentsSum_18, u_X8_contentsSum_24, u_X8_contentsSum_25, u_X8_contentsSum_26, u_X8_contentsSum_29, u_X8_contentsSum_30, u_X8_contentsSum_32, u_X8_contentsSum_36, u_X8_contentsSum_37, u_X8_contentsSum_40, u_X8_contentsSum_43, u_X8_contentsSum_44, u_X8_contentsSum_46, u_X8_contentsSum_47, sa_put, sa_sel, sa_split, so_aload, so_bin, so_get, so_goto, so_iinc, so_iload, so_iret, so_istore, so_push, so_virt, sa_nth, g1, g2, List.cons_append, List.nil_append, Nat.reduceEqDiff, Option.toList_none, Option.toList_some, if_false, if_true, reduceIte, sc_22, sc_23, or_true, true_or, z10, z00, true_imp_iff, false_imp_iff, not_false_eq_true, not_true_eq_false, true_and, and_true, Nat.zero_le, Nat.sub_zero, List.length_cons, List.length_nil, Nat.reduceAdd, Nat.reduceLT, Nat.reduceLeDiff]
      refine k_X9_length ((hL.1 E.2.2).2.2.2 E.1) hR.2.1 _ ?_
      rw [hro]
      simp only [u_X8_contentsSum_0, u_X8_contentsSum_1, u_X8_contentsSum_2, u_X8_contentsSum_6, u_X8_contentsSum_7, u_X8_contentsSum_8, u_X8_contentsSum_9, u_X8_contentsSum_13, u_X8_contentsSum_14, u_X8_contentsSum_17, u_X8_contentsSum_18, u_X8_contentsSum_21, u_X8_contentsSum_24, u_X8_contentsSum_25, u_X8_contentsSum_26, u_X8_contentsSum_29, u_X8_contentsSum_30, u_X8_contentsSum_32, u_X8_contentsSum_36, u_X8_contentsSum_37, u_X8_contentsSum_40, u_X8_contentsSum_43, u_X8_contentsSum_44, u_X8_contentsSum_46, u_X8_contentsSum_47, sa_put, sa_sel, sa_split, so_aload, so_bin, so_cmp, so_get, so_goto, so_iinc, so_iload, so_iret, so_istore, so_push, so_virt, sa_nth, g1, g2, List.cons_append, List.nil_append, Nat.reduceEqDiff, Option.toList_none, Option.toList_some, if_false, if_true, reduceIte, sc_22, sc_23, or_true, true_or, z10, z00, true_imp_iff, false_imp_iff, not_false_eq_true, not_true_eq_false, true_and, and_true, Nat.zero_le, Nat.sub_zero, List.length_cons, List.length_nil, Nat.reduceAdd, Nat.reduceLT, Nat.reduceLeDiff]
      rw [nI_leI (by omega) (by omega)]
      refine ⟨fun q => absurd q (by omega), fun _ => ?_⟩
      refine k_X9_at ((hL.1 E.2.2).2.2.2 E.1) hR.2.1 _ _ ?_
      rw [hro, sS_at_nI (by omega), List.getElem?_eq_getElem hxl, Option.getD_some]
      simp only [u_X8_contentsSum_0, u_X8_contentsSum_1, u_X8_contentsSum_2, u_X8_contentsSum_6, u_X8_contentsSum_7, u_X8_contentsSum_8, u_X8_contentsSum_9, u_X8_contentsSum_13, u_X8_contentsSum_14, u_X8_contentsSum_17, u_X8_contentsSum_18, u_X8_contentsSum_24, u_X8_contentsSum_25, u_X8_contentsSum_26, u_X8_contentsSum_29, u_X8_contentsSum_30, u_X8_contentsSum_32, u_X8_contentsSum_35, u_X8_contentsSum_36, u_X8_contentsSum_37, u_X8_contentsSum_40, u_X8_contentsSum_43, u_X8_contentsSum_44, u_X8_contentsSum_46, u_X8_contentsSum_47, sa_put, sa_sel, sa_split, so_aload, so_bin, so_get, so_goto, so_iinc, so_iload, so_iret, so_istore, so_push, so_virt, sa_nth, g1, g2, List.cons_append, List.nil_append, Nat.reduceEqDiff, Option.toList_none, Option.toList_some, if_false, if_true, reduceIte, sc_22, sc_23, or_true, true_or, z10, z00, true_imp_iff, false_imp_iff, not_false_eq_true, not_true_eq_false, true_and, and_true, Nat.zero_le, Nat.sub_zero, List.length_cons, List.length_nil, Nat.reduceAdd, Nat.reduceLT, Nat.reduceLeDiff]
      rw [nI_1]
      have e : sm_of (l.take x) + l[x] = sm_of (l.take (x + 1)) := by
        rw [List.take_succ_eq_append_getElem hxl]
        unfold sm_of
        rw [List.foldl_append]; rfl
      rw [e]
      exact ih (x + 1) (by omega)
  simp only [e_X8_contentsSum, u_X8_contentsSum_0, u_X8_contentsSum_1, u_X8_contentsSum_2, u_X8_contentsSum_6, u_X8_contentsSum_7, u_X8_contentsSum_8, u_X8_contentsSum_9, u_X8_contentsSum_11, u_X8_contentsSum_13, u_X8_contentsSum_14, u_X8_contentsSum_17, u_X8_contentsSum_18, u_X8_contentsSum_24, u_X8_contentsSum_25, u_X8_contentsSum_26, u_X8_contentsSum_29, u_X8_contentsSum_30, u_X8_contentsSum_32, u_X8_contentsSum_36, u_X8_contentsSum_37, u_X8_contentsSum_40, u_X8_contentsSum_43, u_X8_contentsSum_44, u_X8_contentsSum_46, u_X8_contentsSum_47, sa_put, sa_sel, sa_split, so_aload, so_bin, so_get, so_goto, so_iinc, so_iload, so_iret, so_istore, so_push, so_virt, sa_nth, g1, List.cons_append, List.nil_append, Nat.reduceEqDiff, Option.toList_none, Option.toList_some, if_false, if_true, reduceIte, sc_22, sc_23, or_true, true_or, z10, z00, true_imp_iff, false_imp_iff, not_false_eq_true, not_true_eq_false, true_and, and_true, Nat.zero_le, Nat.sub_zero, List.length_cons, List.length_nil, Nat.reduceAdd, Nat.reduceLT, Nat.reduceLeDiff]
  refine k_X2_holder hL hR i ?_
  simp only [u_X8_contentsSum_0, u_X8_contentsSum_1, u_X8_contentsSum_2, u_X8_contentsSum_5, u_X8_contentsSum_6, u_X8_contentsSum_7, u_X8_contentsSum_8, u_X8_contentsSum_9, u_X8_contentsSum_13, u_X8_contentsSum_14, u_X8_contentsSum_17, u_X8_contentsSum_18, u_X8_contentsSum_24, u_X8_contentsSum_25, u_X8_contentsSum_26, u_X8_contentsSum_29, u_X8_contentsSum_30, u_X8_contentsSum_32, u_X8_contentsSum_36, u_X8_contentsSum_37, u_X8_contentsSum_40, u_X8_contentsSum_43, u_X8_contentsSum_44, u_X8_contentsSum_46, u_X8_contentsSum_47, sa_put, sa_sel, sa_split, so_aload, so_bin, so_get, so_goto, so_iinc, so_iload, so_iret, so_istore, so_push, so_virt, sa_nth, g1, List.cons_append, List.nil_append, Nat.reduceEqDiff, Option.toList_none, Option.toList_some, if_false, if_true, reduceIte, sc_22, sc_23, or_true, true_or, z10, z00, true_imp_iff, false_imp_iff, not_false_eq_true, not_true_eq_false, true_and, and_true, Nat.zero_le, Nat.sub_zero, List.length_cons, List.length_nil, Nat.reduceAdd, Nat.reduceLT, Nat.reduceLeDiff]
  exact loop l.length 0 (by omega)
theorem kE_addName (hL : sE_L C) (hR : sE_R E (N ++ [w]) D B U K O) (hN : ∀ l ∈ N, l.length ≤ 20) (hw : w.length < 20) (c : Int32) (h : ∀ E', sE_R E' (N ++ [w ++ [c]]) D B U K O → Q none (C E')) : ct_X8_addNameByte 0 0 [.inr (.inl (some 13)), .inl c] (C E) Q := by
  obtain ⟨r1, r2, r3, r4, r5, r6, r7, r8⟩ := hR
  have hb := r1.2.2.1
  rw [List.length_append, List.length_cons, List.length_nil] at hb
  have hf := flat_le N 20 hN
  refine k_X8_addNameByte (hL.1 E.2.2) r1 c (by simp) (by rw [flat_snoc]; omega) (fun a ha => ?_)
  rw [app_snoc] at ha
  have e : ∀ x : List Int32, (N ++ [x]).length = N.length + 1 := fun x => by simp
  refine h (a, E.2) ⟨ha, r2, ?_, ?_, ?_, ?_, ?_, ?_⟩
  · rw [e]; rw [e] at r3; exact r3
  · rw [e]; rw [e] at r4; exact r4
  · rw [e]; rw [e] at r5; exact r5
  · rw [e]; rw [e] at r6; exact r6
  · rw [e]; rw [e] at r7; exact r7
  · rw [e]; rw [e] at r8; exact r8
theorem kE_addData (hL : sE_L C) (hR : sE_R E N (D ++ [d]) B U K O) (hlt : D.flatten.length + d.length < 1500) (c : Int32) (h : ∀ E', sE_R E' N (D ++ [d ++ [c]]) B U K O → Q none (C E')) : ct_X8_addContentsByte 0 0 [.inr (.inl (some 13)), .inl c] (C E) Q := by
  obtain ⟨r1, r2, r3, r4, r5, r6, r7, r8⟩ := hR
  refine k_X8_addContentsByte (hL.1 E.2.2) r2 c (by simp) (by rw [flat_snoc]; exact hlt) (fun a ha => ?_)
  rw [app_snoc] at ha
  refine h (E.1, a, E.2.2) ⟨r1, ha, ?_, r4, r5, r6, r7, r8⟩
  rw [← r3]; simp
theorem kE_dropLast (hL : sE_L C) {b u k x : Int32} (hR : sE_R E (N ++ [w]) (D ++ [d]) (B ++ [b]) (U ++ [u]) (K ++ [k]) (O ++ [x]) ) (h : ∀ E', sE_R E' N D B U K O → Q none (C E')) : ct_X8_dropLast 0 0 [.inr (.inl (some 13))] (C E) Q := by
  obtain ⟨r1, r2, r3, r4, r5, r6, r7, r8⟩ := hR
  refine k_X8_dropLast (hL.1 E.2.2) r1 r2 (fun a b ha hb => ?_)
  rw [List.dropLast_concat] at ha hb
  simp only [List.length_append, List.length_cons, List.length_nil] at r3 r4 r5 r6 r7 r8
  refine h (a, b, E.2.2) ⟨ha, hb, by omega, by omega, by omega, by omega, by omega, fun i hi => ?_⟩
  obtain ⟨s1, s2, s3, s4⟩ := r8 i (by omega)
  rw [List.getElem?_append_left (by omega)] at s1 s2 s3 s4
  exact ⟨s1, s2, s3, s4⟩
theorem k_X2_setHolder (hL : sE_L C) {i : Nat} (hi : i < 126) (v : Int32) (h : Q none (C (E.1, E.2.1, E.2.2.1, E.2.2.2.1, E.2.2.2.2.1, upd E.2.2.2.2.2 i v))) : ct_X2_setHolder 0 0 [.inr (.inl (some 13)), .inl (nI i), .inl v] (C E) Q := by
  have g1 : ∀ E, sa_nth (C E) 13 = some (.inr (2, [.inr (.inl (some 14)), .inr (.inl (some 17)), .inr (.inl (some 20)), .inr (.inl (some 21)), .inr (.inl (some 22)), .inr (.inl (some 23))])) := fun E => (hL.1 E.2.2).2.1 E.1 E.2.1
  obtain ⟨-, g20, g21, g22, g23, p20, p21, p22, p23⟩ := id hL
  simp only [e_X2_setHolder, u_X2_setHolder_0, u_X2_setHolder_1, u_X2_setHolder_4, u_X2_setHolder_5, u_X2_setHolder_6, u_X2_setHolder_9, u_X2_setHolder_10, u_X2_setHolder_13, u_X2_setHolder_14, u_X2_setHolder_17, u_X2_setHolder_18, u_X2_setHolder_19, u_X2_setHolder_20, sa_put, so_alen, so_aload, so_cmp, so_get, so_iast, so_if, so_iload, so_ret, sa_nth, g1, g23, p23, sc_2, or_true, true_or, z10, z00, true_imp_iff, false_imp_iff, not_false_eq_true, not_true_eq_false, true_and, and_true, Nat.zero_le, Nat.sub_zero, List.length_cons, List.length_nil, Nat.reduceAdd, Nat.reduceLT, Nat.reduceLeDiff]
  rw [show Int32.ofNat 126 = nI 126 from rfl, nI_leI (by omega) (by omega), nI_clamp (by omega)]
  exact ⟨fun q => absurd q (nI_pos (by omega)), fun _ => ⟨fun q => absurd q (by omega), fun _ => ⟨vp_in_nI (by omega) (by omega), h⟩⟩⟩
theorem k_X2_setNumber (hL : sE_L C) (hN : sS_R 126 2520 E.1 (N ++ [w])) (u v : Int32) (h : Q none (C (E.1, E.2.1, E.2.2.1, upd E.2.2.2.1 N.length u, upd E.2.2.2.2.1 N.length v, E.2.2.2.2.2))) : ct_X2_setNumber 0 0 [.inr (.inl (some 13)), .inl u, .inl v] (C E) Q := by
  have g1 : ∀ E, sa_nth (C E) 13 = some (.inr (2, [.inr (.inl (some 14)), .inr (.inl (some 17)), .inr (.inl (some 20)), .inr (.inl (some 21)), .inr (.inl (some 22)), .inr (.inl (some 23))])) := fun E => (hL.1 E.2.2).2.1 E.1 E.2.1
  obtain ⟨-, g20, g21, g22, g23, p20, p21, p22, p23⟩ := id hL
  have hb := hN.2.2.1
  rw [List.length_append, List.length_cons, List.length_nil] at hb
  simp only [e_X2_setNumber, u_X2_setNumber_0, u_X2_setNumber_1, u_X2_setNumber_5, u_X2_setNumber_6, u_X2_setNumber_9, u_X2_setNumber_10, u_X2_setNumber_11, u_X2_setNumber_14, u_X2_setNumber_15, u_X2_setNumber_18, u_X2_setNumber_19, u_X2_setNumber_20, u_X2_setNumber_23, u_X2_setNumber_24, u_X2_setNumber_27, u_X2_setNumber_28, u_X2_setNumber_31, u_X2_setNumber_32, u_X2_setNumber_33, u_X2_setNumber_34, u_X2_setNumber_35, u_X2_setNumber_38, u_X2_setNumber_39, u_X2_setNumber_40, u_X2_setNumber_41, sa_put, sa_sel, sa_split, so_alen, so_aload, so_cmp, so_get, so_iast, so_if, so_iload, so_ret, so_virt, sa_nth, g1, List.cons_append, List.nil_append, Nat.reduceEqDiff, Option.toList_none, Option.toList_some, if_false, if_true, reduceIte, sc_2, or_true, true_or, z10, z00, true_imp_iff, false_imp_iff, not_false_eq_true, not_true_eq_false, true_and, and_true, Nat.zero_le, Nat.sub_zero, List.length_cons, List.length_nil, Nat.reduceAdd, Nat.reduceLT, Nat.reduceLeDiff]
  refine k_X8_last (hL.1 E.2.2) hN ?_
  rw [List.length_append, List.length_cons, List.length_nil, Nat.zero_add, nI_pred]
  simp only [u_X2_setNumber_0, u_X2_setNumber_1, u_X2_setNumber_4, u_X2_setNumber_5, u_X2_setNumber_6, u_X2_setNumber_9, u_X2_setNumber_10, u_X2_setNumber_11, u_X2_setNumber_14, u_X2_setNumber_15, u_X2_setNumber_18, u_X2_setNumber_19, u_X2_setNumber_20, u_X2_setNumber_23, u_X2_setNumber_24, u_X2_setNumber_27, u_X2_setNumber_28, u_X2_setNumber_31, u_X2_setNumber_32, u_X2_setNumber_33, u_X2_setNumber_34, u_X2_setNumber_35, u_X2_setNumber_38, u_X2_setNumber_39, u_X2_setNumber_40, u_X2_setNumber_41, sa_put, sa_sel, sa_split, so_alen, so_aload, so_cmp, so_get, so_iast, so_if, so_iload, so_istore, so_ret, so_virt, sa_nth, g1, g21, g22, p21, p22, List.cons_append, List.nil_append, Nat.reduceEqDiff, Option.toList_none, Option.toList_some, if_false, if_true, reduceIte, sc_2, or_true, true_or, z10, z00, true_imp_iff, false_imp_iff, not_false_eq_true, not_true_eq_false, true_and, and_true, Nat.zero_le, Nat.sub_zero, List.length_cons, List.length_nil, Nat.reduceAdd, Nat.reduceLT, Nat.reduceLeDiff]
  rw [show Int32.ofNat 126 = nI 126 from rfl, nI_leI (by omega) (by omega), nI_clamp (by omega)]
  exact ⟨fun q => absurd q (nI_pos (by omega)), fun _ => ⟨fun q => absurd q (by omega), fun _ => ⟨fun q => absurd q (by omega), fun _ => ⟨vp_in_nI (by omega) (by omega), vp_in_nI (by omega) (by omega), h⟩⟩⟩⟩
theorem getE_snoc (L : List Int32) (x : Int32) (f : Nat → Int32) (n : Nat) (hn : L.length = n) (hf : ∀ i, i < n → L[i]? = some (f i)) : ∀ i, i < n + 1 → (L ++ [x])[i]? = some (upd f n x i) := by
  intro i hi
  by_cases hq : i = n
  · subst hq
    rw [pk_us, ← hn]; simp
  · rw [pk_un hq, List.getElem?_append_left (by omega)]
    exact hf i (by omega)
theorem k_X2_begin (hL : sE_L C) (hR : sE_R E N D B U K O) (hlt : N.length < 126) (p : Int32) (h : ∀ E', sE_R E' (N ++ [[]]) (D ++ [[]]) (B ++ [p]) (U ++ [0]) (K ++ [1]) (O ++ [nI N.length]) → Q none (C E')) : ct_X2_begin 0 0 [.inr (.inl (some 13)), .inl p] (C E) Q := by
  have g1 : ∀ E, sa_nth (C E) 13 = some (.inr (2, [.inr (.inl (some 14)), .inr (.inl (some 17)), .inr (.inl (some 20)), .inr (.inl (some 21)), .inr (.inl (some 22)), .inr (.inl (some 23))])) := fun E => (hL.1 E.2.2).2.1 E.1 E.2.1
  obtain ⟨-, g20, g21, g22, g23, p20, p21, p22, p23⟩ := id hL
  obtain ⟨r1, r2, r3, r4, r5, r6, r7, r8⟩ := hR
  simp only [e_X2_begin, u_X2_begin_0, u_X2_begin_1, u_X2_begin_5, u_X2_begin_9, u_X2_begin_10, u_X2_begin_13, u_X2_begin_14, u_X2_begin_15, u_X2_begin_18, u_X2_begin_19, u_X2_begin_22, u_X2_begin_23, u_X2_begin_26, u_X2_begin_27, u_X2_begin_28, u_X2_begin_29, u_X2_begin_30, u_X2_begin_31, u_X2_begin_32, u_X2_begin_36, u_X2_begin_37, u_X2_begin_38, sa_put, sa_sel, sa_split, so_alen, so_aload, so_cmp, so_get, so_iast, so_if, so_iload, so_push, so_virt, sa_nth, g1, List.cons_append, List.nil_append, Nat.reduceEqDiff, Option.toList_none, Option.toList_some, if_false, if_true, reduceIte, sc_2, or_true, true_or, z10, z00, true_imp_iff, false_imp_iff, not_false_eq_true, not_true_eq_false, true_and, and_true, Nat.zero_le, Nat.sub_zero, List.length_cons, List.length_nil, Nat.reduceAdd, Nat.reduceLT, Nat.reduceLeDiff]
  refine k_X8_addThing (hL.1 E.2.2) r1 r2 hlt (by omega) (fun a b ha hb => ?_)
  simp only [u_X2_begin_0, u_X2_begin_1, u_X2_begin_4, u_X2_begin_5, u_X2_begin_9, u_X2_begin_10, u_X2_begin_13, u_X2_begin_14, u_X2_begin_15, u_X2_begin_18, u_X2_begin_19, u_X2_begin_22, u_X2_begin_23, u_X2_begin_26, u_X2_begin_27, u_X2_begin_28, u_X2_begin_29, u_X2_begin_30, u_X2_begin_31, u_X2_begin_32, u_X2_begin_36, u_X2_begin_37, u_X2_begin_38, sa_put, sa_sel, sa_split, so_alen, so_aload, so_cmp, so_get, so_iast, so_if, so_iload, so_push, so_virt, sa_nth, g1, List.cons_append, List.nil_append, Nat.reduceEqDiff, Option.toList_none, Option.toList_some, if_false, if_true, reduceIte, sc_2, or_true, true_or, z10, z00, true_imp_iff, false_imp_iff, not_false_eq_true, not_true_eq_false, true_and, and_true, Nat.zero_le, Nat.sub_zero, List.length_cons, List.length_nil, Nat.reduceAdd, Nat.reduceLT, Nat.reduceLeDiff]
  refine k_X8_last (hL.1 E.2.2) ha ?_
  rw [List.length_append, List.length_cons, List.length_nil, Nat.zero_add, nI_pred]
  simp only [u_X2_begin_0, u_X2_begin_1, u_X2_begin_5, u_X2_begin_8, u_X2_begin_9, u_X2_begin_10, u_X2_begin_13, u_X2_begin_14, u_X2_begin_15, u_X2_begin_18, u_X2_begin_19, u_X2_begin_22, u_X2_begin_23, u_X2_begin_26, u_X2_begin_27, u_X2_begin_28, u_X2_begin_29, u_X2_begin_30, u_X2_begin_31, u_X2_begin_32, u_X2_begin_36, u_X2_begin_37, u_X2_begin_38, sa_put, sa_sel, sa_split, so_alen, so_aload, so_cmp, so_get, so_iast, so_if, so_iload, so_istore, so_push, so_virt, sa_nth, g1, g20, p20, List.cons_append, List.nil_append, Nat.reduceEqDiff, Option.toList_none, Option.toList_some, if_false, if_true, reduceIte, sc_2, or_true, true_or, z10, z00, true_imp_iff, false_imp_iff, not_false_eq_true, not_true_eq_false, true_and, and_true, Nat.zero_le, Nat.sub_zero, List.length_cons, List.length_nil, Nat.reduceAdd, Nat.reduceLT, Nat.reduceLeDiff]
  rw [show Int32.ofNat 126 = nI 126 from rfl, nI_leI (by omega) (by omega), nI_clamp (by omega)]
  refine ⟨fun q => absurd q (nI_pos (by omega)), fun _ => ⟨fun q => absurd q (by omega), fun _ => ⟨vp_in_nI (by omega) (by omega), ?_⟩⟩⟩
  refine k_X2_setNumber (E := (a, b, upd E.2.2.1 N.length p, E.2.2.2)) hL ha 0 1 ?_
  simp only [u_X2_begin_0, u_X2_begin_1, u_X2_begin_5, u_X2_begin_9, u_X2_begin_10, u_X2_begin_13, u_X2_begin_14, u_X2_begin_15, u_X2_begin_18, u_X2_begin_19, u_X2_begin_22, u_X2_begin_23, u_X2_begin_26, u_X2_begin_27, u_X2_begin_28, u_X2_begin_29, u_X2_begin_30, u_X2_begin_31, u_X2_begin_32, u_X2_begin_35, u_X2_begin_36, u_X2_begin_37, u_X2_begin_38, sa_put, sa_sel, sa_split, so_alen, so_aload, so_cmp, so_get, so_iast, so_if, so_iload, so_push, so_virt, sa_nth, g1, List.cons_append, List.nil_append, Nat.reduceEqDiff, Option.toList_none, Option.toList_some, if_false, if_true, reduceIte, sc_2, or_true, true_or, z10, z00, true_imp_iff, false_imp_iff, not_false_eq_true, not_true_eq_false, true_and, and_true, Nat.zero_le, Nat.sub_zero, List.length_cons, List.length_nil, Nat.reduceAdd, Nat.reduceLT, Nat.reduceLeDiff]
  refine k_X2_setHolder (E := (a, b, upd E.2.2.1 N.length p, upd E.2.2.2.1 N.length 0, upd E.2.2.2.2.1 N.length 1, E.2.2.2.2.2)) hL (by omega) _ ?_
  simp only [u_X2_begin_0, u_X2_begin_1, u_X2_begin_5, u_X2_begin_9, u_X2_begin_10, u_X2_begin_13, u_X2_begin_14, u_X2_begin_15, u_X2_begin_18, u_X2_begin_19, u_X2_begin_22, u_X2_begin_23, u_X2_begin_26, u_X2_begin_27, u_X2_begin_28, u_X2_begin_29, u_X2_begin_30, u_X2_begin_31, u_X2_begin_32, u_X2_begin_36, u_X2_begin_37, u_X2_begin_38, u_X2_begin_41, sa_put, sa_sel, sa_split, so_alen, so_aload, so_cmp, so_get, so_iast, so_if, so_iload, so_push, so_ret, so_virt, sa_nth, List.cons_append, List.nil_append, Nat.reduceEqDiff, Option.toList_none, Option.toList_some, if_false, if_true, reduceIte, sc_2, or_true, true_or, z10, z00, true_imp_iff, false_imp_iff, not_false_eq_true, not_true_eq_false, true_and, and_true, Nat.zero_le, Nat.sub_zero, List.length_cons, List.length_nil, Nat.reduceAdd, Nat.reduceLT, Nat.reduceLeDiff]
  have e : ∀ (L : List (List Int32)) (x : List Int32), (L ++ [x]).length = L.length + 1 := fun L x => by simp
  have e1 : ∀ (L : List Int32) (x : Int32), (L ++ [x]).length = L.length + 1 := fun L x => by simp
  refine h _ ⟨ha, hb, ?_, ?_, ?_, ?_, ?_, ?_⟩
  · rw [e, e, r3]
  · rw [e, e1, r4]
  · rw [e, e1, r5]
  · rw [e, e1, r6]
  · rw [e, e1, r7]
  · intro i hi
    rw [e] at hi
    exact ⟨getE_snoc B p _ _ r4 (fun i hi => (r8 i hi).1) i hi, getE_snoc U 0 _ _ r5 (fun i hi => (r8 i hi).2.1) i hi, getE_snoc K 1 _ _ r6 (fun i hi => (r8 i hi).2.2.1) i hi, getE_snoc O _ _ _ r7 (fun i hi => (r8 i hi).2.2.2) i hi⟩
theorem kE_setNumber (hL : sE_L C) {b u k x : Int32} (hR : sE_R E (N ++ [w]) (D ++ [d]) (B ++ [b]) (U ++ [u]) (K ++ [k]) (O ++ [x])) (u' k' : Int32) (h : ∀ E', sE_R E' (N ++ [w]) (D ++ [d]) (B ++ [b]) (U ++ [u']) (K ++ [k']) (O ++ [x]) → Q none (C E')) : ct_X2_setNumber 0 0 [.inr (.inl (some 13)), .inl u', .inl k'] (C E) Q := by
  obtain ⟨r1, r2, r3, r4, r5, r6, r7, r8⟩ := hR
  refine k_X2_setNumber hL r1 u' k' ?_
  have e : ∀ (L : List (List Int32)) (x : List Int32), (L ++ [x]).length = L.length + 1 := fun L x => by simp
  have e1 : ∀ (L : List Int32) (x : Int32), (L ++ [x]).length = L.length + 1 := fun L x => by simp
  rw [e, e1] at r5 r6
  refine h _ ⟨r1, r2, r3, r4, ?_, ?_, r7, ?_⟩
  · rw [e, e1]; exact r5
  · rw [e, e1]; exact r6
  · intro i hi
    obtain ⟨s1, s2, s3, s4⟩ := r8 i hi
    rw [e] at hi
    have q : ∀ (L : List Int32) (y : Int32), L.length = N.length → ∀ j, j < N.length → (L ++ [y])[j]? = L[j]? := fun L y hl j hj => List.getElem?_append_left (by omega)
    refine ⟨s1, getE_snoc U u' _ _ (by omega) (fun j hj => ?_) i hi, getE_snoc K k' _ _ (by omega) (fun j hj => ?_) i hi, s4⟩
    · have := (r8 j (by rw [e]; omega)).2.1
      rw [q U u (by omega) j hj] at this; exact this
    · have := (r8 j (by rw [e]; omega)).2.2.1
      rw [q K k (by omega) j hj] at this; exact this
theorem k_X2_shareContents (hL : sE_L C) (hR : sE_R E N D B U K O) (hO : ∀ i, i < N.length → O[i]? = some (nI i)) (h : ∀ E' O', sE_R E' N D B U K O' → sIO U K O' N.length → Q none (C E')) : ct_X2_shareContents 0 0 [.inr (.inl (some 13))] (C E) Q := by
  have g1 : ∀ E, sa_nth (C E) 13 = some (.inr (2, [.inr (.inl (some 14)), .inr (.inl (some 17)), .inr (.inl (some 20)), .inr (.inl (some 21)), .inr (.inl (some 22)), .inr (.inl (some 23))])) := fun E => (hL.1 E.2.2).2.1 E.1 E.2.1
  have hb := hR.1.2.2.1
  have self : ∀ x, x < N.length → ¬ 1 < at_ K (nI x) 1 → lstG U K N.length x x := fun x hx hk => ⟨Or.inl rfl, fun j _ _ c => hk c.1⟩
  have loop : ∀ (m x : Nat) (E1 : gE) (O1 : List Int32), x + m = N.length → sE_R E1 N D B U K O1 → (∀ i, i < x → ∃ r, O1[i]? = some (nI r) ∧ lstG U K N.length i r ∧ r < N.length) → (∀ i, x ≤ i → i < N.length → O1[i]? = some (nI i)) → sa_w tb_X2_shareContents (2, [some (.inr (.inl (some 13))), some (.inl (nI x))], [], C E1, 0, 0) Q := by
    intro m
    induction m with
    | zero =>
      intro x E1 O1 hx hR1 ha hz
      simp only [u_X2_shareContents_0, u_X2_shareContents_1, u_X2_shareContents_2, u_X2_shareContents_3, u_X2_shareContents_4, u_X2_shareContents_10, u_X2_shareContents_11, u_X2_shareContents_12, u_X2_shareContents_16, u_X2_shareContents_19, u_X2_shareContents_20, u_X2_shareContents_21, u_X2_shareContents_22, u_X2_shareContents_23, u_X2_shareContents_32, u_X2_shareContents_35, sa_put, sa_sel, sa_split, so_aload, so_cmp, so_goto, so_iload, so_istore, so_push, so_ret, so_virt, sa_nth, g1, List.cons_append, List.nil_append, Nat.reduceEqDiff, Option.toList_none, Option.toList_some, if_false, if_true, reduceIte, or_true, true_or, z10, z00, true_imp_iff, false_imp_iff, not_false_eq_true, not_true_eq_false, true_and, and_true, Nat.zero_le, Nat.sub_zero, List.length_cons, List.length_nil, Nat.reduceAdd, Nat.reduceLT, Nat.reduceLeDiff]
      refine k_X8_count (hL.1 E1.2.2) hR1.1 ?_
      simp only [u_X2_shareContents_0, u_X2_shareContents_1, u_X2_shareContents_3, u_X2_shareContents_4, u_X2_shareContents_7, u_X2_shareContents_10, u_X2_shareContents_11, u_X2_shareContents_12, u_X2_shareContents_16, u_X2_shareContents_19, u_X2_shareContents_20, u_X2_shareContents_21, u_X2_shareContents_22, u_X2_shareContents_23, u_X2_shareContents_32, u_X2_shareContents_35, sa_put, sa_sel, sa_split, so_aload, so_cmp, so_goto, so_iload, so_istore, so_push, so_ret, so_virt, sa_nth, g1, List.cons_append, List.nil_append, Nat.reduceEqDiff, Option.toList_none, Option.toList_some, if_false, if_true, reduceIte, or_true, true_or, z10, z00, true_imp_iff, false_imp_iff, not_false_eq_true, not_true_eq_false, true_and, and_true, Nat.zero_le, Nat.sub_zero, List.length_cons, List.length_nil, Nat.reduceAdd, Nat.reduceLT, Nat.reduceLeDiff]
      rw [nI_leI (by omega) (by omega)]
      refine ⟨fun _ => ?_, fun q => absurd (by omega) q⟩
      exact h E1 O1 hR1 ⟨hR1.2.2.2.2.2.2.1, fun i hi => ha i (by omega)⟩
    | succ m ih =>
      intro x E1 O1 hx hR1 ha hz
      simp only [u_X2_shareContents_0, u_X2_shareContents_1, u_X2_shareContents_2, u_X2_shareContents_3, u_X2_shareContents_4, u_X2_shareContents_10, u_X2_shareContents_11, u_X2_shareContents_12, u_X2_shareContents_16, u_X2_shareContents_19, u_X2_shareContents_20, u_X2_shareContents_21, u_X2_shareContents_22, u_X2_shareContents_23, u_X2_shareContents_32, u_X2_shareContents_35, sa_put, sa_sel, sa_split, so_aload, so_cmp, so_goto, so_iload, so_istore, so_push, so_ret, so_virt, sa_nth, g1, List.cons_append, List.nil_append, Nat.reduceEqDiff, Option.toList_none, Option.toList_some, if_false, if_true, reduceIte, or_true, true_or, z10, z00, true_imp_iff, false_imp_iff, not_false_eq_true, not_true_eq_false, true_and, and_true, Nat.zero_le, Nat.sub_zero, List.length_cons, List.length_nil, Nat.reduceAdd, Nat.reduceLT, Nat.reduceLeDiff]
      refine k_X8_count (hL.1 E1.2.2) hR1.1 ?_
      simp only [u_X2_shareContents_0, u_X2_shareContents_1, u_X2_shareContents_3, u_X2_shareContents_4, u_X2_shareContents_7, u_X2_shareContents_10, u_X2_shareContents_11, u_X2_shareContents_12, u_X2_shareContents_16, u_X2_shareContents_19, u_X2_shareContents_20, u_X2_shareContents_21, u_X2_shareContents_22, u_X2_shareContents_23, u_X2_shareContents_32, u_X2_shareContents_35, sa_put, sa_sel, sa_split, so_aload, so_cmp, so_goto, so_iload, so_istore, so_push, so_ret, so_virt, sa_nth, g1, List.cons_append, List.nil_append, Nat.reduceEqDiff, Option.toList_none, Option.toList_some, if_false, if_true, reduceIte, or_true, true_or, z10, z00, true_imp_iff, false_imp_iff, not_false_eq_true, not_true_eq_false, true_and, and_true, Nat.zero_le, Nat.sub_zero, List.length_cons, List.length_nil, Nat.reduceAdd, Nat.reduceLT, Nat.reduceLeDiff]
      rw [nI_leI (by omega) (by omega)]
      refine ⟨fun q => absurd q (by omega), fun _ => ?_⟩
      refine k_X2_linksAt hL hR1 _ ?_
      simp only [u_X2_shareContents_0, u_X2_shareContents_1, u_X2_shareContents_3, u_X2_shareContents_4, u_X2_shareContents_10, u_X2_shareContents_11, u_X2_shareContents_12, u_X2_shareContents_15, u_X2_shareContents_16, u_X2_shareContents_19, u_X2_shareContents_20, u_X2_shareContents_21, u_X2_shareContents_22, u_X2_shareContents_23, u_X2_shareContents_32, u_X2_shareContents_35, sa_put, sa_sel, sa_split, so_aload, so_cmp, so_goto, so_iload, so_istore, so_push, so_ret, so_virt, sa_nth, g1, List.cons_append, List.nil_append, Nat.reduceEqDiff, Option.toList_none, Option.toList_some, if_false, if_true, reduceIte, or_true, true_or, z10, z00, true_imp_iff, false_imp_iff, not_false_eq_true, not_true_eq_false, true_and, and_true, Nat.zero_le, Nat.sub_zero, List.length_cons, List.length_nil, Nat.reduceAdd, Nat.reduceLT, Nat.reduceLeDiff]
      refine ⟨fun q => ?_, fun q => ?_⟩
      · simp only [u_X2_shareContents_0, u_X2_shareContents_1, u_X2_shareContents_3, u_X2_shareContents_4, u_X2_shareContents_10, u_X2_shareContents_11, u_X2_shareContents_12, u_X2_shareContents_16, u_X2_shareContents_19, u_X2_shareContents_20, u_X2_shareContents_21, u_X2_shareContents_22, u_X2_shareContents_23, u_X2_shareContents_29, u_X2_shareContents_32, u_X2_shareContents_35, sa_put, sa_sel, sa_split, so_aload, so_cmp, so_goto, so_iinc, so_iload, so_istore, so_push, so_ret, so_virt, sa_nth, g1, List.cons_append, List.nil_append, Nat.reduceEqDiff, Option.toList_none, Option.toList_some, if_false, if_true, reduceIte, or_true, true_or, z10, z00, true_imp_iff, false_imp_iff, not_false_eq_true, not_true_eq_false, true_and, and_true, Nat.zero_le, Nat.sub_zero, List.length_cons, List.length_nil, Nat.reduceAdd, Nat.reduceLT, Nat.reduceLeDiff]
        rw [nI_1]
        refine ih (x + 1) E1 O1 (by omega) hR1 (fun i hi => ?_) (fun i hi hn => hz i (by omega) hn)
        by_cases hq : i = x
        · subst hq
          exact ⟨i, hz i (by omega) (by omega), self i (by omega) (by rw [i32_nlt]; exact q), by omega⟩
        · exact ha i (by omega)
      · refine k_X2_lastOfGroup hL hR1 (by omega) (fun r hr _ hrn => ?_)
        simp only [u_X2_shareContents_0, u_X2_shareContents_1, u_X2_shareContents_3, u_X2_shareContents_4, u_X2_shareContents_10, u_X2_shareContents_11, u_X2_shareContents_12, u_X2_shareContents_16, u_X2_shareContents_19, u_X2_shareContents_20, u_X2_shareContents_21, u_X2_shareContents_22, u_X2_shareContents_23, u_X2_shareContents_26, u_X2_shareContents_32, u_X2_shareContents_35, sa_put, sa_sel, sa_split, so_aload, so_cmp, so_goto, so_iload, so_istore, so_push, so_ret, so_virt, sa_nth, g1, List.cons_append, List.nil_append, Nat.reduceEqDiff, Option.toList_none, Option.toList_some, if_false, if_true, reduceIte, or_true, true_or, z10, z00, true_imp_iff, false_imp_iff, not_false_eq_true, not_true_eq_false, true_and, and_true, Nat.zero_le, Nat.sub_zero, List.length_cons, List.length_nil, Nat.reduceAdd, Nat.reduceLT, Nat.reduceLeDiff]
        refine k_X2_setHolder hL (by omega) _ ?_
        simp only [u_X2_shareContents_0, u_X2_shareContents_1, u_X2_shareContents_3, u_X2_shareContents_4, u_X2_shareContents_10, u_X2_shareContents_11, u_X2_shareContents_12, u_X2_shareContents_16, u_X2_shareContents_19, u_X2_shareContents_20, u_X2_shareContents_21, u_X2_shareContents_22, u_X2_shareContents_23, u_X2_shareContents_29, u_X2_shareContents_32, u_X2_shareContents_35, sa_put, sa_sel, sa_split, so_aload, so_cmp, so_goto, so_iinc, so_iload, so_istore, so_push, so_ret, so_virt, sa_nth, g1, List.cons_append, List.nil_append, Nat.reduceEqDiff, Option.toList_none, Option.toList_some, if_false, if_true, reduceIte, or_true, true_or, z10, z00, true_imp_iff, false_imp_iff, not_false_eq_true, not_true_eq_false, true_and, and_true, Nat.zero_le, Nat.sub_zero, List.length_cons, List.length_nil, Nat.reduceAdd, Nat.reduceLT, Nat.reduceLeDiff]
        rw [nI_1]
        obtain ⟨r1, r2, r3, r4, r5, r6, r7, r8⟩ := hR1
        refine ih (x + 1) _ (O1.set x (nI r)) (by omega) ⟨r1, r2, r3, r4, r5, r6, by rw [List.length_set]; exact r7, fun i hi => ?_⟩ (fun i hi => ?_) (fun i hi hn => ?_)
        · obtain ⟨s1, s2, s3, s4⟩ := r8 i hi
          refine ⟨s1, s2, s3, ?_⟩
          dsimp only
          by_cases hq : i = x
          · subst hq
            rw [pk_us, List.getElem?_set_self (by omega)]
          · rw [pk_un hq, List.getElem?_set_ne (by omega)]; exact s4
        · by_cases hq : i = x
          · subst hq
            exact ⟨r, List.getElem?_set_self (by omega), hr, hrn⟩
          · rw [List.getElem?_set_ne (by omega)]
            exact ha i (by omega)
        · rw [List.getElem?_set_ne (by omega)]
          exact hz i (by omega) hn
  simp only [e_X2_shareContents, u_X2_shareContents_0, u_X2_shareContents_1, u_X2_shareContents_3, u_X2_shareContents_4, u_X2_shareContents_10, u_X2_shareContents_11, u_X2_shareContents_12, u_X2_shareContents_16, u_X2_shareContents_19, u_X2_shareContents_20, u_X2_shareContents_21, u_X2_shareContents_22, u_X2_shareContents_23, u_X2_shareContents_32, u_X2_shareContents_35, sa_put, sa_sel, sa_split, so_aload, so_cmp, so_goto, so_iload, so_istore, so_push, so_ret, so_virt, sa_nth, List.cons_append, List.nil_append, Nat.reduceEqDiff, Option.toList_none, Option.toList_some, if_false, if_true, reduceIte, or_true, true_or, z10, z00, true_imp_iff, false_imp_iff, not_false_eq_true, not_true_eq_false, true_and, and_true, Nat.zero_le, Nat.sub_zero, List.length_cons, List.length_nil, Nat.reduceAdd, Nat.reduceLT, Nat.reduceLeDiff]
  exact loop _ 0 E O (Nat.zero_add _) hR (fun i hi => absurd hi (by omega)) (fun i _ hi => hO i hi)
end EBU
/-! THE CURSOR TAKES FIGURES AND CONTENTS -/
abbrev isFg (c : Int32) : Prop := 48 ≤ c ∧ c ≤ 57
def fgV (l : List Int32) : Nat → Nat → Nat → Nat × Nat
  | 0, p, v => (v, p)
  | n + 1, p, v => if isFg (pk l p) then fgV l n (p + 1) (10 * v + ((pk l p).toNatClampNeg - 48)) else (v, p)
theorem isFg_n {c : Int32} (h : isFg c) : ∃ m, c = nI m ∧ 48 ≤ m ∧ m ≤ 57 := by
  have h0 : ¬ c < 0 := by
    rw [i32_nlt]
    have := h.1
    rw [Int32.le_iff_toInt_le] at this ⊢
    exact Int.le_trans (by decide) this
  obtain ⟨m, hm, rfl⟩ := nI_of h0
  exact ⟨m, rfl, (nI_leI (a := 48) (by omega) hm).mp h.1, (nI_leI (b := 57) hm (by omega)).mp h.2⟩
theorem fgV_le (l : List Int32) : ∀ (n p v : Nat), p ≤ l.length → p ≤ (fgV l n p v).2 ∧ (fgV l n p v).2 ≤ p + n ∧ (fgV l n p v).2 ≤ l.length ∧ (fgV l n p v).1 < (v + 1) * 10 ^ n
  | 0, p, v, hp => ⟨Nat.le_refl _, Nat.le_refl _, hp, by show v < (v + 1) * 1; omega⟩
  | n + 1, p, v, hp => by
    unfold fgV
    split
    · next h =>
      have hlt : p < l.length := pe_lt (fun c => absurd h (by rw [c]; decide))
      obtain ⟨m, e, h1, h2⟩ := isFg_n h
      have := fgV_le l n (p + 1) (10 * v + ((pk l p).toNatClampNeg - 48)) (by omega)
      refine ⟨by omega, by omega, by omega, Nat.lt_of_lt_of_le this.2.2.2 ?_⟩
      rw [Nat.pow_succ, Nat.mul_comm (10 ^ n) 10, ← Nat.mul_assoc]
      refine Nat.mul_le_mul_right _ ?_
      rw [e, nI_clamp (by omega)]
      omega
    · refine ⟨Nat.le_refl _, by show p ≤ p + (n + 1); omega, hp, ?_⟩
      show v < (v + 1) * 10 ^ (n + 1)
      exact Nat.lt_of_lt_of_le (Nat.lt_succ_self v) (Nat.le_mul_of_pos_right _ (Nat.pow_pos (by omega)))
section CU2
variable {F : gF} {R D2 : sB_T} {E : gE} {cu hd : gC} {t : gI} {A : gA} {o : Nat → Int64} {l : List Int32} {p : Nat} {a : Int32} {Q : sa_Q} {N D : List (List Int32)} {w d : List Int32} {B U K O : List Int32}
theorem k_X10_isFigure {h0 : sa_H} (v : Int32) (h1 : isFg v → Q (some (.inl 1)) h0) (h2 : ¬ isFg v → Q (some (.inl 0)) h0) : ct_X10_isFigure 0 0 [.inl v] h0 Q := by
  simp only [e_X10_isFigure, u_X10_isFigure_0, u_X10_isFigure_1, u_X10_isFigure_3, u_X10_isFigure_6, u_X10_isFigure_7, u_X10_isFigure_9, u_X10_isFigure_12, u_X10_isFigure_13, u_X10_isFigure_16, u_X10_isFigure_17, so_cmp, so_goto, so_iload, so_push, so_zret, sa_nth, or_true, true_or, z10, z00, true_imp_iff, false_imp_iff, not_false_eq_true, not_true_eq_false, true_and, and_true, Nat.zero_le, Nat.sub_zero, List.length_cons, List.length_nil, Nat.reduceAdd, Nat.reduceLT, Nat.reduceLeDiff]
  refine ⟨fun q => h2 (fun b => ?_), fun q => ⟨fun q1 => h2 (fun b => ?_), fun q1 => h1 ⟨?_, ?_⟩⟩⟩
  · have := b.1; rw [← i32_nlt] at this; exact this q
  · have := b.2; rw [← i32_nlt] at this; exact this q1
  · rw [← i32_nlt]; exact q
  · rw [← i32_nlt]; exact q1
theorem k_X1_takeFigures (hR : sB_R 1500 R l) (hp : p ≤ l.length) {s : Nat} (hs : p < s) (hs7 : s ≤ p + 7) (h0 : ¬ isFg (pk l p) → ∀ a, Q (some (.inl (-1))) (mkH F R D2 E (cS l a (rf l p)) hd t A o)) (h1 : isFg (pk l p) → ∀ a, Q (some (.inl (nI (fgV l (s - p) p 0).1))) (mkH F R D2 E (cS l a (.inl (fgV l (s - p) p 0).2)) hd t A o)) : ct_X1_takeFigures 0 0 [.inr (.inl (some 24)), .inl (nI s)] (mkH F R D2 E (cS l a (.inl p)) hd t A o) Q := by
  have hl := hR.2.1
  have loop : isFg (pk l p) → ∀ (m p1 v : Nat) (a : Int32), m ≤ 7 → p1 ≤ l.length → v < 10 ^ (7 - m) → fgV l (s - p) p 0 = fgV l m p1 v → sa_w tb_X1_takeFigures (33, [some (.inr (.inl (some 24))), some (.inl (nI s)), some (.inl (nI v)), some (.inl (nI m))], [], mkH F R D2 E (cS l a (.inl p1)) hd t A o, 0, 0) Q := by
    intro hg m
    induction m with
    | zero =>
      intro p1 v a hm hp1 hv he
      rw [u_X1_takeFigures_33]
      simp only [u_X1_takeFigures_0, u_X1_takeFigures_1, u_X1_takeFigures_4, u_X1_takeFigures_5, u_X1_takeFigures_8, u_X1_takeFigures_17, u_X1_takeFigures_18, u_X1_takeFigures_22, u_X1_takeFigures_23, u_X1_takeFigures_24, u_X1_takeFigures_25, u_X1_takeFigures_26, u_X1_takeFigures_27, u_X1_takeFigures_28, u_X1_takeFigures_31, u_X1_takeFigures_32, u_X1_takeFigures_34, u_X1_takeFigures_37, u_X1_takeFigures_38, u_X1_takeFigures_41, u_X1_takeFigures_42, u_X1_takeFigures_45, u_X1_takeFigures_54, u_X1_takeFigures_55, u_X1_takeFigures_57, u_X1_takeFigures_58, u_X1_takeFigures_59, u_X1_takeFigures_62, u_X1_takeFigures_63, u_X1_takeFigures_66, u_X1_takeFigures_70, u_X1_takeFigures_72, u_X1_takeFigures_73, u_X1_takeFigures_74, u_X1_takeFigures_75, u_X1_takeFigures_76, u_X1_takeFigures_79, u_X1_takeFigures_80, u_X1_takeFigures_81, u_X1_takeFigures_84, u_X1_takeFigures_87, u_X1_takeFigures_90, u_X1_takeFigures_91, sa_put, sa_sel, sa_split, so_aload, so_bin, so_dup, so_get, so_goto, so_if, so_iinc, so_iload, so_iret, so_istore, so_push, so_put, so_virt, sa_nth, c24, c9, cS_ok, List.cons_append, List.nil_append, Nat.reduceEqDiff, Option.toList_none, Option.toList_some, if_false, if_true, reduceIte, sc_1, sf_0, sf_1, sf_i, sf_r, or_true, true_or, z10, z00, true_imp_iff, false_imp_iff, not_false_eq_true, not_true_eq_false, true_and, and_true, Nat.zero_le, Nat.sub_zero, List.length_cons, List.length_nil, Nat.reduceAdd, Nat.reduceLT, Nat.reduceLeDiff]
      refine ⟨fun q => ?_, fun q => absurd (by decide) q⟩
      have := h1 hg a
      rw [he] at this
      exact this
    | succ m ih =>
      intro p1 v a hm hp1 hv he
      have hv7 : v < 10 ^ 6 := Nat.lt_of_lt_of_le hv (Nat.pow_le_pow_right (by omega) (by omega))
      have hstop : ¬ isFg (pk l p1) → Q (some (.inl (nI v))) (mkH F R D2 E (cS l a (.inl p1)) hd t A o) := by
        intro hn
        have := h1 hg a
        rw [he] at this
        unfold fgV at this
        rw [if_neg hn] at this
        exact this
      rw [u_X1_takeFigures_33]
      simp only [u_X1_takeFigures_0, u_X1_takeFigures_1, u_X1_takeFigures_4, u_X1_takeFigures_5, u_X1_takeFigures_8, u_X1_takeFigures_17, u_X1_takeFigures_18, u_X1_takeFigures_22, u_X1_takeFigures_23, u_X1_takeFigures_24, u_X1_takeFigures_25, u_X1_takeFigures_26, u_X1_takeFigures_27, u_X1_takeFigures_28, u_X1_takeFigures_31, u_X1_takeFigures_32, u_X1_takeFigures_34, u_X1_takeFigures_37, u_X1_takeFigures_38, u_X1_takeFigures_41, u_X1_takeFigures_42, u_X1_takeFigures_45, u_X1_takeFigures_54, u_X1_takeFigures_55, u_X1_takeFigures_57, u_X1_takeFigures_58, u_X1_takeFigures_59, u_X1_takeFigures_62, u_X1_takeFigures_63, u_X1_takeFigures_66, u_X1_takeFigures_70, u_X1_takeFigures_72, u_X1_takeFigures_73, u_X1_takeFigures_74, u_X1_takeFigures_75, u_X1_takeFigures_76, u_X1_takeFigures_79, u_X1_takeFigures_80, u_X1_takeFigures_81, u_X1_takeFigures_84, u_X1_takeFigures_87, u_X1_takeFigures_90, u_X1_takeFigures_91, sa_put, sa_sel, sa_split, so_aload, so_bin, so_dup, so_get, so_goto, so_if, so_iinc, so_iload, so_iret, so_istore, so_push, so_put, so_virt, sa_nth, c24, c9, cS_ok, List.cons_append, List.nil_append, Nat.reduceEqDiff, Option.toList_none, Option.toList_some, if_false, if_true, reduceIte, sc_1, sf_0, sf_1, sf_i, sf_r, or_true, true_or, z10, z00, true_imp_iff, false_imp_iff, not_false_eq_true, not_true_eq_false, true_and, and_true, Nat.zero_le, Nat.sub_zero, List.length_cons, List.length_nil, Nat.reduceAdd, Nat.reduceLT, Nat.reduceLeDiff]
      refine ⟨fun q => absurd ((nI_leI (b := 0) (by omega) (by omega)).mp q) (by omega), fun q => ?_⟩
      refine k_X0_at (mk_R F D2 E _ hd t A o) hR _ ?_
      rw [sS_at_nI (by omega)]
      simp only [u_X1_takeFigures_0, u_X1_takeFigures_1, u_X1_takeFigures_4, u_X1_takeFigures_5, u_X1_takeFigures_8, u_X1_takeFigures_17, u_X1_takeFigures_18, u_X1_takeFigures_22, u_X1_takeFigures_23, u_X1_takeFigures_24, u_X1_takeFigures_25, u_X1_takeFigures_26, u_X1_takeFigures_27, u_X1_takeFigures_28, u_X1_takeFigures_31, u_X1_takeFigures_32, u_X1_takeFigures_34, u_X1_takeFigures_37, u_X1_takeFigures_38, u_X1_takeFigures_41, u_X1_takeFigures_42, u_X1_takeFigures_45, u_X1_takeFigures_48, u_X1_takeFigures_54, u_X1_takeFigures_55, u_X1_takeFigures_57, u_X1_takeFigures_58, u_X1_takeFigures_59, u_X1_takeFigures_62, u_X1_takeFigures_63, u_X1_takeFigures_66, u_X1_takeFigures_70, u_X1_takeFigures_72, u_X1_takeFigures_73, u_X1_takeFigures_74, u_X1_takeFigures_75, u_X1_takeFigures_76, u_X1_takeFigures_79, u_X1_takeFigures_80, u_X1_takeFigures_81, u_X1_takeFigures_84, u_X1_takeFigures_87, u_X1_takeFigures_90, u_X1_takeFigures_91, sa_put, sa_sel, sa_split, so_aload, so_bin, so_dup, so_get, so_goto, so_if, so_iinc, so_iload, so_iret, so_istore, so_push, so_put, so_stat, so_virt, sa_nth, c24, c9, List.cons_append, List.nil_append, Nat.reduceEqDiff, Option.toList_none, Option.toList_some, if_false, if_true, reduceIte, sc_1, sf_0, sf_1, sf_i, sf_r, or_true, true_or, z10, z00, true_imp_iff, false_imp_iff, not_false_eq_true, not_true_eq_false, true_and, and_true, Nat.zero_le, Nat.sub_zero, List.length_cons, List.length_nil, Nat.reduceAdd, Nat.reduceLT, Nat.reduceLeDiff]
      refine k_X10_isFigure _ (fun hf => ?_) (fun hf => ?_)
      · change isFg (pk l p1) at hf
        simp only [u_X1_takeFigures_0, u_X1_takeFigures_1, u_X1_takeFigures_4, u_X1_takeFigures_5, u_X1_takeFigures_8, u_X1_takeFigures_17, u_X1_takeFigures_18, u_X1_takeFigures_22, u_X1_takeFigures_23, u_X1_takeFigures_24, u_X1_takeFigures_25, u_X1_takeFigures_26, u_X1_takeFigures_27, u_X1_takeFigures_28, u_X1_takeFigures_31, u_X1_takeFigures_32, u_X1_takeFigures_34, u_X1_takeFigures_37, u_X1_takeFigures_38, u_X1_takeFigures_41, u_X1_takeFigures_42, u_X1_takeFigures_45, u_X1_takeFigures_51, u_X1_takeFigures_54, u_X1_takeFigures_55, u_X1_takeFigures_57, u_X1_takeFigures_58, u_X1_takeFigures_59, u_X1_takeFigures_62, u_X1_takeFigures_63, u_X1_takeFigures_66, u_X1_takeFigures_70, u_X1_takeFigures_72, u_X1_takeFigures_73, u_X1_takeFigures_74, u_X1_takeFigures_75, u_X1_takeFigures_76, u_X1_takeFigures_79, u_X1_takeFigures_80, u_X1_takeFigures_81, u_X1_takeFigures_84, u_X1_takeFigures_87, u_X1_takeFigures_90, u_X1_takeFigures_91, sa_put, sa_sel, sa_split, so_aload, so_bin, so_dup, so_get, so_goto, so_if, so_iinc, so_iload, so_iret, so_istore, so_push, so_put, so_virt, sa_nth, c24, c9, List.cons_append, List.nil_append, Nat.reduceEqDiff, Option.toList_none, Option.toList_some, if_false, if_true, reduceIte, sc_1, sf_0, sf_1, sf_i, sf_r, or_true, true_or, z10, z00, true_imp_iff, false_imp_iff, not_false_eq_true, not_true_eq_false, true_and, and_true, Nat.zero_le, Nat.sub_zero, List.length_cons, List.length_nil, Nat.reduceAdd, Nat.reduceLT, Nat.reduceLeDiff]
        refine k_X0_at (mk_R F D2 E _ hd t A o) hR _ ?_
        rw [sS_at_nI (by omega)]
        simp only [u_X1_takeFigures_0, u_X1_takeFigures_1, u_X1_takeFigures_4, u_X1_takeFigures_5, u_X1_takeFigures_8, u_X1_takeFigures_17, u_X1_takeFigures_18, u_X1_takeFigures_22, u_X1_takeFigures_23, u_X1_takeFigures_24, u_X1_takeFigures_25, u_X1_takeFigures_26, u_X1_takeFigures_27, u_X1_takeFigures_28, u_X1_takeFigures_31, u_X1_takeFigures_32, u_X1_takeFigures_34, u_X1_takeFigures_37, u_X1_takeFigures_38, u_X1_takeFigures_41, u_X1_takeFigures_42, u_X1_takeFigures_45, u_X1_takeFigures_54, u_X1_takeFigures_55, u_X1_takeFigures_57, u_X1_takeFigures_58, u_X1_takeFigures_59, u_X1_takeFigures_62, u_X1_takeFigures_63, u_X1_takeFigures_66, u_X1_takeFigures_69, u_X1_takeFigures_70, u_X1_takeFigures_72, u_X1_takeFigures_73, u_X1_takeFigures_74, u_X1_takeFigures_75, u_X1_takeFigures_76, u_X1_takeFigures_79, u_X1_takeFigures_80, u_X1_takeFigures_81, u_X1_takeFigures_84, u_X1_takeFigures_87, u_X1_takeFigures_90, u_X1_takeFigures_91, sa_put, sa_sel, sa_split, so_aload, so_bin, so_dup, so_get, so_goto, so_if, so_iinc, so_iload, so_iret, so_istore, so_push, so_put, so_virt, sa_nth, c24, c24p, List.cons_append, List.nil_append, Nat.reduceEqDiff, Option.toList_none, Option.toList_some, if_false, if_true, reduceIte, sc_1, sf_0, sf_1, sf_i, sf_r, or_true, true_or, z10, z00, true_imp_iff, false_imp_iff, not_false_eq_true, not_true_eq_false, true_and, and_true, Nat.zero_le, Nat.sub_zero, List.length_cons, List.length_nil, Nat.reduceAdd, Nat.reduceLT, Nat.reduceLeDiff]
        have hlt : p1 < l.length := pe_lt (fun c => absurd hf (by rw [c]; decide))
        obtain ⟨mm, e, g1, g2⟩ := isFg_n hf
        have he2 : fgV l (s - p) p 0 = fgV l m (p1 + 1) (10 * v + (mm - 48)) := by
          rw [he]
          show (if isFg (pk l p1) then _ else _) = _
          rw [if_pos hf, e, nI_clamp (by omega)]
        change sa_w tb_X1_takeFigures (33, [_, _, some (.inl (nI v * 10 + pk l p1 - 48)), _], [], _, 0, 0) Q
        have hval : nI v * 10 + pk l p1 - 48 = nI (10 * v + (mm - 48)) := by
          rw [e, show (10 : Int32) = nI 10 from rfl, pk_mul, nI_add, show (48 : Int32) = nI 48 from rfl, pk_sub (by omega), show v * 10 + mm - 48 = 10 * v + (mm - 48) by omega]
        rw [hval, ← Int32.sub_eq_add_neg, nI_pred, nI_1]
        refine ih (p1 + 1) (10 * v + (mm - 48)) 0 (by omega) (by omega) ?_ he2
        rw [show 7 - m = 7 - (m + 1) + 1 by omega, Nat.pow_succ]
        omega
      · simp only [u_X1_takeFigures_0, u_X1_takeFigures_1, u_X1_takeFigures_4, u_X1_takeFigures_5, u_X1_takeFigures_8, u_X1_takeFigures_17, u_X1_takeFigures_18, u_X1_takeFigures_22, u_X1_takeFigures_23, u_X1_takeFigures_24, u_X1_takeFigures_25, u_X1_takeFigures_26, u_X1_takeFigures_27, u_X1_takeFigures_28, u_X1_takeFigures_31, u_X1_takeFigures_32, u_X1_takeFigures_34, u_X1_takeFigures_37, u_X1_takeFigures_38, u_X1_takeFigures_41, u_X1_takeFigures_42, u_X1_takeFigures_45, u_X1_takeFigures_51, u_X1_takeFigures_54, u_X1_takeFigures_55, u_X1_takeFigures_57, u_X1_takeFigures_58, u_X1_takeFigures_59, u_X1_takeFigures_62, u_X1_takeFigures_63, u_X1_takeFigures_66, u_X1_takeFigures_70, u_X1_takeFigures_72, u_X1_takeFigures_73, u_X1_takeFigures_74, u_X1_takeFigures_75, u_X1_takeFigures_76, u_X1_takeFigures_79, u_X1_takeFigures_80, u_X1_takeFigures_81, u_X1_takeFigures_84, u_X1_takeFigures_87, u_X1_takeFigures_90, u_X1_takeFigures_91, sa_put, sa_sel, sa_split, so_aload, so_bin, so_dup, so_get, so_goto, so_if, so_iinc, so_iload, so_iret, so_istore, so_push, so_put, so_virt, sa_nth, c24, c9, List.cons_append, List.nil_append, Nat.reduceEqDiff, Option.toList_none, Option.toList_some, if_false, if_true, reduceIte, sc_1, sf_0, sf_1, sf_i, sf_r, or_true, true_or, z10, z00, true_imp_iff, false_imp_iff, not_false_eq_true, not_true_eq_false, true_and, and_true, Nat.zero_le, Nat.sub_zero, List.length_cons, List.length_nil, Nat.reduceAdd, Nat.reduceLT, Nat.reduceLeDiff]
        exact hstop hf
  simp only [e_X1_takeFigures, u_X1_takeFigures_0, u_X1_takeFigures_1, u_X1_takeFigures_4, u_X1_takeFigures_5, u_X1_takeFigures_8, u_X1_takeFigures_17, u_X1_takeFigures_18, u_X1_takeFigures_22, u_X1_takeFigures_23, u_X1_takeFigures_24, u_X1_takeFigures_25, u_X1_takeFigures_26, u_X1_takeFigures_27, u_X1_takeFigures_28, u_X1_takeFigures_31, u_X1_takeFigures_32, u_X1_takeFigures_34, u_X1_takeFigures_37, u_X1_takeFigures_38, u_X1_takeFigures_41, u_X1_takeFigures_42, u_X1_takeFigures_45, u_X1_takeFigures_54, u_X1_takeFigures_55, u_X1_takeFigures_57, u_X1_takeFigures_58, u_X1_takeFigures_59, u_X1_takeFigures_62, u_X1_takeFigures_63, u_X1_takeFigures_66, u_X1_takeFigures_70, u_X1_takeFigures_72, u_X1_takeFigures_73, u_X1_takeFigures_74, u_X1_takeFigures_75, u_X1_takeFigures_76, u_X1_takeFigures_79, u_X1_takeFigures_80, u_X1_takeFigures_81, u_X1_takeFigures_84, u_X1_takeFigures_87, u_X1_takeFigures_90, u_X1_takeFigures_91, sa_put, sa_sel, sa_split, so_aload, so_bin, so_dup, so_get, so_goto, so_if, so_iinc, so_iload, so_iret, so_istore, so_push, so_put, so_virt, sa_nth, c24, c9, cS_ok, List.cons_append, List.nil_append, Nat.reduceEqDiff, Option.toList_none, Option.toList_some, if_false, if_true, reduceIte, sc_1, sf_0, sf_1, sf_i, sf_r, or_true, true_or, z10, z00, true_imp_iff, false_imp_iff, not_false_eq_true, not_true_eq_false, true_and, and_true, Nat.zero_le, Nat.sub_zero, List.length_cons, List.length_nil, Nat.reduceAdd, Nat.reduceLT, Nat.reduceLeDiff]
  refine k_X0_at (mk_R F D2 E _ hd t A o) hR _ ?_
  rw [sS_at_nI (by omega)]
  simp only [u_X1_takeFigures_0, u_X1_takeFigures_1, u_X1_takeFigures_4, u_X1_takeFigures_5, u_X1_takeFigures_8, u_X1_takeFigures_11, u_X1_takeFigures_17, u_X1_takeFigures_18, u_X1_takeFigures_22, u_X1_takeFigures_23, u_X1_takeFigures_24, u_X1_takeFigures_25, u_X1_takeFigures_26, u_X1_takeFigures_27, u_X1_takeFigures_28, u_X1_takeFigures_31, u_X1_takeFigures_32, u_X1_takeFigures_34, u_X1_takeFigures_37, u_X1_takeFigures_38, u_X1_takeFigures_41, u_X1_takeFigures_42, u_X1_takeFigures_45, u_X1_takeFigures_54, u_X1_takeFigures_55, u_X1_takeFigures_57, u_X1_takeFigures_58, u_X1_takeFigures_59, u_X1_takeFigures_62, u_X1_takeFigures_63, u_X1_takeFigures_66, u_X1_takeFigures_70, u_X1_takeFigures_72, u_X1_takeFigures_73, u_X1_takeFigures_74, u_X1_takeFigures_75, u_X1_takeFigures_76, u_X1_takeFigures_79, u_X1_takeFigures_80, u_X1_takeFigures_81, u_X1_takeFigures_84, u_X1_takeFigures_87, u_X1_takeFigures_90, u_X1_takeFigures_91, sa_put, sa_sel, sa_split, so_aload, so_bin, so_dup, so_get, so_goto, so_if, so_iinc, so_iload, so_iret, so_istore, so_push, so_put, so_stat, so_virt, sa_nth, c24, c9, List.cons_append, List.nil_append, Nat.reduceEqDiff, Option.toList_none, Option.toList_some, if_false, if_true, reduceIte, sc_1, sf_0, sf_1, sf_i, sf_r, or_true, true_or, z10, z00, true_imp_iff, false_imp_iff, not_false_eq_true, not_true_eq_false, true_and, and_true, Nat.zero_le, Nat.sub_zero, List.length_cons, List.length_nil, Nat.reduceAdd, Nat.reduceLT, Nat.reduceLeDiff]
  refine k_X10_isFigure _ (fun hf => ?_) (fun hf => ?_)
  · simp only [u_X1_takeFigures_0, u_X1_takeFigures_1, u_X1_takeFigures_4, u_X1_takeFigures_5, u_X1_takeFigures_8, u_X1_takeFigures_14, u_X1_takeFigures_17, u_X1_takeFigures_18, u_X1_takeFigures_22, u_X1_takeFigures_23, u_X1_takeFigures_24, u_X1_takeFigures_25, u_X1_takeFigures_26, u_X1_takeFigures_27, u_X1_takeFigures_28, u_X1_takeFigures_31, u_X1_takeFigures_32, u_X1_takeFigures_34, u_X1_takeFigures_37, u_X1_takeFigures_38, u_X1_takeFigures_41, u_X1_takeFigures_42, u_X1_takeFigures_45, u_X1_takeFigures_54, u_X1_takeFigures_55, u_X1_takeFigures_57, u_X1_takeFigures_58, u_X1_takeFigures_59, u_X1_takeFigures_62, u_X1_takeFigures_63, u_X1_takeFigures_66, u_X1_takeFigures_70, u_X1_takeFigures_72, u_X1_takeFigures_73, u_X1_takeFigures_74, u_X1_takeFigures_75, u_X1_takeFigures_76, u_X1_takeFigures_79, u_X1_takeFigures_80, u_X1_takeFigures_81, u_X1_takeFigures_84, u_X1_takeFigures_87, u_X1_takeFigures_90, u_X1_takeFigures_91, sa_put, sa_sel, sa_split, so_aload, so_bin, so_dup, so_get, so_goto, so_if, so_iinc, so_iload, so_iret, so_istore, so_push, so_put, so_virt, sa_nth, c24, c9, List.cons_append, List.nil_append, Nat.reduceEqDiff, Option.toList_none, Option.toList_some, if_false, if_true, reduceIte, sc_1, sf_0, sf_1, sf_i, sf_r, or_true, true_or, z10, z00, true_imp_iff, false_imp_iff, not_false_eq_true, not_true_eq_false, true_and, and_true, Nat.zero_le, Nat.sub_zero, List.length_cons, List.length_nil, Nat.reduceAdd, Nat.reduceLT, Nat.reduceLeDiff]
    rw [pk_sub (by omega)]
    exact loop hf (s - p) p 0 0 (by omega) hp (Nat.pow_pos (by omega)) rfl
  · simp only [u_X1_takeFigures_0, u_X1_takeFigures_1, u_X1_takeFigures_4, u_X1_takeFigures_5, u_X1_takeFigures_8, u_X1_takeFigures_14, u_X1_takeFigures_17, u_X1_takeFigures_18, u_X1_takeFigures_22, u_X1_takeFigures_23, u_X1_takeFigures_24, u_X1_takeFigures_25, u_X1_takeFigures_26, u_X1_takeFigures_27, u_X1_takeFigures_28, u_X1_takeFigures_31, u_X1_takeFigures_32, u_X1_takeFigures_34, u_X1_takeFigures_37, u_X1_takeFigures_38, u_X1_takeFigures_41, u_X1_takeFigures_42, u_X1_takeFigures_45, u_X1_takeFigures_54, u_X1_takeFigures_55, u_X1_takeFigures_57, u_X1_takeFigures_58, u_X1_takeFigures_59, u_X1_takeFigures_62, u_X1_takeFigures_63, u_X1_takeFigures_66, u_X1_takeFigures_70, u_X1_takeFigures_72, u_X1_takeFigures_73, u_X1_takeFigures_74, u_X1_takeFigures_75, u_X1_takeFigures_76, u_X1_takeFigures_79, u_X1_takeFigures_80, u_X1_takeFigures_81, u_X1_takeFigures_84, u_X1_takeFigures_87, u_X1_takeFigures_90, u_X1_takeFigures_91, sa_put, sa_sel, sa_split, so_aload, so_bin, so_dup, so_get, so_goto, so_if, so_iinc, so_iload, so_iret, so_istore, so_push, so_put, so_virt, sa_nth, c24, c9, List.cons_append, List.nil_append, Nat.reduceEqDiff, Option.toList_none, Option.toList_some, if_false, if_true, reduceIte, sc_1, sf_0, sf_1, sf_i, sf_r, or_true, true_or, z10, z00, true_imp_iff, false_imp_iff, not_false_eq_true, not_true_eq_false, true_and, and_true, Nat.zero_le, Nat.sub_zero, List.length_cons, List.length_nil, Nat.reduceAdd, Nat.reduceLT, Nat.reduceLeDiff]
    refine k_X1_refuseHere (l := l) (p := p) (a := 0) hp hl (fun b => ?_)
    simp only [u_X1_takeFigures_0, u_X1_takeFigures_1, u_X1_takeFigures_4, u_X1_takeFigures_5, u_X1_takeFigures_8, u_X1_takeFigures_17, u_X1_takeFigures_18, u_X1_takeFigures_21, u_X1_takeFigures_22, u_X1_takeFigures_23, u_X1_takeFigures_24, u_X1_takeFigures_25, u_X1_takeFigures_26, u_X1_takeFigures_27, u_X1_takeFigures_28, u_X1_takeFigures_31, u_X1_takeFigures_32, u_X1_takeFigures_34, u_X1_takeFigures_37, u_X1_takeFigures_38, u_X1_takeFigures_41, u_X1_takeFigures_42, u_X1_takeFigures_45, u_X1_takeFigures_54, u_X1_takeFigures_55, u_X1_takeFigures_57, u_X1_takeFigures_58, u_X1_takeFigures_59, u_X1_takeFigures_62, u_X1_takeFigures_63, u_X1_takeFigures_66, u_X1_takeFigures_70, u_X1_takeFigures_72, u_X1_takeFigures_73, u_X1_takeFigures_74, u_X1_takeFigures_75, u_X1_takeFigures_76, u_X1_takeFigures_79, u_X1_takeFigures_80, u_X1_takeFigures_81, u_X1_takeFigures_84, u_X1_takeFigures_87, u_X1_takeFigures_90, u_X1_takeFigures_91, sa_put, sa_sel, sa_split, so_aload, so_bin, so_dup, so_get, so_goto, so_if, so_iinc, so_iload, so_iret, so_istore, so_pop, so_push, so_put, so_virt, sa_nth, List.cons_append, List.nil_append, Nat.reduceEqDiff, Option.toList_none, Option.toList_some, if_false, if_true, reduceIte, sc_1, sf_0, sf_1, sf_i, sf_r, or_true, true_or, z10, z00, true_imp_iff, false_imp_iff, not_false_eq_true, not_true_eq_false, true_and, and_true, Nat.zero_le, Nat.sub_zero, List.length_cons, List.length_nil, Nat.reduceAdd, Nat.reduceLT, Nat.reduceLeDiff]
    exact h0 hf b
theorem k_X1_skip {n : Nat} (hp : p ≤ l.length) (hl : l.length ≤ 1500) (hn : n < 2 ^ 30) (h1 : p + n ≤ l.length → ∀ a, Q (some (.inl 1)) (mkH F R D2 E (cS l a (.inl (p + n))) hd t A o)) (h0 : ¬ p + n ≤ l.length → ∀ a, Q (some (.inl 0)) (mkH F R D2 E (cS l a (.inr (kI, l.length))) hd t A o)) : ct_X1_skip 0 0 [.inr (.inl (some 24)), .inl (nI n)] (mkH F R D2 E (cS l a (.inl p)) hd t A o) Q := by
  simp only [e_X1_skip, u_X1_skip_0, u_X1_skip_1, u_X1_skip_2, u_X1_skip_8, u_X1_skip_9, u_X1_skip_10, u_X1_skip_11, u_X1_skip_12, u_X1_skip_15, u_X1_skip_16, u_X1_skip_17, u_X1_skip_20, u_X1_skip_21, sa_put, sa_sel, sa_split, so_aload, so_bin, so_dup, so_get, so_iload, so_push, so_put, so_virt, so_zret, sa_nth, c24, List.cons_append, List.nil_append, Nat.reduceEqDiff, Option.toList_none, Option.toList_some, if_false, if_true, reduceIte, sc_1, sf_0, sf_1, sf_i, sf_r, or_true, true_or, z10, z00, true_imp_iff, false_imp_iff, not_false_eq_true, not_true_eq_false, true_and, and_true, Nat.zero_le, Nat.sub_zero, List.length_cons, List.length_nil, Nat.reduceAdd, Nat.reduceLT, Nat.reduceLeDiff]
  refine k_X1_hasBytes hp hl hn (fun q => ?_) (fun q b => ?_)
  · simp only [u_X1_skip_0, u_X1_skip_1, u_X1_skip_2, u_X1_skip_5, u_X1_skip_8, u_X1_skip_9, u_X1_skip_10, u_X1_skip_11, u_X1_skip_12, u_X1_skip_15, u_X1_skip_16, u_X1_skip_17, u_X1_skip_20, u_X1_skip_21, sa_put, sa_sel, sa_split, so_aload, so_bin, so_dup, so_get, so_if, so_iload, so_push, so_put, so_virt, so_zret, sa_nth, c24, c24p, cS_ok, List.cons_append, List.nil_append, Nat.reduceEqDiff, Option.toList_none, Option.toList_some, if_false, if_true, reduceIte, sc_1, sf_0, sf_1, sf_i, sf_r, or_true, true_or, z10, z00, true_imp_iff, false_imp_iff, not_false_eq_true, not_true_eq_false, true_and, and_true, Nat.zero_le, Nat.sub_zero, List.length_cons, List.length_nil, Nat.reduceAdd, Nat.reduceLT, Nat.reduceLeDiff]
    rw [nI_add]
    exact h1 q 0
  · simp only [u_X1_skip_0, u_X1_skip_1, u_X1_skip_2, u_X1_skip_5, u_X1_skip_8, u_X1_skip_9, u_X1_skip_10, u_X1_skip_11, u_X1_skip_12, u_X1_skip_15, u_X1_skip_16, u_X1_skip_17, u_X1_skip_20, u_X1_skip_21, sa_put, sa_sel, sa_split, so_aload, so_bin, so_dup, so_get, so_if, so_iload, so_push, so_put, so_virt, so_zret, sa_nth, List.cons_append, List.nil_append, Nat.reduceEqDiff, Option.toList_none, Option.toList_some, if_false, if_true, reduceIte, sc_1, sf_0, sf_1, sf_i, sf_r, or_true, true_or, z10, z00, true_imp_iff, false_imp_iff, not_false_eq_true, not_true_eq_false, true_and, and_true, Nat.zero_le, Nat.sub_zero, List.length_cons, List.length_nil, Nat.reduceAdd, Nat.reduceLT, Nat.reduceLeDiff]
    exact h0 q b
theorem drop_take_succ (l : List Int32) (p n : Nat) (h : p + n < l.length) : (l.drop p).take (n + 1) = (l.drop p).take n ++ [pk l (p + n)] := by
  rw [List.take_succ_eq_append_getElem (by rw [List.length_drop]; omega), List.getElem_drop]
  unfold pk
  rw [List.getElem?_eq_getElem h]
  rfl
theorem k_X1_takeContents (hR : sB_R 1500 R l) (hp : p ≤ l.length) {n : Nat} (hn : n < 2 ^ 30) (hE : sE_R E N (D ++ [d]) B U K O) (hlt : D.flatten.length + d.length ≤ p) (h1 : p + n ≤ l.length → ∀ a E', sE_R E' N (D ++ [d ++ (l.drop p).take n]) B U K O → Q (some (.inl 1)) (mkH F R D2 E' (cS l a (.inl (p + n))) hd t A o)) (h0 : ¬ p + n ≤ l.length → ∀ a, Q (some (.inl 0)) (mkH F R D2 E (cS l a (.inr (kI, l.length))) hd t A o)) : ct_X1_takeContents 0 0 [.inr (.inl (some 24)), .inr (.inl (some 13)), .inl (nI n)] (mkH F R D2 E (cS l a (.inl p)) hd t A o) Q := by
  have hl := hR.2.1
  simp only [e_X1_takeContents, u_X1_takeContents_0, u_X1_takeContents_1, u_X1_takeContents_2, u_X1_takeContents_8, u_X1_takeContents_9, u_X1_takeContents_10, u_X1_takeContents_11, u_X1_takeContents_12, u_X1_takeContents_13, u_X1_takeContents_14, u_X1_takeContents_17, u_X1_takeContents_18, u_X1_takeContents_19, u_X1_takeContents_28, u_X1_takeContents_31, u_X1_takeContents_32, sa_put, sa_sel, sa_split, so_aload, so_cmp, so_goto, so_iload, so_istore, so_push, so_virt, so_zret, sa_nth, c24, List.cons_append, List.nil_append, Nat.reduceEqDiff, Option.toList_none, Option.toList_some, if_false, if_true, reduceIte, or_true, true_or, z10, z00, true_imp_iff, false_imp_iff, not_false_eq_true, not_true_eq_false, true_and, and_true, Nat.zero_le, Nat.sub_zero, List.length_cons, List.length_nil, Nat.reduceAdd, Nat.reduceLT, Nat.reduceLeDiff]
  refine k_X1_hasBytes hp hl hn (fun q => ?_) (fun q b => ?_)
  · have loop : ∀ (m x : Nat) (E1 : gE) (a : Int32), x + m = n → sE_R E1 N (D ++ [d ++ (l.drop p).take x]) B U K O → sa_w tb_X1_takeContents (12, [some (.inr (.inl (some 24))), some (.inr (.inl (some 13))), some (.inl (nI n)), some (.inl (nI x))], [], mkH F R D2 E1 (cS l a (.inl (p + x))) hd t A o, 0, 0) Q := by
      intro m
      induction m with
      | zero =>
        intro x E1 a hx hE1
        rw [u_X1_takeContents_12]
        simp only [u_X1_takeContents_0, u_X1_takeContents_1, u_X1_takeContents_2, u_X1_takeContents_8, u_X1_takeContents_9, u_X1_takeContents_10, u_X1_takeContents_11, u_X1_takeContents_13, u_X1_takeContents_14, u_X1_takeContents_17, u_X1_takeContents_18, u_X1_takeContents_19, u_X1_takeContents_28, u_X1_takeContents_31, u_X1_takeContents_32, sa_put, sa_sel, sa_split, so_aload, so_cmp, so_goto, so_iload, so_istore, so_push, so_virt, so_zret, sa_nth, c24, c13, List.cons_append, List.nil_append, Nat.reduceEqDiff, Option.toList_none, Option.toList_some, if_false, if_true, reduceIte, or_true, true_or, z10, z00, true_imp_iff, false_imp_iff, not_false_eq_true, not_true_eq_false, true_and, and_true, Nat.zero_le, Nat.sub_zero, List.length_cons, List.length_nil, Nat.reduceAdd, Nat.reduceLT, Nat.reduceLeDiff]
        rw [nI_leI (by omega) (by omega)]
        refine ⟨fun _ => ?_, fun q => absurd (by omega) q⟩
        rw [show x = n by omega] at hE1 ⊢
        exact h1 q a E1 hE1
      | succ m ih =>
        intro x E1 a hx hE1
        rw [u_X1_takeContents_12]
        simp only [u_X1_takeContents_0, u_X1_takeContents_1, u_X1_takeContents_2, u_X1_takeContents_8, u_X1_takeContents_9, u_X1_takeContents_10, u_X1_takeContents_11, u_X1_takeContents_13, u_X1_takeContents_14, u_X1_takeContents_17, u_X1_takeContents_18, u_X1_takeContents_19, u_X1_takeContents_28, u_X1_takeContents_31, u_X1_takeContents_32, sa_put, sa_sel, sa_split, so_aload, so_cmp, so_goto, so_iload, so_istore, so_push, so_virt, so_zret, sa_nth, c24, c13, List.cons_append, List.nil_append, Nat.reduceEqDiff, Option.toList_none, Option.toList_some, if_false, if_true, reduceIte, or_true, true_or, z10, z00, true_imp_iff, false_imp_iff, not_false_eq_true, not_true_eq_false, true_and, and_true, Nat.zero_le, Nat.sub_zero, List.length_cons, List.length_nil, Nat.reduceAdd, Nat.reduceLT, Nat.reduceLeDiff]
        rw [nI_leI (by omega) (by omega)]
        refine ⟨fun q => absurd q (by omega), fun _ => ?_⟩
        refine k_X1_take hR (by omega) (fun b => ?_)
        simp only [u_X1_takeContents_0, u_X1_takeContents_1, u_X1_takeContents_2, u_X1_takeContents_8, u_X1_takeContents_9, u_X1_takeContents_10, u_X1_takeContents_11, u_X1_takeContents_13, u_X1_takeContents_14, u_X1_takeContents_17, u_X1_takeContents_18, u_X1_takeContents_19, u_X1_takeContents_22, u_X1_takeContents_28, u_X1_takeContents_31, u_X1_takeContents_32, sa_put, sa_sel, sa_split, so_aload, so_cmp, so_goto, so_iload, so_istore, so_push, so_virt, so_zret, sa_nth, c24, c13, List.cons_append, List.nil_append, Nat.reduceEqDiff, Option.toList_none, Option.toList_some, if_false, if_true, reduceIte, or_true, true_or, z10, z00, true_imp_iff, false_imp_iff, not_false_eq_true, not_true_eq_false, true_and, and_true, Nat.zero_le, Nat.sub_zero, List.length_cons, List.length_nil, Nat.reduceAdd, Nat.reduceLT, Nat.reduceLeDiff]
        refine kE_addData (mk_E F R D2 _ hd t A o) hE1 ?_ _ (fun E2 hE2 => ?_)
        · rw [List.length_append, List.length_take]; omega
        simp only [u_X1_takeContents_0, u_X1_takeContents_1, u_X1_takeContents_2, u_X1_takeContents_8, u_X1_takeContents_9, u_X1_takeContents_10, u_X1_takeContents_11, u_X1_takeContents_13, u_X1_takeContents_14, u_X1_takeContents_17, u_X1_takeContents_18, u_X1_takeContents_19, u_X1_takeContents_25, u_X1_takeContents_28, u_X1_takeContents_31, u_X1_takeContents_32, sa_put, sa_sel, sa_split, so_aload, so_cmp, so_goto, so_iinc, so_iload, so_istore, so_push, so_virt, so_zret, sa_nth, c24, c13, List.cons_append, List.nil_append, Nat.reduceEqDiff, Option.toList_none, Option.toList_some, if_false, if_true, reduceIte, or_true, true_or, z10, z00, true_imp_iff, false_imp_iff, not_false_eq_true, not_true_eq_false, true_and, and_true, Nat.zero_le, Nat.sub_zero, List.length_cons, List.length_nil, Nat.reduceAdd, Nat.reduceLT, Nat.reduceLeDiff]
        rw [nI_1]
        refine ih (x + 1) E2 b (by omega) ?_
        rw [drop_take_succ l p x (by omega), ← List.append_assoc]
        exact hE2
    simp only [u_X1_takeContents_0, u_X1_takeContents_1, u_X1_takeContents_2, u_X1_takeContents_5, u_X1_takeContents_8, u_X1_takeContents_9, u_X1_takeContents_10, u_X1_takeContents_11, u_X1_takeContents_13, u_X1_takeContents_14, u_X1_takeContents_17, u_X1_takeContents_18, u_X1_takeContents_19, u_X1_takeContents_28, u_X1_takeContents_31, u_X1_takeContents_32, sa_put, sa_sel, sa_split, so_aload, so_cmp, so_goto, so_if, so_iload, so_istore, so_push, so_virt, so_zret, sa_nth, c24, c13, List.cons_append, List.nil_append, Nat.reduceEqDiff, Option.toList_none, Option.toList_some, if_false, if_true, reduceIte, or_true, true_or, z10, z00, true_imp_iff, false_imp_iff, not_false_eq_true, not_true_eq_false, true_and, and_true, Nat.zero_le, Nat.sub_zero, List.length_cons, List.length_nil, Nat.reduceAdd, Nat.reduceLT, Nat.reduceLeDiff]
    exact loop n 0 E a (Nat.zero_add _) (by simpa using hE)
  · simp only [u_X1_takeContents_0, u_X1_takeContents_1, u_X1_takeContents_2, u_X1_takeContents_5, u_X1_takeContents_8, u_X1_takeContents_9, u_X1_takeContents_10, u_X1_takeContents_11, u_X1_takeContents_13, u_X1_takeContents_14, u_X1_takeContents_17, u_X1_takeContents_18, u_X1_takeContents_19, u_X1_takeContents_28, u_X1_takeContents_31, u_X1_takeContents_32, sa_put, sa_sel, sa_split, so_aload, so_cmp, so_goto, so_if, so_iload, so_istore, so_push, so_virt, so_zret, sa_nth, List.cons_append, List.nil_append, Nat.reduceEqDiff, Option.toList_none, Option.toList_some, if_false, if_true, reduceIte, or_true, true_or, z10, z00, true_imp_iff, false_imp_iff, not_false_eq_true, not_true_eq_false, true_and, and_true, Nat.zero_le, Nat.sub_zero, List.length_cons, List.length_nil, Nat.reduceAdd, Nat.reduceLT, Nat.reduceLeDiff]
    exact h0 q b
end CU2
