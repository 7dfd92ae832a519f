/-! STEPS ARE MONOTONE; so the weakest precondition is a fixed point -/
def sa_mono (op : sa_O) : Prop := ∀ (g : sa_G) (K K' : sa_G → Prop) (Q Q' : sa_Q), (∀ g, K g → K' g) → (∀ r h, Q r h → Q' r h) → op g K Q → op g K' Q'
def sa_mc (ct : sa_C) : Prop := ∀ (lc ls : Nat) (av : List sa_V) (hs : sa_H) (Q Q' : sa_Q), (∀ r h, Q r h → Q' r h) → ct lc ls av hs Q → ct lc ls av hs Q'
def sa_tm (tbl : sa_T) : Prop := sa_all (fun _ op => sa_mono op) tbl
theorem sa_step {tbl : sa_T} {g : sa_G} {Q : sa_Q} {op : sa_O} (hm : sa_tm tbl) (h : sa_op tbl g.1 = some op) (h2 : op g (fun g' => sa_w tbl g' Q) Q) : sa_w tbl g Q := by
  intro P hP
  exact hP g op h (sa_all_at tbl g.1 op hm h g _ _ _ _ (fun g' hg => hg P hP) (fun _ _ h => h) h2)
theorem sa_un {tbl : sa_T} {g : sa_G} {Q : sa_Q} {op : sa_O} (hm : sa_tm tbl) (h : sa_op tbl g.1 = some op) : sa_w tbl g Q = op g (fun g' => sa_w tbl g' Q) Q := by
  apply propext
  constructor
  · intro hw
    have key := hw (fun g => sa_w tbl g Q ∧ ∀ op, sa_op tbl g.1 = some op → op g (fun g' => sa_w tbl g' Q) Q) (by
      intro g' op' ho hq
      have hq2 := sa_all_at tbl g'.1 op' hm ho g' _ (fun g' => sa_w tbl g' Q) _ _ (fun g2 hg => hg.1) (fun _ _ h => h) hq
      refine ⟨sa_step hm ho hq2, fun op2 ho2 => ?_⟩
      cases ho.symm.trans ho2
      exact hq2)
    exact key.2 op h
  · exact sa_step hm h
theorem sa_w_mono {tbl : sa_T} (hm : sa_tm tbl) {g : sa_G} {Q Q' : sa_Q} (hQ : ∀ r h, Q r h → Q' r h) (h : sa_w tbl g Q) : sa_w tbl g Q' := by
  intro P hP
  refine h P (fun g' op ho hq => hP g' op ho ?_)
  exact sa_all_at tbl g'.1 op hm ho g' _ _ _ _ (fun _ h => h) hQ hq
theorem sa_mct {tbl : sa_T} {nL : Nat} (hm : sa_tm tbl) : sa_mc (sa_ct tbl nL) := fun _ _ _ _ _ _ hQ h => sa_w_mono hm hQ h
section SMO
variable {nx : Nat}
theorem sm_bad : sa_mono (so_bad) := by
  intro g K K' Q Q' hK hQ h
  revert h
  unfold so_bad
  repeat' split
  all_goals intro h
  all_goals first | exact h.elim | exact hK _ h | exact hQ _ _ h | exact ⟨h.1, hK _ h.2⟩ | exact ⟨h.1, hQ _ _ h.2⟩ | exact ⟨h.1, h.2.1, hK _ h.2.2⟩ | exact ⟨h.1, h.2.1, h.2.2.1, hK _ h.2.2.2⟩ | exact ⟨h.1, h.2.1, h.2.2.1, h.2.2.2.1, hK _ h.2.2.2.2⟩ | exact ⟨hK _ h.1, hK _ h.2⟩ | exact ⟨fun q => hK _ (h.1 q), fun q => hK _ (h.2 q)⟩
theorem sm_push {v : sa_V} : sa_mono (so_push v nx) := by
  intro g K K' Q Q' hK hQ h
  revert h
  unfold so_push
  repeat' split
  all_goals intro h
  all_goals first | exact h.elim | exact hK _ h | exact hQ _ _ h | exact ⟨h.1, hK _ h.2⟩ | exact ⟨h.1, hQ _ _ h.2⟩ | exact ⟨h.1, h.2.1, hK _ h.2.2⟩ | exact ⟨h.1, h.2.1, h.2.2.1, hK _ h.2.2.2⟩ | exact ⟨h.1, h.2.1, h.2.2.1, h.2.2.2.1, hK _ h.2.2.2.2⟩ | exact ⟨hK _ h.1, hK _ h.2⟩ | exact ⟨fun q => hK _ (h.1 q), fun q => hK _ (h.2 q)⟩
theorem sm_iload {k : Nat} : sa_mono (so_iload k nx) := by
  intro g K K' Q Q' hK hQ h
  revert h
  unfold so_iload
  repeat' split
  all_goals intro h
  all_goals first | exact h.elim | exact hK _ h | exact hQ _ _ h | exact ⟨h.1, hK _ h.2⟩ | exact ⟨h.1, hQ _ _ h.2⟩ | exact ⟨h.1, h.2.1, hK _ h.2.2⟩ | exact ⟨h.1, h.2.1, h.2.2.1, hK _ h.2.2.2⟩ | exact ⟨h.1, h.2.1, h.2.2.1, h.2.2.2.1, hK _ h.2.2.2.2⟩ | exact ⟨hK _ h.1, hK _ h.2⟩ | exact ⟨fun q => hK _ (h.1 q), fun q => hK _ (h.2 q)⟩
theorem sm_aload {k : Nat} : sa_mono (so_aload k nx) := by
  intro g K K' Q Q' hK hQ h
  revert h
  unfold so_aload
  repeat' split
  all_goals intro h
  all_goals first | exact h.elim | exact hK _ h | exact hQ _ _ h | exact ⟨h.1, hK _ h.2⟩ | exact ⟨h.1, hQ _ _ h.2⟩ | exact ⟨h.1, h.2.1, hK _ h.2.2⟩ | exact ⟨h.1, h.2.1, h.2.2.1, hK _ h.2.2.2⟩ | exact ⟨h.1, h.2.1, h.2.2.1, h.2.2.2.1, hK _ h.2.2.2.2⟩ | exact ⟨hK _ h.1, hK _ h.2⟩ | exact ⟨fun q => hK _ (h.1 q), fun q => hK _ (h.2 q)⟩
theorem sm_istore {k : Nat} : sa_mono (so_istore k nx) := by
  intro g K K' Q Q' hK hQ h
  revert h
  unfold so_istore
  repeat' split
  all_goals intro h
  all_goals first | exact h.elim | exact hK _ h | exact hQ _ _ h | exact ⟨h.1, hK _ h.2⟩ | exact ⟨h.1, hQ _ _ h.2⟩ | exact ⟨h.1, h.2.1, hK _ h.2.2⟩ | exact ⟨h.1, h.2.1, h.2.2.1, hK _ h.2.2.2⟩ | exact ⟨h.1, h.2.1, h.2.2.1, h.2.2.2.1, hK _ h.2.2.2.2⟩ | exact ⟨hK _ h.1, hK _ h.2⟩ | exact ⟨fun q => hK _ (h.1 q), fun q => hK _ (h.2 q)⟩
theorem sm_iinc {k : Nat} {d : Int32} : sa_mono (so_iinc k d nx) := by
  intro g K K' Q Q' hK hQ h
  revert h
  unfold so_iinc
  repeat' split
  all_goals intro h
  all_goals first | exact h.elim | exact hK _ h | exact hQ _ _ h | exact ⟨h.1, hK _ h.2⟩ | exact ⟨h.1, hQ _ _ h.2⟩ | exact ⟨h.1, h.2.1, hK _ h.2.2⟩ | exact ⟨h.1, h.2.1, h.2.2.1, hK _ h.2.2.2⟩ | exact ⟨h.1, h.2.1, h.2.2.1, h.2.2.2.1, hK _ h.2.2.2.2⟩ | exact ⟨hK _ h.1, hK _ h.2⟩ | exact ⟨fun q => hK _ (h.1 q), fun q => hK _ (h.2 q)⟩
theorem sm_un {f : Int32 → Int32} : sa_mono (so_un f nx) := by
  intro g K K' Q Q' hK hQ h
  revert h
  unfold so_un
  repeat' split
  all_goals intro h
  all_goals first | exact h.elim | exact hK _ h | exact hQ _ _ h | exact ⟨h.1, hK _ h.2⟩ | exact ⟨h.1, hQ _ _ h.2⟩ | exact ⟨h.1, h.2.1, hK _ h.2.2⟩ | exact ⟨h.1, h.2.1, h.2.2.1, hK _ h.2.2.2⟩ | exact ⟨h.1, h.2.1, h.2.2.1, h.2.2.2.1, hK _ h.2.2.2.2⟩ | exact ⟨hK _ h.1, hK _ h.2⟩ | exact ⟨fun q => hK _ (h.1 q), fun q => hK _ (h.2 q)⟩
theorem sm_bin {f : Int32 → Int32 → Int32} : sa_mono (so_bin f nx) := by
  intro g K K' Q Q' hK hQ h
  revert h
  unfold so_bin
  repeat' split
  all_goals intro h
  all_goals first | exact h.elim | exact hK _ h | exact hQ _ _ h | exact ⟨h.1, hK _ h.2⟩ | exact ⟨h.1, hQ _ _ h.2⟩ | exact ⟨h.1, h.2.1, hK _ h.2.2⟩ | exact ⟨h.1, h.2.1, h.2.2.1, hK _ h.2.2.2⟩ | exact ⟨h.1, h.2.1, h.2.2.1, h.2.2.2.1, hK _ h.2.2.2.2⟩ | exact ⟨hK _ h.1, hK _ h.2⟩ | exact ⟨fun q => hK _ (h.1 q), fun q => hK _ (h.2 q)⟩
theorem sm_div {f : Int32 → Int32 → Int32} : sa_mono (so_div f nx) := by
  intro g K K' Q Q' hK hQ h
  revert h
  unfold so_div
  repeat' split
  all_goals intro h
  all_goals first | exact h.elim | exact hK _ h | exact hQ _ _ h | exact ⟨h.1, hK _ h.2⟩ | exact ⟨h.1, hQ _ _ h.2⟩ | exact ⟨h.1, h.2.1, hK _ h.2.2⟩ | exact ⟨h.1, h.2.1, h.2.2.1, hK _ h.2.2.2⟩ | exact ⟨h.1, h.2.1, h.2.2.1, h.2.2.2.1, hK _ h.2.2.2.2⟩ | exact ⟨hK _ h.1, hK _ h.2⟩ | exact ⟨fun q => hK _ (h.1 q), fun q => hK _ (h.2 q)⟩
theorem sm_bin8 {f : Int32 → Int32 → Int32} : sa_mono (so_bin8 f nx) := by
  intro g K K' Q Q' hK hQ h
  revert h
  unfold so_bin8
  repeat' split
  all_goals intro h
  all_goals first | exact h.elim | exact hK _ h | exact hQ _ _ h | exact ⟨h.1, hK _ h.2⟩ | exact ⟨h.1, hQ _ _ h.2⟩ | exact ⟨h.1, h.2.1, hK _ h.2.2⟩ | exact ⟨h.1, h.2.1, h.2.2.1, hK _ h.2.2.2⟩ | exact ⟨h.1, h.2.1, h.2.2.1, h.2.2.2.1, hK _ h.2.2.2.2⟩ | exact ⟨hK _ h.1, hK _ h.2⟩ | exact ⟨fun q => hK _ (h.1 q), fun q => hK _ (h.2 q)⟩
theorem sm_if {c : Int32 → Prop} {tg : Nat} : sa_mono (so_if c tg nx) := by
  intro g K K' Q Q' hK hQ h
  revert h
  unfold so_if
  repeat' split
  all_goals intro h
  all_goals first | exact h.elim | exact hK _ h | exact hQ _ _ h | exact ⟨h.1, hK _ h.2⟩ | exact ⟨h.1, hQ _ _ h.2⟩ | exact ⟨h.1, h.2.1, hK _ h.2.2⟩ | exact ⟨h.1, h.2.1, h.2.2.1, hK _ h.2.2.2⟩ | exact ⟨h.1, h.2.1, h.2.2.1, h.2.2.2.1, hK _ h.2.2.2.2⟩ | exact ⟨hK _ h.1, hK _ h.2⟩ | exact ⟨fun q => hK _ (h.1 q), fun q => hK _ (h.2 q)⟩
theorem sm_cmp {c : Int32 → Int32 → Prop} {tg : Nat} : sa_mono (so_cmp c tg nx) := by
  intro g K K' Q Q' hK hQ h
  revert h
  unfold so_cmp
  repeat' split
  all_goals intro h
  all_goals first | exact h.elim | exact hK _ h | exact hQ _ _ h | exact ⟨h.1, hK _ h.2⟩ | exact ⟨h.1, hQ _ _ h.2⟩ | exact ⟨h.1, h.2.1, hK _ h.2.2⟩ | exact ⟨h.1, h.2.1, h.2.2.1, hK _ h.2.2.2⟩ | exact ⟨h.1, h.2.1, h.2.2.1, h.2.2.2.1, hK _ h.2.2.2.2⟩ | exact ⟨hK _ h.1, hK _ h.2⟩ | exact ⟨fun q => hK _ (h.1 q), fun q => hK _ (h.2 q)⟩
theorem sm_goto : sa_mono (so_goto nx) := by
  intro g K K' Q Q' hK hQ h
  revert h
  unfold so_goto
  repeat' split
  all_goals intro h
  all_goals first | exact h.elim | exact hK _ h | exact hQ _ _ h | exact ⟨h.1, hK _ h.2⟩ | exact ⟨h.1, hQ _ _ h.2⟩ | exact ⟨h.1, h.2.1, hK _ h.2.2⟩ | exact ⟨h.1, h.2.1, h.2.2.1, hK _ h.2.2.2⟩ | exact ⟨h.1, h.2.1, h.2.2.1, h.2.2.2.1, hK _ h.2.2.2.2⟩ | exact ⟨hK _ h.1, hK _ h.2⟩ | exact ⟨fun q => hK _ (h.1 q), fun q => hK _ (h.2 q)⟩
theorem sm_dup : sa_mono (so_dup nx) := by
  intro g K K' Q Q' hK hQ h
  revert h
  unfold so_dup
  repeat' split
  all_goals intro h
  all_goals first | exact h.elim | exact hK _ h | exact hQ _ _ h | exact ⟨h.1, hK _ h.2⟩ | exact ⟨h.1, hQ _ _ h.2⟩ | exact ⟨h.1, h.2.1, hK _ h.2.2⟩ | exact ⟨h.1, h.2.1, h.2.2.1, hK _ h.2.2.2⟩ | exact ⟨h.1, h.2.1, h.2.2.1, h.2.2.2.1, hK _ h.2.2.2.2⟩ | exact ⟨hK _ h.1, hK _ h.2⟩ | exact ⟨fun q => hK _ (h.1 q), fun q => hK _ (h.2 q)⟩
theorem sm_dup2 : sa_mono (so_dup2 nx) := by
  intro g K K' Q Q' hK hQ h
  revert h
  unfold so_dup2
  repeat' split
  all_goals intro h
  all_goals first | exact h.elim | exact hK _ h | exact hQ _ _ h | exact ⟨h.1, hK _ h.2⟩ | exact ⟨h.1, hQ _ _ h.2⟩ | exact ⟨h.1, h.2.1, hK _ h.2.2⟩ | exact ⟨h.1, h.2.1, h.2.2.1, hK _ h.2.2.2⟩ | exact ⟨h.1, h.2.1, h.2.2.1, h.2.2.2.1, hK _ h.2.2.2.2⟩ | exact ⟨hK _ h.1, hK _ h.2⟩ | exact ⟨fun q => hK _ (h.1 q), fun q => hK _ (h.2 q)⟩
theorem sm_pop : sa_mono (so_pop nx) := by
  intro g K K' Q Q' hK hQ h
  revert h
  unfold so_pop
  repeat' split
  all_goals intro h
  all_goals first | exact h.elim | exact hK _ h | exact hQ _ _ h | exact ⟨h.1, hK _ h.2⟩ | exact ⟨h.1, hQ _ _ h.2⟩ | exact ⟨h.1, h.2.1, hK _ h.2.2⟩ | exact ⟨h.1, h.2.1, h.2.2.1, hK _ h.2.2.2⟩ | exact ⟨h.1, h.2.1, h.2.2.1, h.2.2.2.1, hK _ h.2.2.2.2⟩ | exact ⟨hK _ h.1, hK _ h.2⟩ | exact ⟨fun q => hK _ (h.1 q), fun q => hK _ (h.2 q)⟩
theorem sm_get {cis : List Nat} {k : Nat} : sa_mono (so_get cis k nx) := by
  intro g K K' Q Q' hK hQ h
  revert h
  unfold so_get
  repeat' split
  all_goals intro h
  all_goals first | exact h.elim | exact hK _ h | exact hQ _ _ h | exact ⟨h.1, hK _ h.2⟩ | exact ⟨h.1, hQ _ _ h.2⟩ | exact ⟨h.1, h.2.1, hK _ h.2.2⟩ | exact ⟨h.1, h.2.1, h.2.2.1, hK _ h.2.2.2⟩ | exact ⟨h.1, h.2.1, h.2.2.1, h.2.2.2.1, hK _ h.2.2.2.2⟩ | exact ⟨hK _ h.1, hK _ h.2⟩ | exact ⟨fun q => hK _ (h.1 q), fun q => hK _ (h.2 q)⟩
theorem sm_put {cis : List Nat} {k kd : Nat} : sa_mono (so_put cis k kd nx) := by
  intro g K K' Q Q' hK hQ h
  revert h
  unfold so_put
  repeat' split
  all_goals intro h
  all_goals first | exact h.elim | exact hK _ h | exact hQ _ _ h | exact ⟨h.1, hK _ h.2⟩ | exact ⟨h.1, hQ _ _ h.2⟩ | exact ⟨h.1, h.2.1, hK _ h.2.2⟩ | exact ⟨h.1, h.2.1, h.2.2.1, hK _ h.2.2.2⟩ | exact ⟨h.1, h.2.1, h.2.2.1, h.2.2.2.1, hK _ h.2.2.2.2⟩ | exact ⟨hK _ h.1, hK _ h.2⟩ | exact ⟨fun q => hK _ (h.1 q), fun q => hK _ (h.2 q)⟩
theorem sm_iald : sa_mono (so_iald nx) := by
  intro g K K' Q Q' hK hQ h
  revert h
  unfold so_iald
  repeat' split
  all_goals intro h
  all_goals first | exact h.elim | exact hK _ h | exact hQ _ _ h | exact ⟨h.1, hK _ h.2⟩ | exact ⟨h.1, hQ _ _ h.2⟩ | exact ⟨h.1, h.2.1, hK _ h.2.2⟩ | exact ⟨h.1, h.2.1, h.2.2.1, hK _ h.2.2.2⟩ | exact ⟨h.1, h.2.1, h.2.2.1, h.2.2.2.1, hK _ h.2.2.2.2⟩ | exact ⟨hK _ h.1, hK _ h.2⟩ | exact ⟨fun q => hK _ (h.1 q), fun q => hK _ (h.2 q)⟩
theorem sm_iast : sa_mono (so_iast nx) := by
  intro g K K' Q Q' hK hQ h
  revert h
  unfold so_iast
  repeat' split
  all_goals intro h
  all_goals first | exact h.elim | exact hK _ h | exact hQ _ _ h | exact ⟨h.1, hK _ h.2⟩ | exact ⟨h.1, hQ _ _ h.2⟩ | exact ⟨h.1, h.2.1, hK _ h.2.2⟩ | exact ⟨h.1, h.2.1, h.2.2.1, hK _ h.2.2.2⟩ | exact ⟨h.1, h.2.1, h.2.2.1, h.2.2.2.1, hK _ h.2.2.2.2⟩ | exact ⟨hK _ h.1, hK _ h.2⟩ | exact ⟨fun q => hK _ (h.1 q), fun q => hK _ (h.2 q)⟩
theorem sm_alen : sa_mono (so_alen nx) := by
  intro g K K' Q Q' hK hQ h
  revert h
  unfold so_alen
  repeat' split
  all_goals intro h
  all_goals first | exact h.elim | exact hK _ h | exact hQ _ _ h | exact ⟨h.1, hK _ h.2⟩ | exact ⟨h.1, hQ _ _ h.2⟩ | exact ⟨h.1, h.2.1, hK _ h.2.2⟩ | exact ⟨h.1, h.2.1, h.2.2.1, hK _ h.2.2.2⟩ | exact ⟨h.1, h.2.1, h.2.2.1, h.2.2.2.1, hK _ h.2.2.2.2⟩ | exact ⟨hK _ h.1, hK _ h.2⟩ | exact ⟨fun q => hK _ (h.1 q), fun q => hK _ (h.2 q)⟩
theorem sm_new {ci N : Nat} {fs : List sa_V} : sa_mono (so_new ci N fs nx) := by
  intro g K K' Q Q' hK hQ h
  revert h
  unfold so_new
  repeat' split
  all_goals intro h
  all_goals first | exact h.elim | exact hK _ h | exact hQ _ _ h | exact ⟨h.1, hK _ h.2⟩ | exact ⟨h.1, hQ _ _ h.2⟩ | exact ⟨h.1, h.2.1, hK _ h.2.2⟩ | exact ⟨h.1, h.2.1, h.2.2.1, hK _ h.2.2.2⟩ | exact ⟨h.1, h.2.1, h.2.2.1, h.2.2.2.1, hK _ h.2.2.2.2⟩ | exact ⟨hK _ h.1, hK _ h.2⟩ | exact ⟨fun q => hK _ (h.1 q), fun q => hK _ (h.2 q)⟩
theorem sm_newa : sa_mono (so_newa nx) := by
  intro g K K' Q Q' hK hQ h
  revert h
  unfold so_newa
  repeat' split
  all_goals intro h
  all_goals first | exact h.elim | exact hK _ h | exact hQ _ _ h | exact ⟨h.1, hK _ h.2⟩ | exact ⟨h.1, hQ _ _ h.2⟩ | exact ⟨h.1, h.2.1, hK _ h.2.2⟩ | exact ⟨h.1, h.2.1, h.2.2.1, hK _ h.2.2.2⟩ | exact ⟨h.1, h.2.1, h.2.2.1, h.2.2.2.1, hK _ h.2.2.2.2⟩ | exact ⟨hK _ h.1, hK _ h.2⟩ | exact ⟨fun q => hK _ (h.1 q), fun q => hK _ (h.2 q)⟩
theorem sm_obj : sa_mono (so_obj nx) := by
  intro g K K' Q Q' hK hQ h
  revert h
  unfold so_obj
  repeat' split
  all_goals intro h
  all_goals first | exact h.elim | exact hK _ h | exact hQ _ _ h | exact ⟨h.1, hK _ h.2⟩ | exact ⟨h.1, hQ _ _ h.2⟩ | exact ⟨h.1, h.2.1, hK _ h.2.2⟩ | exact ⟨h.1, h.2.1, h.2.2.1, hK _ h.2.2.2⟩ | exact ⟨h.1, h.2.1, h.2.2.1, h.2.2.2.1, hK _ h.2.2.2.2⟩ | exact ⟨hK _ h.1, hK _ h.2⟩ | exact ⟨fun q => hK _ (h.1 q), fun q => hK _ (h.2 q)⟩
theorem sm_ret : sa_mono (so_ret) := by
  intro g K K' Q Q' hK hQ h
  revert h
  unfold so_ret
  repeat' split
  all_goals intro h
  all_goals first | exact h.elim | exact hK _ h | exact hQ _ _ h | exact ⟨h.1, hK _ h.2⟩ | exact ⟨h.1, hQ _ _ h.2⟩ | exact ⟨h.1, h.2.1, hK _ h.2.2⟩ | exact ⟨h.1, h.2.1, h.2.2.1, hK _ h.2.2.2⟩ | exact ⟨h.1, h.2.1, h.2.2.1, h.2.2.2.1, hK _ h.2.2.2.2⟩ | exact ⟨hK _ h.1, hK _ h.2⟩ | exact ⟨fun q => hK _ (h.1 q), fun q => hK _ (h.2 q)⟩
theorem sm_iret : sa_mono (so_iret) := by
  intro g K K' Q Q' hK hQ h
  revert h
  unfold so_iret
  repeat' split
  all_goals intro h
  all_goals first | exact h.elim | exact hK _ h | exact hQ _ _ h | exact ⟨h.1, hK _ h.2⟩ | exact ⟨h.1, hQ _ _ h.2⟩ | exact ⟨h.1, h.2.1, hK _ h.2.2⟩ | exact ⟨h.1, h.2.1, h.2.2.1, hK _ h.2.2.2⟩ | exact ⟨h.1, h.2.1, h.2.2.1, h.2.2.2.1, hK _ h.2.2.2.2⟩ | exact ⟨hK _ h.1, hK _ h.2⟩ | exact ⟨fun q => hK _ (h.1 q), fun q => hK _ (h.2 q)⟩
theorem sm_zret : sa_mono (so_zret) := by
  intro g K K' Q Q' hK hQ h
  revert h
  unfold so_zret
  repeat' split
  all_goals intro h
  all_goals first | exact h.elim | exact hK _ h | exact hQ _ _ h | exact ⟨h.1, hK _ h.2⟩ | exact ⟨h.1, hQ _ _ h.2⟩ | exact ⟨h.1, h.2.1, hK _ h.2.2⟩ | exact ⟨h.1, h.2.1, h.2.2.1, hK _ h.2.2.2⟩ | exact ⟨h.1, h.2.1, h.2.2.1, h.2.2.2.1, hK _ h.2.2.2.2⟩ | exact ⟨hK _ h.1, hK _ h.2⟩ | exact ⟨fun q => hK _ (h.1 q), fun q => hK _ (h.2 q)⟩
theorem sm_aret : sa_mono (so_aret) := by
  intro g K K' Q Q' hK hQ h
  revert h
  unfold so_aret
  repeat' split
  all_goals intro h
  all_goals first | exact h.elim | exact hK _ h | exact hQ _ _ h | exact ⟨h.1, hK _ h.2⟩ | exact ⟨h.1, hQ _ _ h.2⟩ | exact ⟨h.1, h.2.1, hK _ h.2.2⟩ | exact ⟨h.1, h.2.1, h.2.2.1, hK _ h.2.2.2⟩ | exact ⟨h.1, h.2.1, h.2.2.1, h.2.2.2.1, hK _ h.2.2.2.2⟩ | exact ⟨hK _ h.1, hK _ h.2⟩ | exact ⟨fun q => hK _ (h.1 q), fun q => hK _ (h.2 q)⟩
theorem sm_getq : sa_mono (so_getq nx) := by
  intro g K K' Q Q' hK hQ h
  revert h
  unfold so_getq
  repeat' split
  all_goals intro h
  all_goals first | exact h.elim | exact hK _ h | exact hQ _ _ h | exact ⟨h.1, hK _ h.2⟩ | exact ⟨h.1, hQ _ _ h.2⟩ | exact ⟨h.1, h.2.1, hK _ h.2.2⟩ | exact ⟨h.1, h.2.1, h.2.2.1, hK _ h.2.2.2⟩ | exact ⟨h.1, h.2.1, h.2.2.1, h.2.2.2.1, hK _ h.2.2.2.2⟩ | exact ⟨hK _ h.1, hK _ h.2⟩ | exact ⟨fun q => hK _ (h.1 q), fun q => hK _ (h.2 q)⟩
theorem sm_sval {N : Nat} : sa_mono (so_sval N nx) := by
  intro g K K' Q Q' hK hQ h
  revert h
  unfold so_sval
  repeat' split
  all_goals intro h
  all_goals first | exact h.elim | exact hK _ h | exact hQ _ _ h | exact ⟨h.1, hK _ h.2⟩ | exact ⟨h.1, hQ _ _ h.2⟩ | exact ⟨h.1, h.2.1, hK _ h.2.2⟩ | exact ⟨h.1, h.2.1, h.2.2.1, hK _ h.2.2.2⟩ | exact ⟨h.1, h.2.1, h.2.2.1, h.2.2.2.1, hK _ h.2.2.2.2⟩ | exact ⟨hK _ h.1, hK _ h.2⟩ | exact ⟨fun q => hK _ (h.1 q), fun q => hK _ (h.2 q)⟩
theorem sm_scod {N : Nat} : sa_mono (so_scod N nx) := by
  intro g K K' Q Q' hK hQ h
  revert h
  unfold so_scod
  repeat' split
  all_goals intro h
  all_goals first | exact h.elim | exact hK _ h | exact hQ _ _ h | exact ⟨h.1, hK _ h.2⟩ | exact ⟨h.1, hQ _ _ h.2⟩ | exact ⟨h.1, h.2.1, hK _ h.2.2⟩ | exact ⟨h.1, h.2.1, h.2.2.1, hK _ h.2.2.2⟩ | exact ⟨h.1, h.2.1, h.2.2.1, h.2.2.2.1, hK _ h.2.2.2.2⟩ | exact ⟨hK _ h.1, hK _ h.2⟩ | exact ⟨fun q => hK _ (h.1 q), fun q => hK _ (h.2 q)⟩
theorem sm_blen {N : Nat} {ln : List Nat} : sa_mono (so_blen N ln nx) := by
  intro g K K' Q Q' hK hQ h
  revert h
  unfold so_blen
  repeat' split
  all_goals intro h
  all_goals first | exact h.elim | exact hK _ h | exact hQ _ _ h | exact ⟨h.1, hK _ h.2⟩ | exact ⟨h.1, hQ _ _ h.2⟩ | exact ⟨h.1, h.2.1, hK _ h.2.2⟩ | exact ⟨h.1, h.2.1, h.2.2.1, hK _ h.2.2.2⟩ | exact ⟨h.1, h.2.1, h.2.2.1, h.2.2.2.1, hK _ h.2.2.2.2⟩ | exact ⟨hK _ h.1, hK _ h.2⟩ | exact ⟨fun q => hK _ (h.1 q), fun q => hK _ (h.2 q)⟩
theorem sm_bald {N : Nat} {ln : List Nat} {bt : List (List Int32)} : sa_mono (so_bald N ln bt nx) := by
  intro g K K' Q Q' hK hQ h
  revert h
  unfold so_bald
  repeat' split
  all_goals intro h
  all_goals first | exact h.elim | exact hK _ h | exact hQ _ _ h | exact ⟨h.1, hK _ h.2⟩ | exact ⟨h.1, hQ _ _ h.2⟩ | exact ⟨h.1, h.2.1, hK _ h.2.2⟩ | exact ⟨h.1, h.2.1, h.2.2.1, hK _ h.2.2.2⟩ | exact ⟨h.1, h.2.1, h.2.2.1, h.2.2.2.1, hK _ h.2.2.2.2⟩ | exact ⟨hK _ h.1, hK _ h.2⟩ | exact ⟨fun q => hK _ (h.1 q), fun q => hK _ (h.2 q)⟩
theorem sm_nret {ty : FieldType} : sa_mono (so_nret ty) := by
  intro g K K' Q Q' hK hQ h
  revert h
  unfold so_nret
  repeat' split
  all_goals intro h
  all_goals first | exact h.elim | exact hK _ h | exact hQ _ _ h | exact ⟨h.1, hK _ h.2⟩ | exact ⟨h.1, hQ _ _ h.2⟩ | exact ⟨h.1, h.2.1, hK _ h.2.2⟩ | exact ⟨h.1, h.2.1, h.2.2.1, hK _ h.2.2.2⟩ | exact ⟨h.1, h.2.1, h.2.2.1, h.2.2.2.1, hK _ h.2.2.2.2⟩ | exact ⟨hK _ h.1, hK _ h.2⟩ | exact ⟨fun q => hK _ (h.1 q), fun q => hK _ (h.2 q)⟩
theorem sa_sw_mono : ∀ (l : List (Int32 × Nat)) (d : Nat) (x : Int32) (P P' : Nat → Prop), (∀ t, P t → P' t) → sa_sw l d x P → sa_sw l d x P'
  | [], _, _, _, _, hP, h => hP _ h
  | (_, _) :: l, d, x, P, P', hP, h => ⟨fun q => hP _ (h.1 q), fun q => sa_sw_mono l d x P P' hP (h.2 q)⟩
theorem sm_sw {l : List (Int32 × Nat)} {d : Nat} : sa_mono (so_sw l d) := by
  intro g K K' Q Q' hK hQ h
  revert h
  unfold so_sw
  split
  · exact sa_sw_mono _ _ _ _ _ (fun t h => hK _ h)
  · exact id
theorem sm_stat {ct : sa_C} {n lc ls : Nat} (hc : sa_mc ct) : sa_mono (so_stat ct n lc ls nx) := by
  intro g K K' Q Q' hK hQ h
  revert h
  unfold so_stat
  split
  · exact fun h => ⟨h.1, h.2.1, h.2.2.1, hc _ _ _ _ _ _ (fun r h => hK _) h.2.2.2⟩
  · exact id
theorem sm_init {ct : sa_C} {n lc ls : Nat} (hc : sa_mc ct) : sa_mono (so_init ct n lc ls nx) := by
  intro g K K' Q Q' hK hQ h
  revert h
  unfold so_init
  split
  · exact fun h => ⟨h.1, h.2.1, h.2.2.1, hc _ _ _ _ _ _ (fun r h => hK _) h.2.2.2⟩
  · exact id
theorem sm_virt {alts : List (Nat × sa_C)} {n lc ls : Nat} (hc : ∀ q ∈ alts, sa_mc q.2) : sa_mono (so_virt alts n lc ls nx) := by
  intro g K K' Q Q' hK hQ h
  revert h
  unfold so_virt
  split
  · split
    · split
      · next hs => exact fun h => ⟨h.1, h.2.1, h.2.2.1, hc _ (sa_sel_in _ _ _ hs) _ _ _ _ _ _ (fun r h => hK _) h.2.2.2⟩
      · exact id
    · exact id
  · exact id
theorem sm_svirt {N : Nat} {ct : sa_C} {n : Nat} (hc : sa_mc ct) : sa_mono (so_svirt N ct n nx) := by
  intro g K K' Q Q' hK hQ h
  revert h
  unfold so_svirt
  split
  · exact fun h => ⟨h.1, h.2.1, hc _ _ _ _ _ _ (fun r h => hK _) h.2.2⟩
  · exact id
end SMO
