/-! got OF THE CLASS: it answers, or it throws -/
theorem sv_cast {X Y : String} {s U : State} {A A' : Array Value} (hal : s.vm.Alike U.vm) (h : (Cond.castable X Y).before A s = true) : (Cond.castable X Y).before A' U = true := by
  obtain ⟨c3, c4, h3, h4, h5⟩ := Cond.castable_spec h
  show (Cond.castable X Y).holds A' U none U [] = true
  simp [Cond.holds, Cond.value, hal.findClass, h3, h4, hal.assignable, h5]
def sv_K (b : Nat) (U : State) : Prop := (Cond.castable IO IO).before #[] U = true ∧ vx_Zq Bundle.tN "UNASSIGNED_STACK" Bundle.steD (fun q => b ≤ q) U U.heap ∧ vx_Zq Bundle.tN "SUPPRESSED_SENTINEL" Bundle.listD (fun q => b ≤ q) U U.heap
theorem sv_K.to {b : Nat} {s U : State} (h : sv_K b s) (hal : s.vm.Alike U.vm) (hq : ∀ q : Nat, q < s.heap.size → ¬ b ≤ q → U.heap[q]? = s.heap[q]?) : sv_K b U :=
  ⟨sv_cast hal h.1, (vx_Zq.moved hal h.2.1).kept hq, (vx_Zq.moved hal h.2.2).kept hq⟩
def sv_Pc (D : va_G) (cI : ClassId × ClassId) (kS : Nat → Nat) (b z : Nat) (av : List sa_V) (hs : sa_H) : Array Value → State → Prop := fun a U => sa_Pc sa_EX D cI kS b z av hs a U ∧ sv_K b U
theorem sv_blind {D : va_G} {cI : ClassId × ClassId} {kS : Nat → Nat} {b z : Nat} {av : List sa_V} {hs : sa_H} : FrameBlind (sv_Pc D cI kS b z av hs) :=
  fun _ _ _ _ ⟨⟨h1, h2, h3, h4⟩, h5⟩ => ⟨⟨h1, h2, h3, sa_K.same sa_EX_ok h4 rfl rfl⟩, sv_K.to h5 (Vm.Alike.refl _) (fun _ _ _ => rfl)⟩
/-- the world behind it -/
def sv_B (D : va_G) (cI : ClassId × ClassId) (kS : Nat → Nat) (b : Nat) (hs : sa_H) (st t : State) : Prop := va_P D sa_EX.1 (sa_ws b kS cI hs) t.heap ∧ (∃ z', b ≤ z' ∧ t.heap.size = z' + hs.length) ∧ va_F (fun q => b ≤ q) st t
def sv_Qc (D : va_G) (cI : ClassId × ClassId) (kS : Nat → Nat) (b : Nat) (v : Int32) (hs : sa_H) : Array Value → State → Outcome → State → Prop := fun _ st oc t => ¬ v = -1 ∧ oc = .returned (some (.int v)) ∧ sv_B D cI kS b hs st t
def sv_XC (D : va_G) (cI : ClassId × ClassId) (kS : Nat → Nat) (b : Nat) (v : Int32) (hs : sa_H) : String → State → State → Prop := fun E st t => v = -1 ∧ E = IO ∧ sv_B D cI kS b hs st t
theorem sb_ent {b : Nat} {kS : Nat → Nat} {av : List sa_V} {nL : Nat} {ls : Array Slot} (hl : lv_has ls nL (lv_args 0 (av.map (sa_v b kS)))) : lv_has ls nL (sa_lv b kS (sa_in nL av)) := by
  refine ⟨hl.1, hl.2.1, fun q hq => hl.2.2 q ?_⟩
  obtain ⟨v, h1, h2⟩ := sa_lv_mem.mp hq
  have h3 : av[q.1]? = some v := by
    unfold sa_in at h1
    by_cases hlt : q.1 < av.length
    · rw [List.getElem?_append_left (by simpa using hlt), List.getElem?_map] at h1
      cases h4 : av[q.1]? with
      | none => rw [h4] at h1; cases h1
      | some w => rw [h4] at h1; cases h1; rfl
    · rw [List.getElem?_append_right (by simpa using hlt)] at h1
      rw [List.getElem?_replicate] at h1
      split at h1 <;> cases h1
  have h5 := sa_args b kS av 0 q.1 v h3
  rw [Nat.zero_add, ← h2] at h5
  exact h5
theorem sv_keep {D : va_G} {cI : ClassId × ClassId} {kS : Nat → Nat} {b z : Nat} {hs : sa_H} {H : Heap} {s t : State} {locs : List Loc} (hbz : b ≤ z) (hP : va_P D sa_EX.1 (sa_ws b kS cI hs) H) (hsz : H.size = z + hs.length) (hS : va_S (fun q => b ≤ q) s.heap H locs) (h1 : H.size ≤ t.heap.size) (h2 : ∀ q : Nat, q < H.size → t.heap[q]? = H[q]?) : sv_B D cI kS b hs s t := by
  refine ⟨hP.kept (fun k q hk => h2 q.1 (vx_lt hP hk)), ⟨t.heap.size - hs.length, by omega, by omega⟩, Nat.le_trans hS.1 h1, fun q q1 q2 => ?_⟩
  rw [h2 q (Nat.lt_of_lt_of_le q1 hS.1)]
  exact hS.2.1 q q1 q2
set_option maxRecDepth 100000 in
set_option maxHeartbeats 4000000 in
theorem met_got (l : Launch) (hl0 : l.stackTraces = false) (D : va_G) (cI : ClassId × ClassId) (kS : Nat → Nat) (b z : Nat) (i k v : Int32) (hs : sa_H) (hbz : b ≤ z) (h0 : sa_nth hs 0 = some (.inr (8, xo))) (h13 : ∃ fs, sa_nth hs 13 = some (.inr (2, fs)))
    (hct : ct_X8_contentsByte 0 0 [.inr (.inl (some 13)), .inl i, .inl k] hs (fun rv hs1 => hs1 = hs ∧ rv = some (.inl v))) :
    vx_Met l yX10_got (Cond.code yX10_got cX10_got 4 (some .int) :: sa_EX.2.1) { frames := 6, cells := 1, slots := 6, locals := 84 } (sv_Pc D cI kS b z [x0, .inl i, .inl k] hs) (sv_Qc D cI kS b v hs) (sv_XC D cI kS b v hs) 1 6 (fun q => b ≤ q) := by
  refine vx_ofW (cc := cX10_got) (maxL := 4) (ret := some .int) (by decide +kernel) rfl ?_
  intro p e s m args below meth c s₁ B hml htab hv
  obtain ⟨⟨rfl, hP, hsz, hK⟩, hKx⟩ := hv
  have hts := atoms_spec (ws := Cond.code yX10_got cX10_got 4 (some .int) :: sa_EX.2.1) B.pre
  have hl := lv_entry (([x0, .inl i, .inl k] : List sa_V).map (sa_v b kS)) (n := 4) (by rw [sa_sl]; show 3 ≤ 4; decide)
  rw [lg_entry_eq]
  generalize (lg_sl (([x0, .inl i, .inl k] : List sa_V).map (sa_v b kS)) ++ List.replicate (4 - (lg_sl (([x0, .inl i, .inl k] : List sa_V).map (sa_v b kS))).length) Slot.unset).toArray = ls at hl ⊢
  have hC : sb_Cx sa_EX RX10 cX10_got 4 6 84 p { frames := 6, cells := 1, slots := 6, locals := 84 } s m (([x0, .inl i, .inl k] : List sa_V).map (sa_v b kS)).toArray c D cI kS b 1 6 := ⟨B.exec, B.bytes, hml, findClass_of_methodNamed B.named, fun w hw => hts w (List.mem_cons_of_mem _ hw), hK, rfl, rfl, rfl, rfl, sa_EX_ok⟩
  have hA : sa_At sa_EX 4 s D cI kS b z 1 6 [some x0, some (.inl i), some (.inl k), none] hs 1 6 s.heap [] ls 0 0 := ⟨sb_ent hl, hP, hsz, va_S.rf, Nat.zero_add _, Nat.zero_add _⟩
  have hwd : ∀ w ∈ gtW, w.before (([x0, .inl i, .inl k] : List sa_V).map (sa_v b kS)).toArray s = true := by
    intro w hw
    obtain ⟨a1, a2, a3⟩ := gt_or w hw
    rcases a3 with a3 | a3 | a3
    · exact hC.2.2.2.2.1 w (sa_ti a2 a3)
    · exact va_Nw.use (by cases w <;> first | rfl | exact absurd a3 Bool.false_ne_true) (hK.2.1 w (sa_ni a2 a3))
    · rw [a3]; exact sv_cast (Vm.Alike.refl _) hKx.1
  have throw : v = -1 → ∀ lo, sb_P sa_EX False 4 p l e { frames := 6, cells := 1, slots := 6, locals := 84 } s m (([x0, .inl i, .inl k] : List sa_V).map (sa_v b kS)).toArray below meth c D cI kS b 1 6 (vx_MQ below (sv_Qc D cI kS b v hs) (sv_XC D cI kS b v hs) (([x0, .inl i, .inl k] : List sa_V).map (sa_v b kS)).toArray s 1 6 (fun q => b ≤ q)) (15, lo, [], hs, 1, 6) := by
    intro hv lo z1 hz1 _ H locs ls1 cells slots hA1
    obtain ⟨hl1, hP1, hsz1, hS1, hcc, hss⟩ := hA1
    dsimp only at hl1 hP1 hsz1 hS1 hcc hss ⊢
    refine vx_throwS (own := RX10) (cls := IO) (text := "no such byte of an ENTRY") (names := ["java/lang/RuntimeException", "java/lang/Exception"]) (ik := 186) (is := 188) (ic := 190) (sa := kS 7) (A := fun q => b ≤ q) hC.1 hC.2.1 hl0 hC.2.2.2.1 (by decide +kernel) (by decide +kernel) (hC.2.2.2.2.1 _ gt_link.1) (hC.2.2.2.2.1 _ gt_link.2) (hK.2.2.2.1 _ ws_8) hwd ?_ hKx.2.1 hKx.2.2 hS1 (by rw [hl1.1, hml]) dX10_got_15 dX10_got_18 dX10_got_19 dX10_got_21 dX10_got_24 (fun x hx => (htab x hx).elim) (by decide) (by show 0 + (13 * 3 + 43) ≤ 84; decide) (by show cells + 1 ≤ 1; omega) (by show slots + 6 ≤ 6; omega) B.notSynchronized ?_ hS1.2.2 (by omega) (by omega)
    · intro w hw
      rcases List.mem_cons.mp hw with e | hw
      · rw [e]; decide
      · rcases List.mem_cons.mp hw with e | hw
        · rw [e]; decide
        · exact (gt_or w hw).1
    · intro t _ h1 h2
      exact ⟨hv, rfl, sv_keep hz1 hP1 hsz1 hS1 h1 h2⟩
  have ret : ¬ v = -1 → ∀ lo, sb_P sa_EX False 4 p l e { frames := 6, cells := 1, slots := 6, locals := 84 } s m (([x0, .inl i, .inl k] : List sa_V).map (sa_v b kS)).toArray below meth c D cI kS b 1 6 (vx_MQ below (sv_Qc D cI kS b v hs) (sv_XC D cI kS b v hs) (([x0, .inl i, .inl k] : List sa_V).map (sa_v b kS)).toArray s 1 6 (fun q => b ≤ q)) (26, lo, [.inl v], hs, 1, 6) := by
    intro hv lo z1 hz1 _ H locs ls1 cells slots hA1
    obtain ⟨hl1, hP1, hsz1, hS1, hcc, hss⟩ := hA1
    dsimp only at hl1 hP1 hsz1 hS1 hcc hss ⊢
    refine vx_ret ?_
    refine W.widen (k := 1) (n := 6) (by omega) (by omega) ?_
    exact W.iret (v := v) hC.1 hC.2.1 B.returns (fun t ht hW => ⟨hv, rfl, by rw [ht]; exact hP1, ⟨z1, hz1, by rw [ht]; exact hsz1⟩, hS1.F ht⟩) hS1.2.2 dX10_got_26 B.notSynchronized
  obtain ⟨f13, h13⟩ := h13
  have start : sb_P sa_EX False 4 p l e { frames := 6, cells := 1, slots := 6, locals := 84 } s m (([x0, .inl i, .inl k] : List sa_V).map (sa_v b kS)).toArray below meth c D cI kS b 1 6 (vx_MQ below (sv_Qc D cI kS b v hs) (sv_XC D cI kS b v hs) (([x0, .inl i, .inl k] : List sa_V).map (sa_v b kS)).toArray s 1 6 (fun q => b ≤ q)) (0, [some x0, some (.inl i), some (.inl k), none], [], hs, 1, 6) := by
    refine sb_aload_n hC rfl dX10_got_0 rfl _ _ _ _ _ ?_
    simp only [so_aload, sa_nth]
    refine sb_get (k := 3) (cis := [8]) (nx := 4) hC dX10_got_1 (sa_lc ⟨_, _, _, rfl, by decide, inX10, wt_1_171⟩ sa_l0) rfl _ _ _ _ _ ?_
    simp only [so_get, h0, sa_nth]
    refine ⟨by decide, ?_⟩
    refine sb_iload_n hC rfl dX10_got_4 rfl _ _ _ _ _ ?_
    simp only [so_iload, sa_nth]
    refine sb_iload_n hC rfl dX10_got_5 rfl _ _ _ _ _ ?_
    simp only [so_iload, sa_nth]
    refine sb_virt (alts := [(2, ct_X8_contentsByte)]) (n := 2) (nx := 9) hC dX10_got_6 (sa_lc ⟨_, _, _, yX8_contentsByte, _, _, _, _, _, rfl, cal_X8_contentsByte _ _ (by decide) (by decide), wt_3_4, Or.inr ⟨⟨RX2, "contentsByte", "(II)I"⟩, RX8, wt_4_214, wt_4_215, wt_4_216, wn_3_2, ⟨by decide, by decide⟩, by decide +kernel⟩⟩ sa_l0) rfl _ _ _ _ _ ?_
    simp only [so_virt, sa_split, h13, sa_sel, if_true, List.nil_append, List.cons_append]
    refine ⟨by decide, by decide, by decide, ?_⟩
    refine mo_X8_contentsByte _ _ _ _ _ _ (fun rv hs1 hq => ?_) hct
    obtain ⟨e1, e2⟩ := hq
    subst e1; subst e2
    show sb_P sa_EX False 4 p l e _ s m _ below meth c D cI kS b 1 6 _ (9, [some x0, some (.inl i), some (.inl k), none], [.inl v], hs1, 1, 6)
    refine sb_istore_n hC rfl dX10_got_9 (by decide) rfl _ _ _ _ _ ?_
    simp only [so_istore, sa_put]
    refine sb_iload_n hC rfl dX10_got_10 rfl _ _ _ _ _ ?_
    simp only [so_iload, sa_nth]
    refine sb_iconst hC dX10_got_11 (v := -1) (by decide) rfl _ _ _ _ _ ?_
    simp only [so_push]
    refine sb_icmp_ne hC (tgt := 25) dX10_got_12 (by decide) rfl _ _ _ _ _ ?_
    simp only [so_cmp]
    refine ⟨fun q => throw q _, fun q => ?_⟩
    refine sb_iload_n hC rfl dX10_got_25 rfl _ _ _ _ _ ?_
    simp only [so_iload, sa_nth]
    exact ret q _
  exact start z hbz (fun h => h.elim) _ _ ls _ _ hA
