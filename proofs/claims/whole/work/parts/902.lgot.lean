/-! THE LAW'S OWN got -/
section LGO
variable {p : Program} {l : Launch} {e : Env} {R : Room} {s : State} {m : MethodId} {args : Array Value} {below : List Frame} {meth : Method} {c : Code} {H : Heap} {locs : List Loc} {cells slots : Nat} {Z : State → Prop} {pc : Nat} {ls : Array Slot} {rest st0 : List Value} {a : Array Value} {mc ms : Nat} {D : va_G} {cI : ClassId × ClassId} {kS : Nat → Nat} {b : Nat} {v : Int32} {hs : sa_H}
theorem sv_back (hr : vx_Run p l e R s m args below meth c H locs cells slots mc ms (F0 m pc ls st0) rest (sv_Qc D cI kS b v hs a) (sv_XC D cI kS b v hs) (fun q => b ≤ q)) (hS : va_S (fun q => b ≤ q) s.heap H locs)
    (kk : ∀ (z : Nat) (H1 : Heap) (locs1 : List Loc), ¬ v = -1 → b ≤ z → va_P D sa_EX.1 (sa_ws b kS cI hs) H1 → H1.size = z + hs.length → va_S (fun q => b ≤ q) s.heap H1 locs1 → W p l e R s m args below meth c H1 locs1 (cells + mc) (slots + ms) Z (F0 m (pc + 3) ls (.int v :: rest)))
    (kx : ∀ (z : Nat) (H1 : Heap) (locs1 : List Loc) (q : Addr) (ce : Cell), v = -1 → b ≤ z → va_P D sa_EX.1 (sa_ws b kS cI hs) H1 → H1.size = z + hs.length → va_S (fun q => b ≤ q) s.heap H1 locs1 → H1[q]? = some ce → ce.vm = .none → s.vm.findClass IO = some ce.cls → vx_W p l e R s m args below meth c H1 locs1 (cells + mc) (slots + ms) Z (F0 m pc ls rest) q) :
    W p l e R s m args below meth c H locs cells slots Z (F0 m pc ls st0) := by
  intro T hT X
  have hmv : ∀ {t T' st₀ : State} {L : List Loc}, st₀.heap = H → T'.heap = t.heap → (∀ q ∈ L, b ≤ q.base) → va_F (fun q => b ≤ q) st₀ t → va_S (fun q => b ≤ q) s.heap T'.heap (locs ++ L) := by
    intro t T' st₀ L h0 e1 hL hF
    rw [va_F, h0] at hF
    exact ⟨Nat.le_trans hS.1 (by rw [e1]; exact hF.1), fun q h1 h2 => by rw [e1, hF.2 q (Nat.lt_of_lt_of_le h1 hS.1) h2]; exact hS.2.1 q h1 h2, fun q hq => by
      rcases List.mem_append.mp hq with h | h
      · exact hS.2.2 q h
      · exact hL q h⟩
  rcases hr T hT X with ⟨w, st₀, t, T', L, h0, X', hL, e1, e2, ⟨hv, ho, hP, ⟨z, hz, hsz⟩, hF⟩, st⟩ | ⟨q, st₀, t, T', L, E, ce, h0, X', hL, e1, e2, ⟨hv, hE, hP, ⟨z, hz, hsz⟩, hF⟩, hce, hcv, hcl, st⟩
  · cases ho
    obtain ⟨t2, a1, b1⟩ := kk z T'.heap (locs ++ L) hv hz (by rw [e1]; exact hP) (by rw [e1]; exact hsz) (hmv h0 e1 hL hF) T' rfl X'
    exact ⟨t2, st t2 a1, b1⟩
  · subst hE
    obtain ⟨t2, a1, b1⟩ := kx z T'.heap (locs ++ L) q ce hv hz (by rw [e1]; exact hP) (by rw [e1]; exact hsz) (hmv h0 e1 hL hF) (by rw [e1]; exact hce) hcv hcl T' rfl X'
    exact ⟨t2, st.trans a1, b1⟩
end LGO
/-- the law's long, written -/
def lo_put (hs : sa_H) (o : Nat → Int64) (v : Int32) : sa_H := sa_put hs 44 (.inl (.inr (1, vp_updL o 0 v.toInt64)))
def lg_Qc (D : va_G) (cI : ClassId × ClassId) (kS : Nat → Nat) (b : Nat) (v : Int32) (hs : sa_H) (o : Nat → Int64) : Array Value → State → Outcome → State → Prop := fun _ st oc t =>
  (v = -1 ∧ oc = .returned (some (.int 1)) ∧ sv_B D cI kS b hs st t) ∨ (¬ v = -1 ∧ oc = .returned (some (.int 0)) ∧ sv_B D cI kS b (lo_put hs o v) st t)
theorem sa_put_len {α : Type} : ∀ (l : List α) (n : Nat) (x : α), (sa_put l n x).length = l.length
  | [], _, _ => rfl
  | _ :: _, 0, _ => rfl
  | _ :: l, n + 1, x => by
    show (sa_put l n x).length + 1 = l.length + 1
    rw [sa_put_len l n x]
set_option maxRecDepth 100000 in
set_option maxHeartbeats 4000000 in
theorem met_lgot (l : Launch) (hl0 : l.stackTraces = false) (D : va_G) (cI : ClassId × ClassId) (kS : Nat → Nat) (b z : Nat) (i k v : Int32) (hs : sa_H) (o : Nat → Int64) (hbz : b ≤ z) (h0 : sa_nth hs 0 = some (.inr (8, xo))) (h13 : ∃ fs, sa_nth hs 13 = some (.inr (2, fs))) (h44 : sa_nth hs 44 = some (.inl (.inr (1, o))))
    (hct : ct_X8_contentsByte 0 0 [.inr (.inl (some 13)), .inl i, .inl k] hs (fun rv hs1 => hs1 = hs ∧ rv = some (.inl v))) :
    Met l yL_got (Cond.codeWith yL_got cL_got 5 (some .int) [(0, 10, 13, 13)] :: sa_EX.2.1) { frames := 7, cells := 1, slots := 6, locals := 107 } (sv_Pc D cI kS b z [x0, .inl i, .inl k, .inr (.inl (some 44))] hs) (lg_Qc D cI kS b v hs o) 1 6 (fun q => b ≤ q) := by
  refine va_MetW (cc := cL_got) (maxL := 5) (ret := some .int) (hh := [(0, 10, 13, 13)]) (by decide +kernel) rfl ?_
  intro p e s m args below meth c s₁ B hml hv
  obtain ⟨⟨rfl, hP, hsz, hK⟩, hKx⟩ := hv
  have hts0 := atoms_spec (ws := Cond.codeWith yL_got cL_got 5 (some .int) [(0, 10, 13, 13)] :: sa_EX.2.1) B.pre
  have htab := vx_table (x := yL_got) B (hts0 _ List.mem_cons_self)
  have hl := lv_entry (([x0, .inl i, .inl k, .inr (.inl (some 44))] : List sa_V).map (sa_v b kS)) (n := 5) (by rw [sa_sl]; show 4 ≤ 5; decide)
  rw [lg_entry_eq]
  generalize (lg_sl (([x0, .inl i, .inl k, .inr (.inl (some 44))] : List sa_V).map (sa_v b kS)) ++ List.replicate (5 - (lg_sl (([x0, .inl i, .inl k, .inr (.inl (some 44))] : List sa_V).map (sa_v b kS))).length) Slot.unset).toArray = ls at hl ⊢
  have hts : ∀ w ∈ sa_EX.2.1, w.before (([x0, .inl i, .inl k, .inr (.inl (some 44))] : List sa_V).map (sa_v b kS)).toArray s = true := fun w hw => hts0 w (List.mem_cons_of_mem _ hw)
  have hx := B.exec
  have hb := B.bytes
  have hown : s.vm.findClass RL = some m.cls := findClass_of_methodNamed B.named
  have hC : sb_Cx sa_EX RL cL_got 5 7 107 p { frames := 7, cells := 1, slots := 6, locals := 107 } s m (([x0, .inl i, .inl k, .inr (.inl (some 44))] : List sa_V).map (sa_v b kS)).toArray c D cI kS b 1 6 := ⟨hx, hb, hml, hown, hts, hK, rfl, rfl, rfl, rfl, sa_EX_ok⟩
  have hA : sa_At sa_EX 5 s D cI kS b z 1 6 [some x0, some (.inl i), some (.inl k), some (.inr (.inl (some 44))), none] hs 1 6 s.heap [] ls 0 0 := ⟨sb_ent hl, hP, hsz, va_S.rf, Nat.zero_add _, Nat.zero_add _⟩
  obtain ⟨f13, h13⟩ := h13
  have call : sb_P sa_EX False 5 p l e { frames := 7, cells := 1, slots := 6, locals := 107 } s m (([x0, .inl i, .inl k, .inr (.inl (some 44))] : List sa_V).map (sa_v b kS)).toArray below meth c D cI kS b 1 6 (MQ below (lg_Qc D cI kS b v hs o) (([x0, .inl i, .inl k, .inr (.inl (some 44))] : List sa_V).map (sa_v b kS)).toArray s 1 6 (fun q => b ≤ q)) (5, [some x0, some (.inl i), some (.inl k), some (.inr (.inl (some 44))), none], [.inl k, .inl i, x0, .inl 0, .inr (.inl (some 44))], hs, 1, 6) := by
    intro z1 hz1 _ H locs ls1 cells slots hA1
    obtain ⟨hl1, hP1, hsz1, hS1, hcc, hss⟩ := hA1
    dsimp only at hl1 hP1 hsz1 hS1 hcc hss ⊢
    have hM := met_got l hl0 D cI kS b z1 i k v hs hz1 h0 ⟨f13, h13⟩ hct
    have hrv := va_recv hK.1 hP1 (show sa_EX.1[8]? = some (RX10, TX10, 8) from rfl) (sa_ws_get (b := b) (kS := kS) (cI := cI) h0)
    refine sv_back (mc := 1) (ms := 6) (rest := [.int 0, .ref (b + 44)]) (vx_runV (C := RX10) (b := b) (As := [.int i, .int k]) (rest := [.int 0, .ref (b + 44)]) (index := 7) (n := 2) ⟨hx, hb, hml, hown, hts⟩ hM ⟨callB_of 2 hts (sa_good sa_EX_ok lg_w1) rfl rfl rfl (hts _ wt_1_1) (hts _ lg_w2.1) ⟨by decide +kernel, by decide +kernel, by decide +kernel⟩ ⟨by decide, by decide⟩, hts _ lg_w2.2.1, hts _ lg_w2.2.2.1⟩ ⟨sv_blind, hrv, fun U hU hW => ⟨sa_pre (av := [x0, .inl i, .inl k]) sa_EX_ok hK hP1 hsz1 hS1 U hU hW, sv_K.to hKx hW.alike (fun q h1 h2 => by rw [hU]; exact hS1.2.1 q h1 h2)⟩⟩ rfl rfl hl1.1 rfl (lv_room (by show 1 + (1 + 0) ≤ 8; decide)) dL_got_5 ⟨by show cells + 1 ≤ 1; omega, by show slots + 6 ≤ 6; omega⟩) hS1 ?_ ?_
    · intro z2 H2 locs2 hv hz2 hP2 hsz2 hS2
      refine lv_i2l hx hb dL_got_8 (v := v.toInt64) rfl ?_
      have hw := sa_ws_get (b := b) (kS := kS) (cI := cI) h44
      have hD := sa_ws_D b kS cI hs
      refine W.last hx hb (hP2 44 _ hw) ((hK.1.2 1 _ rfl).1 1 (fun j => .long (o j))) (fun q => by cases q) (by show ¬ ((0 : Int32) < 0 ∨ (arrV _ _ _).slots.size ≤ _); rw [arrV_size]; show ¬ ((0 : Int32) < 0 ∨ 1 ≤ (0 : Int32).toNatClampNeg); decide) rfl rfl dL_got_9 fun H3 e1 z3 oq => ?_
      have hP3 : va_P D sa_EX.1 (sa_ws b kS cI (lo_put hs o v)) H3 := by
        unfold lo_put
        rw [← sa_ws_set]
        refine hP2.set hD hw ?_ oq
        show H3[b + 44]? = some (vp_cell _ _)
        rw [e1]
        rw [vp_cell_l, vp_cell_l, arrV_store]
        congr 2
        funext q
        by_cases hq : q = (0 : Int32).toNatClampNeg
        · subst hq
          rfl
        · have hq2 : ¬ q = 0 := hq
          simp [updV, vp_updL, hq, hq2]
      have hS3 : ∀ k : Nat, va_S (fun q => b ≤ q) s.heap H3 (locs2 ++ [⟨b + 44, k⟩]) := fun k => hS2.put z3 oq (Nat.le_add_right b 44)
      have hsz3 : H3.size = z2 + (lo_put hs o v).length := by rw [z3, hsz2]; unfold lo_put; rw [sa_put_len]
      refine lv_goto hx hb dL_got_10 (tgt := 17) (show ((10 : Nat) : Int) + 7 = ((17 : Nat) : Int) by decide) ?_
      refine lv_iconst hx hb dL_got_17 (v := 0) (by decide) ?_
      refine W.widen (k := 1) (n := 6) (by omega) (by omega) ?_
      exact W.iret (v := 0) hx hb B.returns (fun t ht hW => Or.inr ⟨hv, rfl, by rw [ht]; exact hP3, ⟨z2, hz2, by rw [ht]; exact hsz3⟩, (hS3 0).F ht⟩) (hS3 _).2.2 dL_got_18 B.notSynchronized
    · intro z2 H2 locs2 q ce hv hz2 hP2 hsz2 hS2 hq hcv hcl
      refine sv_catch hown ⟨0, 10, 13, 13⟩ [] htab (by decide) (by decide) (hts _ lg_w2.2.2.2) (sv_cast (Vm.Alike.refl _) hKx.1) hq hcv hcl ?_
      refine lv_astore hx hb dL_got_13 hl1 (by decide) rfl (fun ls' hls' => ?_)
      refine lv_iconst hx hb dL_got_15 (v := 1) (by decide) ?_
      refine W.widen (k := 1) (n := 6) (by omega) (by omega) ?_
      exact W.iret (v := 1) hx hb B.returns (fun t ht hW => Or.inl ⟨hv, rfl, by rw [ht]; exact hP2, ⟨z2, hz2, by rw [ht]; exact hsz2⟩, hS2.F ht⟩) hS2.2.2 dL_got_16 B.notSynchronized
  have start : sb_P sa_EX False 5 p l e { frames := 7, cells := 1, slots := 6, locals := 107 } s m (([x0, .inl i, .inl k, .inr (.inl (some 44))] : List sa_V).map (sa_v b kS)).toArray below meth c D cI kS b 1 6 (MQ below (lg_Qc D cI kS b v hs o) (([x0, .inl i, .inl k, .inr (.inl (some 44))] : List sa_V).map (sa_v b kS)).toArray s 1 6 (fun q => b ≤ q)) (0, [some x0, some (.inl i), some (.inl k), some (.inr (.inl (some 44))), none], [], hs, 1, 6) := by
    refine sb_aload_n hC rfl dL_got_0 rfl _ _ _ _ _ ?_
    simp only [so_aload, sa_nth]
    refine sb_iconst hC dL_got_1 (v := 0) (by decide) rfl _ _ _ _ _ ?_
    simp only [so_push]
    refine sb_aload_n hC rfl dL_got_2 rfl _ _ _ _ _ ?_
    simp only [so_aload, sa_nth]
    refine sb_iload_n hC rfl dL_got_3 rfl _ _ _ _ _ ?_
    simp only [so_iload, sa_nth]
    refine sb_iload_n hC rfl dL_got_4 rfl _ _ _ _ _ ?_
    simp only [so_iload, sa_nth]
    exact call
  exact start z hbz (fun h => h.elim) _ _ ls _ _ hA
