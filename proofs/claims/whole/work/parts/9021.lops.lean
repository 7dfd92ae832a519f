/-! THE LAW'S OWN STEPS -/
def so_sln (L nx : Nat) : sa_O := fun g K _ => match g.2.2.1 with
  | .inr (.inr j) :: st => j = 5000 ∧ K (nx, g.2.1, .inl (Int32.ofNat L) :: st, g.2.2.2)
  | _ => False
def so_sld (L : Nat) (xs : Nat → Int32) (nx : Nat) : sa_O := fun g K _ => match g.2.2.1 with
  | .inl i :: .inr (.inr j) :: st => j = 5000 ∧ vp_in i L ∧ K (nx, g.2.1, .inl (xs i.toNatClampNeg) :: st, g.2.2.2)
  | _ => False
def so_lgot (nx : Nat) : sa_O := fun g K _ => match g.2.2.1 with
  | .inr (.inl (some q)) :: .inl k :: .inl i :: .inr (.inl (some a)) :: st => q = 44 ∧ a = 0 ∧ st.length ≤ 8 ∧ 1 ≤ g.2.2.2.2.1 ∧ 6 ≤ g.2.2.2.2.2 ∧ ∃ (v : Int32) (o : Nat → Int64), sa_nth g.2.2.2.1 0 = some (.inr (8, xo)) ∧ (∃ fs, sa_nth g.2.2.2.1 13 = some (.inr (2, fs))) ∧ sa_nth g.2.2.2.1 44 = some (.inl (.inr (1, o))) ∧ ct_X8_contentsByte 0 0 [.inr (.inl (some 13)), .inl i, .inl k] g.2.2.2.1 (fun rv hs1 => hs1 = g.2.2.2.1 ∧ rv = some (.inl v)) ∧
      (v = -1 → K (nx, g.2.1, .inl 1 :: st, g.2.2.2.1, g.2.2.2.2.1 - 1, g.2.2.2.2.2 - 6)) ∧ (¬ v = -1 → K (nx, g.2.1, .inl 0 :: st, lo_put g.2.2.2.1 o v, g.2.2.2.2.1 - 1, g.2.2.2.2.2 - 6))
  | _ => False
def so_lcm (tg nx : Nat) : sa_O := fun g K _ => match sa_nth g.2.1 3, sa_nth g.2.1 6, g.2.2.1 with
  | some (some (.inr (.inl (some q)))), some (some (.inl y)), [] => q = 44 ∧ ∃ o : Nat → Int64, sa_nth g.2.2.2.1 44 = some (.inl (.inr (1, o))) ∧ (o 0 = y.toInt64 → K (tg, g.2.1, [], g.2.2.2)) ∧ (¬ o 0 = y.toInt64 → K (nx, g.2.1, [], g.2.2.2))
  | _, _, _ => False
def so_one : sa_O := fun g _ _ => match g.2.2.1 with
  | [.inl x] => x = 1
  | _ => False
theorem sm_sln {L nx : Nat} : sa_mono (so_sln L nx) := by
  intro g K K' Q Q' hK hQ h
  revert h
  unfold so_sln
  split
  · exact fun h => ⟨h.1, hK _ h.2⟩
  · exact id
theorem sm_sld {L nx : Nat} {xs : Nat → Int32} : sa_mono (so_sld L xs nx) := by
  intro g K K' Q Q' hK hQ h
  revert h
  unfold so_sld
  split
  · exact fun h => ⟨h.1, h.2.1, hK _ h.2.2⟩
  · exact id
theorem sm_lgot {nx : Nat} : sa_mono (so_lgot nx) := by
  intro g K K' Q Q' hK hQ h
  revert h
  unfold so_lgot
  split
  · rintro ⟨h1, h2, h3, h4, h5, v, o, h6, h7, h8, h9, h10, h11⟩
    exact ⟨h1, h2, h3, h4, h5, v, o, h6, h7, h8, h9, fun q => hK _ (h10 q), fun q => hK _ (h11 q)⟩
  · exact id
theorem sm_lcm {tg nx : Nat} : sa_mono (so_lcm tg nx) := by
  intro g K K' Q Q' hK hQ h
  revert h
  unfold so_lcm
  split
  · rintro ⟨h1, o, h2, h3, h4⟩
    exact ⟨h1, o, h2, fun q => hK _ (h3 q), fun q => hK _ (h4 q)⟩
  · exact id
theorem sm_one : sa_mono so_one := fun _ _ _ _ _ _ _ h => h
section LOP
variable {al : Prop} {own : String} {cc : ByteArray} {nL fr lr : Nat} {pc nx tgt : Nat} {p : Program} {l : Launch} {e : Env} {R : Room} {s : State} {m : MethodId} {args : Array Value} {below : List Frame} {meth : Method} {c : Code} {D : va_G} {cI : ClassId × ClassId} {kS : Nat → Nat} {b lc lsl : Nat} {Z : State → Prop} {bs L : Nat} {xs : Nat → Int32}
theorem sl_sln (hC : sb_Cx sa_EX own cc nL fr lr p R s m args c D cI kS b lc lsl) (hX : va_X bs L xs s s.heap) (hbs : bs < s.heap.size) (hk : kS 5000 = bs) (hb : b = s.heap.size) (hd : decode cc pc = .ok (.arraylength, 1)) (hn : pc + 1 = nx) : sb_T (sb_P sa_EX al nL p l e R s m args below meth c D cI kS b lc lsl Z) pc (so_sln L nx) := by
  intro lo st hs rc rs hop z hbz hz H locs ls cells slots hA
  rcases st with _ | ⟨x | (q | j), st⟩ <;> try (exact absurd hop id)
  obtain ⟨e9, hop⟩ := hop
  subst e9; subst hn
  have hA' := hA
  obtain ⟨hl, hP, hsz, hS, hcc, hss⟩ := hA
  show W p l e R s m args below meth c H locs cells slots Z (F0 m pc ls (.ref (kS 5000) :: st.map (sa_v b kS)))
  rw [hk]
  exact va_slen hC.1 hC.2.1 hX hbs (by show ¬ b ≤ bs; omega) hS hd (hop z hbz hz H locs ls cells slots hA')
theorem sl_sld (hC : sb_Cx sa_EX own cc nL fr lr p R s m args c D cI kS b lc lsl) (hX : va_X bs L xs s s.heap) (hbs : bs < s.heap.size) (hk : kS 5000 = bs) (hb : b = s.heap.size) (hd : decode cc pc = .ok (.iaload, 1)) (hn : pc + 1 = nx) : sb_T (sb_P sa_EX al nL p l e R s m args below meth c D cI kS b lc lsl Z) pc (so_sld L xs nx) := by
  intro lo st hs rc rs hop z hbz hz H locs ls cells slots hA
  rcases st with _ | ⟨x | r, _ | ⟨y | (q | j), st⟩⟩ <;> try (exact absurd hop id)
  obtain ⟨e9, hin, hop⟩ := hop
  subst e9; subst hn
  have hA' := hA
  obtain ⟨hl, hP, hsz, hS, hcc, hss⟩ := hA
  show W p l e R s m args below meth c H locs cells slots Z (F0 m pc ls (.int x :: .ref (kS 5000) :: st.map (sa_v b kS)))
  rw [hk]
  exact va_sld hC.1 hC.2.1 hX hbs (by show ¬ b ≤ bs; omega) hS hin hd (hop z hbz hz H locs ls cells slots hA')
theorem lg_back {H : Heap} {locs : List Loc} {cells slots mc ms : Nat} {ls : Array Slot} {rest st0 : List Value} {a : Array Value} {v : Int32} {hs : sa_H} {o : Nat → Int64} (hr : va_Run p l e R s m args below meth c H locs cells slots mc ms (F0 m pc ls st0) rest (lg_Qc D cI kS b v hs o a) (fun q => b ≤ q)) (hS : va_S (fun q => b ≤ q) s.heap H locs)
    (kk : ∀ (r : Int32) (hs2 : sa_H) (z : Nat) (H1 : Heap) (locs1 : List Loc), ((v = -1 ∧ r = 1 ∧ hs2 = hs) ∨ (¬ v = -1 ∧ r = 0 ∧ hs2 = lo_put hs o v)) → b ≤ z → va_P D sa_EX.1 (sa_ws b kS cI hs2) H1 → H1.size = z + hs2.length → va_S (fun q => b ≤ q) s.heap H1 locs1 → W p l e R s m args below meth c H1 locs1 (cells + mc) (slots + ms) Z (F0 m (pc + 3) ls (.int r :: rest))) : W p l e R s m args below meth c H locs cells slots Z (F0 m pc ls st0) := by
  intro T hT X
  obtain ⟨w, st₀, t, T', L9, h0, X', hL, e1, e2, hq, st⟩ := hr T hT X
  have hmv : va_F (fun q => b ≤ q) st₀ t → va_S (fun q => b ≤ q) s.heap T'.heap (locs ++ L9) := by
    intro hF
    rw [va_F, h0] at hF
    exact ⟨Nat.le_trans hS.1 (by rw [e1]; exact hF.1), fun q h1 h2 => by rw [e1, hF.2 q (Nat.lt_of_lt_of_le h1 hS.1) h2]; exact hS.2.1 q h1 h2, fun q hq => by
      rcases List.mem_append.mp hq with h | h
      · exact hS.2.2 q h
      · exact hL q h⟩
  rcases hq with ⟨hv, ho, hP, ⟨z, hz, hsz⟩, hF⟩ | ⟨hv, ho, hP, ⟨z, hz, hsz⟩, hF⟩
  · cases ho
    obtain ⟨t2, a1, b1⟩ := kk 1 hs z T'.heap (locs ++ L9) (Or.inl ⟨hv, rfl, rfl⟩) hz (by rw [e1]; exact hP) (by rw [e1]; exact hsz) (hmv hF) T' rfl X'
    exact ⟨t2, st t2 a1, b1⟩
  · cases ho
    obtain ⟨t2, a1, b1⟩ := kk 0 _ z T'.heap (locs ++ L9) (Or.inr ⟨hv, rfl, rfl⟩) hz (by rw [e1]; exact hP) (by rw [e1]; exact hsz) (hmv hF) T' rfl X'
    exact ⟨t2, st t2 a1, b1⟩
theorem lg_par : ∀ sig, parseMethodDescriptor yL_got.desc = some sig → 4 = sig.parameters.length := by
  intro sig h
  have h6 : (parseMethodDescriptor yL_got.desc).map (fun d => d.parameters.length) = some 4 := by decide +kernel
  rw [h] at h6
  exact (Option.some.inj h6).symm
theorem sl_lgot (hC : sb_Cx sa_EX RL cc nL fr lr p R s m args c D cI kS b lc lsl) (hl0 : l.stackTraces = false) (hKx : sv_K b s) (hal : ¬ al) (hfr : 8 ≤ fr) (hlr : 131 ≤ lr) (hd : decode cc pc = .ok (.invokestatic 78, 3)) (hn : pc + 3 = nx) : sb_T (sb_P sa_EX al nL p l e R s m args below meth c D cI kS b lc lsl Z) pc (so_lgot nx) := by
  intro lo st hs rc rs hop z hbz hz H locs ls cells slots hA
  rcases st with _ | ⟨x | ((_ | q) | j), _ | ⟨k | r, _ | ⟨i | r2, _ | ⟨y | ((_ | a) | j), st⟩⟩⟩⟩ <;> try (exact absurd hop id)
  obtain ⟨e1, e2, h1, h2, h3, v, o, h6, h7, h8, h9, h10, h11⟩ := hop
  subst e1; subst e2; subst hn
  dsimp only at h1 h2 h3 h6 h7 h8 h9 h10 h11
  obtain ⟨hl, hP, hsz, hS, hcc, hss⟩ := hA
  dsimp only at hl hP hsz hS hcc hss
  obtain ⟨hx, hb, hml, hown, hts, hK, hfr0, hlo0, hrc, hrs, hX⟩ := hC
  have hM := met_lgot l hl0 D cI kS b z i k v hs o hbz h6 h7 h8 h9
  refine lg_back (mc := 1) (ms := 6) (v := v) (hs := hs) (o := o) (rest := st.map (sa_v b kS)) (vx_runSW (As := [.ref (b + 0), .int i, .int k, .ref (b + 44)]) (rest := st.map (sa_v b kS)) (own := RL) (index := 78) (n := 4) (hh := [(0, 10, 13, 13)]) (bytes := cL_got) (maxL := 5) (ret := some .int) ⟨hx, hb, hml, hown, hts⟩ hM ⟨⟨rfl, rfl, by show 7 + 1 ≤ R.frames; omega, by show 8 + (5 + 11) + 107 ≤ R.locals; omega, pay_in hts (sa_good sa_EX_ok lg_w3.1), List.mem_cons_self⟩, hts _ lg_w3.1, hts _ lg_w3.2.1, ⟨by decide +kernel, by decide +kernel⟩, lg_par, hts _ lg_w3.2.2.1, hts _ lg_w3.2.2.2⟩ ⟨sv_blind, fun U hU hW => ⟨sa_pre (av := [x0, .inl i, .inl k, .inr (.inl (some 44))]) sa_EX_ok hK hP hsz hS U hU hW, sv_K.to hKx hW.alike (fun q h1 h2 => by rw [hU]; exact hS.2.1 q h1 h2)⟩⟩ rfl rfl hl.1 rfl (lv_room (by rw [sa_sum]; exact h1)) hd ⟨by omega, by omega⟩) hS ?_
  intro r hs2 z2 H2 locs2 hor hz2 hP2 hsz2 hS2
  rcases hor with ⟨hv, e3, e4⟩ | ⟨hv, e3, e4⟩
  · subst e3; subst e4
    exact h10 hv z2 hz2 (fun h => absurd h hal) H2 locs2 ls (cells + 1) (slots + 6) ⟨hl, hP2, hsz2, hS2, by show cells + 1 + (rc - 1) = lc; omega, by show slots + 6 + (rs - 6) = lsl; omega⟩
  · subst e3; subst e4
    exact h11 hv z2 hz2 (fun h => absurd h hal) H2 locs2 ls (cells + 1) (slots + 6) ⟨hl, hP2, hsz2, hS2, by show cells + 1 + (rc - 1) = lc; omega, by show slots + 6 + (rs - 6) = lsl; omega⟩
end LOP
