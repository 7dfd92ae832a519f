section SSE
variable {X : sa_X} {own : String} {cc : ByteArray} {nL : Nat} {rt : Option FieldType} {nm : String} {fr lr : Nat} {pc : Nat}
theorem ss_getsC {nx index : Nat} (hd : decode cc pc = .ok (.getstatic index, 3)) (h1 : Cond.fieldLink own index "java/lang/String" "COMPACT_STRINGS" "Z" ∈ X.2.1) (hn : pc + 3 = nx) : sa_Sim X own cc nL rt nm fr lr pc (so_push (.inl 1) nx) := by
  intro p l e R s m args below meth c D cI kS b z lc lsl Q hC lo st hs rc rs K H locs ls cells slots hA hop kk
  obtain ⟨hx, hb, hml, hown, hts, hK, hlk, hr, hnm, hfr, hlo, hrc, hrs, hbz, hz, hX⟩ := hC
  obtain ⟨hl, hP, hsz, hS, hcc, hss⟩ := id hA
  subst hn
  exact va_gets hx hb hK.2.2.2.2.1 hS hown (hts _ h1) (fun _ h => h) hd (kk (pc + 3) lo (.inl 1 :: st) hs rc rs H locs ls cells slots hA hop)
theorem ss_getq {nx index : Nat} (hd : decode cc pc = .ok (.getstatic index, 3)) (h1 : Cond.fieldLink own index "jdk/internal/util/Preconditions" "SIOOBE_FORMATTER" "Ljava/util/function/BiFunction;" ∈ X.2.1) (hn : pc + 3 = nx) : sa_Sim X own cc nL rt nm fr lr pc (so_getq nx) := by
  intro p l e R s m args below meth c D cI kS b z lc lsl Q hC lo st hs rc rs K H locs ls cells slots hA hop kk
  obtain ⟨hx, hb, hml, hown, hts, hK, hlk, hr, hnm, hfr, hlo, hrc, hrs, hbz, hz, hX⟩ := hC
  obtain ⟨hl, hP, hsz, hS, hcc, hss⟩ := id hA
  subst hn
  rcases hK.2.2.2.2.2 with h | h
  · exact va_gets hx hb h hS hown (hts _ h1) (fun _ h => h) hd (kk (pc + 3) lo (.inr (.inl none) :: st) hs rc rs H locs ls cells slots hA hop.2)
  · exact va_gets hx hb h hS hown (hts _ h1) (fun _ h => h) hd (kk (pc + 3) lo (.inr (.inr 3000) :: st) hs rc rs H locs ls cells slots hA hop.1)
theorem ss_sval {nx index : Nat} (hd : decode cc pc = .ok (.getfield index, 3)) (h1 : Cond.fieldLink own index "java/lang/String" "value" "[B" ∈ X.2.1) (hn : pc + 3 = nx) : sa_Sim X own cc nL rt nm fr lr pc (so_sval X.2.2.2.1.1 nx) := by
  intro p l e R s m args below meth c D cI kS b z lc lsl Q hC lo st hs rc rs K H locs ls cells slots hA hop kk
  obtain ⟨hx, hb, hml, hown, hts, hK, hlk, hr, hnm, hfr, hlo, hrc, hrs, hbz, hz, hX⟩ := hC
  obtain ⟨hl, hP, hsz, hS, hcc, hss⟩ := id hA
  subst hn
  rcases st with _ | ⟨x | ((_ | a) | j), st⟩ <;> try (exact absurd hop id)
  exact vk_getf hx hb (hK.2.2.1.1 j hop.1).2.2.1 hS hown (hts _ h1) (fun _ h => h) hd (kk (pc + 3) lo (.inr (.inr (1000 + j)) :: st) hs rc rs H locs ls cells slots hA hop.2)
theorem ss_scod {nx index : Nat} (hd : decode cc pc = .ok (.getfield index, 3)) (h1 : Cond.fieldLink own index "java/lang/String" "coder" "B" ∈ X.2.1) (hn : pc + 3 = nx) : sa_Sim X own cc nL rt nm fr lr pc (so_scod X.2.2.2.1.1 nx) := by
  intro p l e R s m args below meth c D cI kS b z lc lsl Q hC lo st hs rc rs K H locs ls cells slots hA hop kk
  obtain ⟨hx, hb, hml, hown, hts, hK, hlk, hr, hnm, hfr, hlo, hrc, hrs, hbz, hz, hX⟩ := hC
  obtain ⟨hl, hP, hsz, hS, hcc, hss⟩ := id hA
  subst hn
  rcases st with _ | ⟨x | ((_ | a) | j), st⟩ <;> try (exact absurd hop id)
  exact vk_getf hx hb (hK.2.2.1.1 j hop.1).2.1 hS hown (hts _ h1) (fun _ h => h) hd (kk (pc + 3) lo (.inl 0 :: st) hs rc rs H locs ls cells slots hA hop.2)
theorem ss_blen {nx : Nat} (hd : decode cc pc = .ok (.arraylength, 1)) (hn : pc + 1 = nx) : sa_Sim X own cc nL rt nm fr lr pc (so_blen X.2.2.2.1.1 X.2.2.2.1.2.1 nx) := by
  intro p l e R s m args below meth c D cI kS b z lc lsl Q hC lo st hs rc rs K H locs ls cells slots hA hop kk
  obtain ⟨hx, hb, hml, hown, hts, hK, hlk, hr, hnm, hfr, hlo, hrc, hrs, hbz, hz, hX⟩ := hC
  obtain ⟨hl, hP, hsz, hS, hcc, hss⟩ := id hA
  subst hn
  rcases st with _ | ⟨x | ((_ | a) | k), st⟩ <;> try (exact absurd hop id)
  obtain ⟨q1, q2, hop⟩ := hop
  have hT := (hK.2.2.1.1 (k - 1000) q2).2.2.2
  have ek : 1000 + (k - 1000) = k := by omega
  dsimp only at hT
  rw [ek] at hT
  exact va_tlen hx hb hT hS rfl hd (kk (pc + 1) lo (.inl (Int32.ofNat (X.2.2.2.1.2.1.getD (k - 1000) 0)) :: st) hs rc rs H locs ls cells slots hA hop)
theorem ss_bald {nx : Nat} (hd : decode cc pc = .ok (.baload, 1)) (hn : pc + 1 = nx) : sa_Sim X own cc nL rt nm fr lr pc (so_bald X.2.2.2.1.1 X.2.2.2.1.2.1 X.2.2.2.1.2.2 nx) := by
  intro p l e R s m args below meth c D cI kS b z lc lsl Q hC lo st hs rc rs K H locs ls cells slots hA hop kk
  obtain ⟨hx, hb, hml, hown, hts, hK, hlk, hr, hnm, hfr, hlo, hrc, hrs, hbz, hz, hX⟩ := hC
  obtain ⟨hl, hP, hsz, hS, hcc, hss⟩ := id hA
  subst hn
  rcases st with _ | ⟨i | r, _ | ⟨x | ((_ | a) | k), st⟩⟩ <;> try (exact absurd hop id)
  obtain ⟨q1, q2, q3, hop⟩ := hop
  have hT := (hK.2.2.1.1 (k - 1000) q2).2.2.2
  have ek : 1000 + (k - 1000) = k := by omega
  dsimp only at hT
  rw [ek] at hT
  exact va_tb hx hb hT hS q3 rfl hd (kk (pc + 1) lo (.inl ((X.2.2.2.1.2.2.getD (k - 1000) []).getD i.toNatClampNeg 0) :: st) hs rc rs H locs ls cells slots hA hop)
theorem ss_nret {ty : FieldType} (hd : decode cc pc = .ok (.ireturn, 1)) (hr0 : rt = some ty) : sa_Sim X own cc nL rt nm fr lr pc (so_nret ty) := by
  intro p l e R s m args below meth c D cI kS b z lc lsl Q hC lo st hs rc rs K H locs ls cells slots hA hop kk
  obtain ⟨hx, hb, hml, hown, hts, hK, hlk, hr, hnm, hfr, hlo, hrc, hrs, hbz, hz, hX⟩ := hC
  obtain ⟨hl, hP, hsz, hS, hcc, hss⟩ := id hA
  subst hr0
  rcases st with _ | ⟨x | r, _ | ⟨v, st⟩⟩ <;> try (exact absurd hop id)
  refine W.widen (k := lc) (n := lsl) (by omega) (by omega) ?_
  exact W.zret (v := x) hx hb hr hop.1 (fun t ht hW => ⟨some (.inl x), hs, rfl, hop.2, by rw [ht]; exact hP, by rw [ht]; exact hsz, hS.F ht⟩) hS.2.2 hd hlk
theorem ss_svirt {y : MethodName} {cc' : ByteArray} {nL' : Nat} {rt' : Option FieldType} {fr' lo' : Nat} {ct : sa_C} {n nx index : Nat} (hd : decode cc pc = .ok (.invokevirtual index, 3)) (hc : sa_cal X y cc' nL' rt' fr' lo' ct n (n + 1) fr lr) (h1 : Cond.methodLink own index y ∈ X.2.1) (h2 : Cond.selects "java/lang/String" y y ∈ X.2.1) (hin : Cond.instanceMethod y ∈ X.2.1) (hn : pc + 3 = nx) : sa_Sim X own cc nL rt nm fr lr pc (so_svirt X.2.2.2.1.1 ct n nx) := by
  intro p l e R s m args below meth c D cI kS b z lc lsl Q hC lo st hs rc rs K H locs ls cells slots hA hop kk
  obtain ⟨hx, hb, hml, hown, hts, hK, hlk, hr, hnm, hfr, hlo, hrc, hrs, hbz, hz, hX⟩ := hC
  obtain ⟨hl, hP, hsz, hS, hcc, hss⟩ := id hA
  subst hn
  obtain ⟨hM, hcode, hini, hy, hk, hf1, hf2⟩ := hc
  cases hsp : sa_split n st with
  | none => simp only [so_svirt, hsp] at hop
  | some x =>
    obtain ⟨as, st2⟩ := x
    rcases st2 with _ | ⟨x | ((_ | a) | j), st2⟩ <;> simp only [so_svirt, hsp] at hop
    obtain ⟨hln, hj, hct⟩ := hop
    obtain ⟨e1, e2⟩ := sa_split_eq n st as _ hsp
    have hM1 := hM l D cI kS b z 0 0 (.inr (.inr j) :: as) hs _ hbz (fun h => absurd h (by omega)) (by simp; omega) hct
    have hpv : PreV s H "java/lang/String" (kS j) (sa_Pc X D cI kS b z (.inr (.inr j) :: as) hs) (as.map (sa_v b kS)) := ⟨sa_blind hX, vk_recv hK.2.2.1 hj hS, sa_pre (av := .inr (.inr j) :: as) hX hK hP hsz hS⟩
    refine sa_back (va_runV (C := "java/lang/String") (b := kS j) (As := as.map (sa_v b kS)) (rest := st2.map (sa_v b kS)) ⟨hx, hb, hml, hown, hts⟩ hM1 ⟨callB_of n hts (sa_good hX hcode) rfl rfl rfl (hts _ hini) (hts _ h1) hy ⟨by rw [hfr]; exact hf1, by rw [hlo]; exact hf2⟩, hts _ hin, hts _ h2⟩ hpv rfl (by simpa using e2) hl.1 (by rw [e1]; simp [sa_v]) (lv_room (by rw [sa_sum]; exact hln)) hd ⟨by omega, by omega⟩) hS ?_
    intro rv hs' H1 locs1 hQ hP1 hz1 hS1
    have h9 := kk (pc + 3) lo (rv.toList ++ st2) hs' rc rs H1 locs1 ls cells slots ⟨hl, hP1, hz1, hS1, hcc, hss⟩ hQ
    cases rv with
    | none => exact h9
    | some v => exact h9
end SSE
