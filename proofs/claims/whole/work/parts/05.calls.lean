section SSC
theorem sa_blind {X : sa_X} {D : va_G} {cI : ClassId × ClassId} {kS : Nat → Nat} {b z : Nat} {av : List sa_V} {hs : sa_H} (hX : sa_ok X) : FrameBlind (sa_Pc X D cI kS b z av hs) :=
  fun _ _ _ _ ⟨h1, h2, h3, h4⟩ => ⟨h1, h2, h3, sa_K.same hX h4 rfl rfl⟩
theorem sa_good {X : sa_X} {w0 : Cond} (hX : sa_ok X) (h : w0 ∈ X.2.1) : GoodIn X.2.1 (w0 :: X.2.1) := by
  intro w hw
  have hm : w ∈ X.2.1 := by
    rcases List.mem_cons.mp hw with rfl | hw
    · exact h
    · exact hw
  exact ⟨hm, good_of_word (hX.1 w hm)⟩
theorem sa_pre {X : sa_X} {D : va_G} {cI : ClassId × ClassId} {kS : Nat → Nat} {b z : Nat} {av : List sa_V} {hs : sa_H} {s : State} {H : Heap} {locs : List Loc} (hX : sa_ok X) (hK : sa_K X D cI kS b s) (hP : va_P D X.1 (sa_ws b kS cI hs) H) (hsz : H.size = z + hs.length) (hS : va_S (fun q => b ≤ q) s.heap H locs) : ∀ U : State, U.heap = H → s.WarmedH U.vm → sa_Pc X D cI kS b z av hs (av.map (sa_v b kS)).toArray U :=
  fun U hU hW => ⟨rfl, by rw [hU]; exact hP, by rw [hU]; exact hsz, sa_K.to hX hK hW (fun q h1 h2 => by rw [hU]; exact hS.2.1 q h1 h2)⟩
/-- behind a call -/
theorem sa_back {X : sa_X} {p : Program} {l : Launch} {e : Env} {R : Room} {s : State} {m : MethodId} {args : Array Value} {below : List Frame} {meth : Method} {c : Code} {H : Heap} {locs : List Loc} {cells slots : Nat} {Z : State → Prop} {pc : Nat} {ls : Array Slot} {rest st0 : List Value} {a : Array Value} {mc ms : Nat} {D : va_G} {cI : ClassId × ClassId} {kS : Nat → Nat} {b z : Nat} {Q : sa_Q}
    (hr : va_Run p l e R s m args below meth c H locs cells slots mc ms (F0 m pc ls st0) rest (sa_Qc X D cI kS b z Q a) (fun q => b ≤ q)) (hS : va_S (fun q => b ≤ q) s.heap H locs)
    (kk : ∀ (rv : Option sa_V) (hs : sa_H) (H1 : Heap) (locs1 : List Loc), Q rv hs → va_P D X.1 (sa_ws b kS cI hs) H1 → H1.size = z + hs.length → va_S (fun q => b ≤ q) s.heap H1 locs1 → W p l e R s m args below meth c H1 locs1 (cells + mc) (slots + ms) Z (F0 m (pc + 3) ls ((rv.map (sa_v b kS)).toList ++ rest))) : W p l e R s m args below meth c H locs cells slots Z (F0 m pc ls st0) := by
  intro T hT X0
  obtain ⟨v, st₀, t, T', L, h0, X', hL, e1, e2, ⟨rv, hs, hv, hQ, hP, hz, hF⟩, st⟩ := hr T hT X0
  cases hv
  rw [va_F, h0] at hF
  obtain ⟨t2, a1, b1⟩ := kk rv hs T'.heap (locs ++ L) hQ (by rw [e1]; exact hP) (by rw [e1]; exact hz)
    ⟨Nat.le_trans hS.1 (by rw [e1]; exact hF.1), fun q h1 h2 => by rw [e1, hF.2 q (Nat.lt_of_lt_of_le h1 hS.1) h2]; exact hS.2.1 q h1 h2, fun q hq => by
      rcases List.mem_append.mp hq with h | h
      · exact hS.2.2 q h
      · exact hL q h⟩ T' rfl X'
  exact ⟨t2, st t2 a1, b1⟩
/-- a callee: its contract, and what a call of it asks: k arguments with the receiver -/
def sa_cal (X : sa_X) (y : MethodName) (cc : ByteArray) (nL : Nat) (rt : Option FieldType) (fr' lo' : Nat) (ct : sa_C) (n k fr lr : Nat) : Prop :=
  sa_Met X y cc nL rt fr' lo' ct ∧ Cond.code y cc nL rt ∈ X.2.1 ∧ Cond.initialized y.cls ∈ X.2.1 ∧ (y.cls ≠ "java/lang/invoke/MethodHandle" ∧ y.cls ≠ "java/lang/invoke/VarHandle" ∧ (parseMethodDescriptor y.desc).map (fun d => d.parameters.length) = some n) ∧ k ≤ nL ∧ fr' + 1 ≤ fr ∧ 8 + (nL + 11) + lo' ≤ lr
variable {X : sa_X} {own : String} {cc : ByteArray} {nL : Nat} {rt : Option FieldType} {nm : String} {fr lr : Nat} {pc : Nat}
variable {y : MethodName} {cc' : ByteArray} {nL' : Nat} {rt' : Option FieldType} {fr' lo' : Nat} {ct : sa_C} {n lc' ls' nx index : Nat}
theorem ss_stat (hd : decode cc pc = .ok (.invokestatic index, 3)) (hc : sa_cal X y cc' nL' rt' fr' lo' ct n n fr lr) (hli : Cond.methodLink own index y ∈ X.2.1) (hst : Cond.static y ∈ X.2.1) (hn : pc + 3 = nx) : sa_Sim X own cc nL rt nm fr lr pc (so_stat ct n lc' ls' nx) := by
  intro p l e R s m args below meth c D cI kS b z lc lsl Q hC lo st hs rc rs K H locs ls cells slots hA hop kk
  obtain ⟨hx, hb, hml, hown, hts, hK, hlk, hr, hnm, hfr, hlo, hrc, hrs, hbz, hz, hX⟩ := hC
  obtain ⟨hl, hP, hsz, hS, hcc, hss⟩ := hA
  subst hn
  obtain ⟨hM, hcode, hini, hy, hk, hf1, hf2⟩ := hc
  cases hsp : sa_split n st with
  | none => simp only [so_stat, hsp] at hop
  | some x =>
    obtain ⟨as, st2⟩ := x
    simp only [so_stat, hsp] at hop
    obtain ⟨hln, k1, k2, hct⟩ := hop
    obtain ⟨e1, e2⟩ := sa_split_eq n st as st2 hsp
    have hM1 := hM l D cI kS b z lc' ls' as hs _ hbz (fun h => hz (by omega)) (by omega) hct
    refine sa_back (va_runS (As := as.map (sa_v b kS)) (rest := st2.map (sa_v b kS)) ⟨hx, hb, hml, hown, hts⟩ hM1 ⟨callB_of n hts (sa_good hX hcode) rfl rfl rfl (hts _ hini) (hts _ hli) hy ⟨by rw [hfr]; exact hf1, by rw [hlo]; exact hf2⟩, hts _ hst⟩ ⟨sa_blind hX, sa_pre hX hK hP hsz hS⟩ rfl (by simpa using e2) hl.1 (by rw [e1]; simp) (lv_room (by rw [sa_sum]; exact hln)) hd ⟨by omega, by omega⟩) hS ?_
    intro rv hs' H1 locs1 hQ hP1 hz1 hS1
    have h9 := kk (pc + 3) lo (rv.toList ++ st2) hs' (rc - lc') (rs - ls') H1 locs1 ls (cells + lc') (slots + ls') ⟨hl, hP1, hz1, hS1, by omega, by omega⟩ hQ
    cases rv with
    | none => exact h9
    | some v => exact h9
theorem ss_statN (hd : decode cc pc = .ok (.invokestatic index, 3)) (hc : sa_cal X y cc' nL' rt' fr' lo' ct n n fr lr) {host : String} (hli : Cond.methodLinkNest own index y host ∈ X.2.2.1) (hst : Cond.static y ∈ X.2.1) (hn : pc + 3 = nx) : sa_Sim X own cc nL rt nm fr lr pc (so_stat ct n lc' ls' nx) := by
  intro p l e R s m args below meth c D cI kS b z lc lsl Q hC lo st hs rc rs K H locs ls cells slots hA hop kk
  obtain ⟨hx, hb, hml, hown, hts, hK, hlk, hr, hnm, hfr, hlo, hrc, hrs, hbz, hz, hX⟩ := hC
  obtain ⟨hl, hP, hsz, hS, hcc, hss⟩ := hA
  subst hn
  obtain ⟨hM, hcode, hini, hy, hk, hf1, hf2⟩ := hc
  cases hsp : sa_split n st with
  | none => simp only [so_stat, hsp] at hop
  | some x =>
    obtain ⟨as, st2⟩ := x
    simp only [so_stat, hsp] at hop
    obtain ⟨hln, k1, k2, hct⟩ := hop
    obtain ⟨e1, e2⟩ := sa_split_eq n st as st2 hsp
    have hM1 := hM l D cI kS b z lc' ls' as hs _ hbz (fun h => hz (by omega)) (by omega) hct
    refine sa_back (va_runSN (As := as.map (sa_v b kS)) (rest := st2.map (sa_v b kS)) ⟨hx, hb, hml, hown, hts⟩ hM1 ⟨va_cnB n hts (sa_good hX hcode) rfl rfl rfl (hK.2.1 _ hli) (hts _ hini) hy ⟨by rw [hfr]; exact hf1, by rw [hlo]; exact hf2⟩, hts _ hst, trivial⟩ ⟨sa_blind hX, sa_pre hX hK hP hsz hS⟩ rfl (by simpa using e2) hl.1 (by rw [e1]; simp) (lv_room (by rw [sa_sum]; exact hln)) hd ⟨by omega, by omega⟩) hS ?_
    intro rv hs' H1 locs1 hQ hP1 hz1 hS1
    have h9 := kk (pc + 3) lo (rv.toList ++ st2) hs' (rc - lc') (rs - ls') H1 locs1 ls (cells + lc') (slots + ls') ⟨hl, hP1, hz1, hS1, by omega, by omega⟩ hQ
    cases rv with
    | none => exact h9
    | some v => exact h9
theorem ss_init (hd : decode cc pc = .ok (.invokespecial index, 3)) (hc : sa_cal X y cc' nL' none fr' lo' ct n (n + 1) fr lr) (hli : Cond.methodLink own index y ∈ X.2.1) (hin : Cond.instanceMethod y ∈ X.2.1) (hyn : y.name = "<init>") (hn : pc + 3 = nx) : sa_Sim X own cc nL rt nm fr lr pc (so_init ct n lc' ls' nx) := by
  intro p l e R s m args below meth c D cI kS b z lc lsl Q hC lo st hs rc rs K H locs ls cells slots hA hop kk
  obtain ⟨hx, hb, hml, hown, hts, hK, hlk, hr, hnm, hfr, hlo, hrc, hrs, hbz, hz, hX⟩ := hC
  obtain ⟨hl, hP, hsz, hS, hcc, hss⟩ := hA
  subst hn
  obtain ⟨hM, hcode, hini, hy, hk, hf1, hf2⟩ := hc
  cases hsp : sa_split n st with
  | none => simp only [so_init, hsp] at hop
  | some x =>
    obtain ⟨as, st2⟩ := x
    rcases st2 with _ | ⟨x | ((_ | a) | j), st2⟩ <;> simp only [so_init, hsp] at hop
    obtain ⟨hln, k1, k2, hct⟩ := hop
    obtain ⟨e1, e2⟩ := sa_split_eq n st as _ hsp
    have hM1 := hM l D cI kS b z lc' ls' (.inr (.inl (some a)) :: as) hs _ hbz (fun h => hz (by omega)) (by simp; omega) hct
    refine sa_back (va_runI (b := b + a) (As := as.map (sa_v b kS)) (rest := st2.map (sa_v b kS)) ⟨hx, hb, hml, hown, hts⟩ hM1 ⟨callB_of n hts (sa_good hX hcode) rfl rfl rfl (hts _ hini) (hts _ hli) hy ⟨by rw [hfr]; exact hf1, by rw [hlo]; exact hf2⟩, hyn, hts _ hin⟩ ⟨sa_blind hX, sa_pre (av := .inr (.inl (some a)) :: as) hX hK hP hsz hS⟩ rfl (by simpa using e2) hl.1 (by rw [e1]; simp [sa_v]) (lv_room (by rw [sa_sum]; exact hln)) hd ⟨by omega, by omega⟩) hS ?_
    intro rv hs' H1 locs1 hQ hP1 hz1 hS1
    have h9 := kk (pc + 3) lo (rv.toList ++ st2) hs' (rc - lc') (rs - ls') H1 locs1 ls (cells + lc') (slots + ls') ⟨hl, hP1, hz1, hS1, by omega, by omega⟩ hQ
    cases rv with
    | none => exact h9
    | some v => exact h9
theorem ss_initN (hd : decode cc pc = .ok (.invokespecial index, 3)) (hc : sa_cal X y cc' nL' none fr' lo' ct n (n + 1) fr lr) {host : String} (hli : Cond.methodLinkNest own index y host ∈ X.2.2.1) (hin : Cond.instanceMethod y ∈ X.2.1) (hyn : y.name = "<init>") (hn : pc + 3 = nx) : sa_Sim X own cc nL rt nm fr lr pc (so_init ct n lc' ls' nx) := by
  intro p l e R s m args below meth c D cI kS b z lc lsl Q hC lo st hs rc rs K H locs ls cells slots hA hop kk
  obtain ⟨hx, hb, hml, hown, hts, hK, hlk, hr, hnm, hfr, hlo, hrc, hrs, hbz, hz, hX⟩ := hC
  obtain ⟨hl, hP, hsz, hS, hcc, hss⟩ := hA
  subst hn
  obtain ⟨hM, hcode, hini, hy, hk, hf1, hf2⟩ := hc
  cases hsp : sa_split n st with
  | none => simp only [so_init, hsp] at hop
  | some x =>
    obtain ⟨as, st2⟩ := x
    rcases st2 with _ | ⟨x | ((_ | a) | j), st2⟩ <;> simp only [so_init, hsp] at hop
    obtain ⟨hln, k1, k2, hct⟩ := hop
    obtain ⟨e1, e2⟩ := sa_split_eq n st as _ hsp
    have hM1 := hM l D cI kS b z lc' ls' (.inr (.inl (some a)) :: as) hs _ hbz (fun h => hz (by omega)) (by simp; omega) hct
    refine sa_back (va_runIN (b := b + a) (As := as.map (sa_v b kS)) (rest := st2.map (sa_v b kS)) ⟨hx, hb, hml, hown, hts⟩ hM1 ⟨va_cnB n hts (sa_good hX hcode) rfl rfl rfl (hK.2.1 _ hli) (hts _ hini) hy ⟨by rw [hfr]; exact hf1, by rw [hlo]; exact hf2⟩, hyn, hts _ hin⟩ ⟨sa_blind hX, sa_pre (av := .inr (.inl (some a)) :: as) hX hK hP hsz hS⟩ rfl (by simpa using e2) hl.1 (by rw [e1]; simp [sa_v]) (lv_room (by rw [sa_sum]; exact hln)) hd ⟨by omega, by omega⟩) hS ?_
    intro rv hs' H1 locs1 hQ hP1 hz1 hS1
    have h9 := kk (pc + 3) lo (rv.toList ++ st2) hs' (rc - lc') (rs - ls') H1 locs1 ls (cells + lc') (slots + ls') ⟨hl, hP1, hz1, hS1, by omega, by omega⟩ hQ
    cases rv with
    | none => exact h9
    | some v => exact h9
/-- one way that a call by the receiver's class may go -/
def sa_alt (X : sa_X) (own : String) (index n fr lr : Nat) (q : Nat × sa_C) : Prop :=
  ∃ (C : String) (T : u_T) (N : Nat) (y : MethodName) (cc : ByteArray) (nL : Nat) (rt : Option FieldType) (fr' lo' : Nat), X.1[q.1]? = some (C, T, N) ∧ sa_cal X y cc nL rt fr' lo' q.2 n (n + 1) fr lr ∧ Cond.instanceMethod y ∈ X.2.1 ∧
    ((Cond.methodLink own index y ∈ X.2.1 ∧ Cond.selects C y y ∈ X.2.1) ∨
     ∃ (x : MethodName) (owner : String), Cond.methodLink own index x ∈ X.2.1 ∧ Cond.sameMethod x.cls owner x.name x.desc ∈ X.2.1 ∧ Cond.selects C x y ∈ X.2.1 ∧ Cond.declares ⟨owner, x.name, x.desc⟩ ∈ X.2.2.1 ∧ (owner ≠ "java/lang/invoke/MethodHandle" ∧ owner ≠ "java/lang/invoke/VarHandle") ∧ (parseMethodDescriptor x.desc).map (fun d => d.parameters.length) = some n)
theorem sa_sel_in : ∀ (alts : List (Nat × sa_C)) (ci : Nat) (ct : sa_C), sa_sel alts ci = some ct → (ci, ct) ∈ alts
  | [], _, _, h => by simp [sa_sel] at h
  | (c, t) :: l, ci, ct, h => by
    unfold sa_sel at h
    split at h
    · next h1 => cases h; subst h1; exact List.mem_cons_self
    · exact List.mem_cons_of_mem _ (sa_sel_in l ci ct h)
theorem ss_virt {alts : List (Nat × sa_C)} (hd : decode cc pc = .ok (.invokevirtual index, 3)) (hc : ∀ q ∈ alts, sa_alt X own index n fr lr q) (hn : pc + 3 = nx) : sa_Sim X own cc nL rt nm fr lr pc (so_virt alts n lc' ls' nx) := by
  intro p l e R s m args below meth c D cI kS b z lc lsl Q hC lo st hs rc rs K H locs ls cells slots hA hop kk
  obtain ⟨hx, hb, hml, hown, hts, hK, hlk, hr, hnm, hfr, hlo, hrc, hrs, hbz, hz, hX⟩ := hC
  obtain ⟨hl, hP, hsz, hS, hcc, hss⟩ := hA
  subst hn
  cases hsp : sa_split n st with
  | none => simp only [so_virt, hsp] at hop
  | some x =>
    obtain ⟨as, st2⟩ := x
    rcases st2 with _ | ⟨x | ((_ | a) | j), st2⟩ <;> simp only [so_virt, hsp] at hop
    cases he : sa_nth hs a with
    | none => simp only [he] at hop
    | some e =>
      rcases e with x | ⟨ci, fs⟩
      · simp only [he] at hop
      · cases hse : sa_sel alts ci with
        | none => simp only [he, hse] at hop
        | some ct =>
          simp only [he, hse] at hop
          obtain ⟨hln, k1, k2, hct⟩ := hop
          obtain ⟨e1, e2⟩ := sa_split_eq n st as _ hsp
          obtain ⟨C, T, N, y, cc', nL', rt', fr', lo', hcl, ⟨hM, hcode, hini, hy, hk, hf1, hf2⟩, hin, hkind⟩ := hc (ci, ct) (sa_sel_in alts ci ct hse)
          have hM1 := hM l D cI kS b z lc' ls' (.inr (.inl (some a)) :: as) hs _ hbz (fun h => hz (by omega)) (by simp; omega) hct
          have hrv := va_recv hK.1 hP hcl (sa_ws_get (b := b) (kS := kS) (cI := cI) he)
          have hpv : PreV s H C (b + a) (sa_Pc X D cI kS b z (.inr (.inl (some a)) :: as) hs) (as.map (sa_v b kS)) := ⟨sa_blind hX, hrv, sa_pre (av := .inr (.inl (some a)) :: as) hX hK hP hsz hS⟩
          have hgo : ∀ (rv : Option sa_V) (hs' : sa_H) (H1 : Heap) (locs1 : List Loc), K (pc + 3, lo, rv.toList ++ st2, hs', rc - lc', rs - ls') → va_P D X.1 (sa_ws b kS cI hs') H1 → H1.size = z + hs'.length → va_S (fun q => b ≤ q) s.heap H1 locs1 → W p l e R s m args below meth c H1 locs1 (cells + lc') (slots + ls') (MQ below (sa_Qc X D cI kS b z Q) args s lc lsl (fun q => b ≤ q)) (F0 m (pc + 3) ls ((rv.map (sa_v b kS)).toList ++ st2.map (sa_v b kS))) := by
            intro rv hs' H1 locs1 hQ hP1 hz1 hS1
            have h9 := kk (pc + 3) lo (rv.toList ++ st2) hs' (rc - lc') (rs - ls') H1 locs1 ls (cells + lc') (slots + ls') ⟨hl, hP1, hz1, hS1, by omega, by omega⟩ hQ
            cases rv with
            | none => exact h9
            | some v => exact h9
          rcases hkind with ⟨h1, h2⟩ | ⟨x, owner, h1, h2, h3, h4, h5, h6⟩
          · exact sa_back (va_runV (C := C) (b := b + a) (As := as.map (sa_v b kS)) (rest := st2.map (sa_v b kS)) ⟨hx, hb, hml, hown, hts⟩ hM1 ⟨callB_of n hts (sa_good hX hcode) rfl rfl rfl (hts _ hini) (hts _ h1) hy ⟨by rw [hfr]; exact hf1, by rw [hlo]; exact hf2⟩, hts _ hin, hts _ h2⟩ hpv rfl (by simpa using e2) hl.1 (by rw [e1]; simp [sa_v]) (lv_room (by rw [sa_sum]; exact hln)) hd ⟨by omega, by omega⟩) hS hgo
          · have hlen : ∀ sig, parseMethodDescriptor x.desc = some sig → n = sig.parameters.length := by
              intro sig h
              rw [h] at h6
              exact (Option.some.inj h6).symm
            exact sa_back (va_runU (x := x) (owner := owner) (C := C) (b := b + a) (As := as.map (sa_v b kS)) (rest := st2.map (sa_v b kS)) ⟨hx, hb, hml, hown, hts⟩ hM1 ⟨⟨rfl, rfl, by rw [hfr]; exact hf1, by rw [hlo]; exact hf2, pay_in hts (sa_good hX hcode), List.mem_cons_self⟩, hts _ hcode, hts _ hini, h5, hlen, hts _ h1, hts _ h2, va_Decl.abs (hK.2.1 _ h4), hts _ h3, hts _ hin⟩ hpv rfl (by simpa using e2) hl.1 (by rw [e1]; simp [sa_v]) (lv_room (by rw [sa_sum]; exact hln)) hd ⟨by omega, by omega⟩) hS hgo
end SSC
