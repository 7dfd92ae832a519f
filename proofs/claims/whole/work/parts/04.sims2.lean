/-- a field of a class: where its words stand -/
def sa_fok (X : sa_X) (own : String) (index ci k : Nat) : Prop := ∃ (C : String) (T : u_T) (N : Nat), X.1[ci]? = some (C, T, N) ∧ k < N ∧ (∀ w ∈ u_ws C T N, w ∈ X.2.1) ∧ Cond.fieldLink own index (T k).1 (T k).2.1 (T k).2.2.1 ∈ X.2.1
/-- a class whose fields are told apart, each of its type; kd: what kind of value field k takes -/
def sa_cok (X : sa_X) (ci : Nat) : Prop := ∃ (C : String) (T : u_T) (N : Nat) (ty : Nat → FieldType), X.1[ci]? = some (C, T, N) ∧ (∀ k, k < N → parseFieldDescriptor (T k).2.2.1 = some (ty k)) ∧ (∀ a, a < N → ∀ b, b < N → a ≠ b → (T a).2.1 ≠ (T b).2.1)
def sa_kd (X : sa_X) (ci k : Nat) : Nat → Prop
  | 0 => ∃ (C : String) (T : u_T) (N : Nat), X.1[ci]? = some (C, T, N) ∧ parseFieldDescriptor (T k).2.2.1 = some .int
  | 1 => ∃ (C : String) (T : u_T) (N : Nat) (ty : FieldType), X.1[ci]? = some (C, T, N) ∧ parseFieldDescriptor (T k).2.2.1 = some ty ∧ ((∃ n, ty = .object n) ∨ ∃ t, ty = .array t)
  | _ => ∃ (C : String) (T : u_T) (N : Nat), X.1[ci]? = some (C, T, N) ∧ parseFieldDescriptor (T k).2.2.1 = some .boolean
section SSB
variable {X : sa_X} {own : String} {cc : ByteArray} {nL : Nat} {rt : Option FieldType} {nm : String} {fr lr : Nat} {pc : Nat}
theorem ss_get {nx k index : Nat} {cis : List Nat} (hd : decode cc pc = .ok (.getfield index, 3)) (hf : ∀ ci ∈ cis, sa_fok X own index ci k) (hn : pc + 3 = nx) : sa_Sim X own cc nL rt nm fr lr pc (so_get cis k nx) := by
  intro p l e R s m args below meth c D cI kS b z lc lsl Q hC lo st hs rc rs K H locs ls cells slots hA hop kk
  obtain ⟨hx, hb, hml, hown, hts, hK, -⟩ := hC
  subst hn
  rcases st with _ | ⟨x | ((_ | a) | j), st⟩
  · exact absurd hop id
  · exact absurd hop id
  · exact absurd hop id
  · cases he : sa_nth hs a with
    | none => simp only [so_get, he] at hop
    | some e =>
      rcases e with x | ⟨ci, fs⟩
      · simp only [so_get, he] at hop
      · cases hv : sa_nth fs k with
        | none => simp only [so_get, he, hv] at hop
        | some v =>
          simp only [so_get, he, hv] at hop
          obtain ⟨C, T, N, h1, h2, h3, h4⟩ := hf ci (List.contains_iff_mem.mp hop.1)
          refine va_get (C := C) (T := T) (N := N) (ci := ci) (fs := fs.map (sa_v b kS)) (v := sa_v b kS v) hx hb hts h3 hown hK.1 hA.2.1 a (sa_ws_get he) h1 k h2 (hts _ h4) (fun _ h => h) ?_ hd (kk (pc + 3) lo (v :: st) hs rc rs H locs ls cells slots hA hop.2)
          rw [sa_nth_eq] at hv
          rw [List.getElem?_map, hv]; rfl
  · exact absurd hop id
theorem sa_fits {X : sa_X} {ci k kd : Nat} {v : sa_V} {b : Nat} {kS : Nat → Nat} {C : String} {T : u_T} {N : Nat} (hk : sa_kd X ci k kd) (hv : sa_fit kd v) (h1 : X.1[ci]? = some (C, T, N)) : ∃ ty, parseFieldDescriptor (T k).2.2.1 = some ty ∧ narrow ty (sa_v b kS v) = sa_v b kS v ∧ fits ty (sa_v b kS v) = true := by
  match kd, hk with
  | 0, hk =>
    obtain ⟨C', T', N', h2, h3⟩ := hk
    cases h1.symm.trans h2
    rcases v with x | r
    · exact ⟨_, h3, rfl, rfl⟩
    · simp [sa_fit] at hv
  | 1, hk =>
    obtain ⟨C', T', N', ty, h2, h3, h4⟩ := hk
    cases h1.symm.trans h2
    rcases v with x | r
    · simp [sa_fit] at hv
    · refine ⟨_, h3, ?_, ?_⟩ <;> rcases h4 with ⟨n, rfl⟩ | ⟨t, rfl⟩ <;> rcases r with (_ | a) | j <;> rfl
  | 2, hk =>
    obtain ⟨C', T', N', h2, h3⟩ := hk
    cases h1.symm.trans h2
    rcases v with x | r
    · rcases hv with hv | ⟨-, hv⟩
      · cases hv
      · rcases hv with rfl | rfl
        · exact ⟨_, h3, show narrow .boolean (.int 0) = .int 0 by decide, show fits .boolean (.int 0) = true by decide⟩
        · exact ⟨_, h3, show narrow .boolean (.int 1) = .int 1 by decide, show fits .boolean (.int 1) = true by decide⟩
    · simp [sa_fit] at hv
  | n + 3, hk =>
    rcases v with x | r
    · simp [sa_fit] at hv
    · simp [sa_fit] at hv
theorem ss_put {nx k kd index : Nat} {cis : List Nat} (hd : decode cc pc = .ok (.putfield index, 3)) (hf : ∀ ci ∈ cis, sa_fok X own index ci k ∧ sa_cok X ci ∧ sa_kd X ci k kd ∧ ∀ q, X.1[ci]? = some q → ((q.2.1 k).2.2.2 = false ∨ ((q.2.1 k).2.2.2 = true ∧ nm = "<init>" ∧ (q.2.1 k).1 = own))) (hn : pc + 3 = nx) : sa_Sim X own cc nL rt nm fr lr pc (so_put cis k kd nx) := by
  intro p l e R s m args below meth c D cI kS b z lc lsl Q hC lo st hs rc rs K H locs ls cells slots hA hop kk
  obtain ⟨hx, hb, hml, hown, hts, hK, hlk, hr, hnm, -⟩ := hC
  subst hn
  rcases st with _ | ⟨v, _ | ⟨x | ((_ | a) | j), st⟩⟩
  · exact absurd hop id
  · exact absurd hop id
  · exact absurd hop id
  · exact absurd hop id
  · cases he : sa_nth hs a with
    | none => simp only [so_put, he] at hop
    | some e =>
      rcases e with x | ⟨ci, fs⟩
      · simp only [so_put, he] at hop
      · simp only [so_put, he] at hop
        obtain ⟨h0, hfit, hlen, hop⟩ := hop
        obtain ⟨⟨C, T, N, h1, h2, h3, h4⟩, ⟨C', T', N', ty, h1', hty, hnm2⟩, hkd, hfin⟩ := hf ci (List.contains_iff_mem.mp h0)
        cases h1.symm.trans h1'
        obtain ⟨hl, hP, hsz, hS, hcc, hss⟩ := hA
        obtain ⟨ty1, t1, t2, t3⟩ := sa_fits (b := b) (kS := kS) hkd hfit h1
        have hw := sa_ws_get (b := b) (kS := kS) (cI := cI) he
        have hD := sa_ws_D b kS cI hs
        have hap := va_apart (own := own) hts h3 ty hty hnm2 hK.1 h1
        obtain ⟨r, r1, cell, q1, q2, q3, q4⟩ := hP a _ hw
        cases r1.symm.trans h1
        obtain ⟨hSl, hfc, kC, hkC, hkind⟩ := hK.1.1 ci _ h1
        obtain ⟨cf, kf, fi, f, hi, hsl⟩ := hSl k h2
        have hst := (u_facts hfc hkC (u_lays hts h3 h2) hi).1
        have hlay := hts _ (h3 _ (u_in_lay h2))
        unfold u_lay at hlay
        have done : ∀ H' : Heap, H'[b + a]? = some (cell.setSlot f.slot (sa_v b kS v)) → H'.size = H.size → (∀ q, q ≠ b + a → H'[q]? = H[q]?) → W p l e R s m args below meth c H' (locs ++ [⟨b + a, f.slot⟩]) cells slots (MQ below (sa_Qc X D cI kS b z Q) args s lc lsl (fun q => b ≤ q)) (F0 m (pc + 3) ls (st.map (sa_v b kS))) := by
          intro H' e1 e2 e3
          rw [hsl] at e1 ⊢
          refine kk (pc + 3) lo st _ rc rs H' _ ls cells slots ⟨hl, ?_, ?_, hS.put e2 e3 (Nat.le_add_right b a), hcc, hss⟩ hop
          · rw [← sa_ws_set]
            have hm : sa_e b kS cI (.inr (ci, sa_put fs k v)) = .inr (ci, (fs.map (sa_v b kS)).set k (sa_v b kS v)) := by
              rw [sa_put_eq]; simp [sa_e, List.map_set]
            rw [hm]
            exact hP.set hD hw ⟨_, h1, t_OB.to (V := updV (vp_V (fs.map (sa_v b kS))) k (sa_v b kS v)) ⟨_, e1, q2, q3, t_set q4 hap h2 _⟩ (fun j _ => vp_updV_set (by simpa using hlen) _ j)⟩ e3
          · rw [e2, hsz, sa_put_eq]; simp
        rcases hfin _ h1 with hf0 | ⟨hf1, hf2, hf3⟩
        · rw [if_neg (by rw [hf0]; decide)] at hlay
          have h6 := u_store hfc hkC hkind hlay hi t1 t2 t3
          exact W.putK hx hb (f := f) ⟨hown, hts _ h4, ⟨_, _, _, hi⟩, hst⟩ (by rw [q2]; exact h6) q1 q3 (by rw [hsl]; exact k2_hasslot (q4 k h2)) rfl rfl hd done
        · rw [if_pos hf1] at hlay
          have hcf : m.cls = cf := by
            obtain ⟨_, _, c', _, _, _, -, -, hf', -, -, -, hown2, -⟩ := Cond.laysFinal_spec hlay
            have e1 : c' = cf := by have := hi.symm.trans hf'; simp at this; exact this.1.symm
            dsimp only at hf3
            rw [hf3] at hown2
            rw [← e1]; exact Option.some.inj (hown.symm.trans hown2)
          have h6 := u_fits hfc hkC hkind (Or.inr hlay) hi t1 t2 t3
          exact W.putFinK hx hb hown (hts _ h4) hi hst hcf (hnm.trans hf2) (by rw [q2]; exact h6) q1 q3 (by rw [hsl]; exact k2_hasslot (q4 k h2)) rfl rfl hd done
  · exact absurd hop id
theorem ss_iald {nx : Nat} (hd : decode cc pc = .ok (.iaload, 1)) (hn : pc + 1 = nx) : sa_Sim X own cc nL rt nm fr lr pc (so_iald nx) := by
  intro p l e R s m args below meth c D cI kS b z lc lsl Q hC lo st hs rc rs K H locs ls cells slots hA hop kk
  obtain ⟨hx, hb, hml, hown, hts, hK, -⟩ := hC
  subst hn
  rcases st with _ | ⟨i | r, _ | ⟨x | ((_ | a) | j), st⟩⟩
  · exact absurd hop id
  · exact absurd hop id
  · exact absurd hop id
  · exact absurd hop id
  · cases he : sa_nth hs a with
    | none => simp only [so_iald, he] at hop
    | some e =>
      rcases e with (⟨n, f⟩ | e) | e
      · simp only [so_iald, he] at hop
        exact va_iald hx hb hK.1 hA.2.1 a 0 (sa_ws_get he) rfl hop.1 hd (kk (pc + 1) lo (.inl (f i.toNatClampNeg) :: st) hs rc rs H locs ls cells slots hA hop.2)
      · simp only [so_iald, he] at hop
      · simp only [so_iald, he] at hop
  · exact absurd hop id
  · exact absurd hop id
  · exact absurd hop id
  · exact absurd hop id
  · exact absurd hop id
  · exact absurd hop id
theorem ss_iast {nx : Nat} (hd : decode cc pc = .ok (.iastore, 1)) (hn : pc + 1 = nx) : sa_Sim X own cc nL rt nm fr lr pc (so_iast nx) := by
  intro p l e R s m args below meth c D cI kS b z lc lsl Q hC lo st hs rc rs K H locs ls cells slots hA hop kk
  obtain ⟨hx, hb, hml, hown, hts, hK, -⟩ := hC
  subst hn
  rcases st with _ | ⟨x | r, _ | ⟨i | r2, _ | ⟨y | ((_ | a) | j), st⟩⟩⟩ <;> try (exact absurd hop id)
  cases he : sa_nth hs a with
  | none => simp only [so_iast, he] at hop
  | some e =>
    rcases e with (⟨n, f⟩ | e) | e
    · simp only [so_iast, he] at hop
      obtain ⟨hin, hop⟩ := hop
      obtain ⟨hl, hP, hsz, hS, hcc, hss⟩ := hA
      have hw := sa_ws_get (b := b) (kS := kS) (cI := cI) he
      have hD := sa_ws_D b kS cI hs
      refine W.iast hx hb (hP a _ hw) ((hK.1.2 0 _ rfl).1 n (fun j => .int (f j))) (fun q => by cases q) (by show ¬ (i < 0 ∨ (arrV _ _ _).slots.size ≤ _); rw [arrV_size]; exact hin) rfl rfl hd fun H1 e1 z1 oq => ?_
      refine kk (pc + 1) lo st _ rc rs H1 _ ls cells slots ⟨hl, ?_, ?_, hS.put z1 oq (Nat.le_add_right b a), hcc, hss⟩ hop
      · rw [← sa_ws_set]
        refine hP.set hD hw ?_ oq
        show H1[b + a]? = some (vp_cell _ _)
        rw [e1]
        rw [vp_cell_i, vp_cell_i, arrV_store]
        congr 2
        funext q
        by_cases hq : q = i.toNatClampNeg
        · subst hq
          simp [updV, upd]
        · simp [updV, upd, hq]
      · rw [z1, hsz, sa_put_eq]; simp
    · simp only [so_iast, he] at hop
    · simp only [so_iast, he] at hop
theorem ss_alen {nx : Nat} (hd : decode cc pc = .ok (.arraylength, 1)) (hn : pc + 1 = nx) : sa_Sim X own cc nL rt nm fr lr pc (so_alen nx) := by
  intro p l e R s m args below meth c D cI kS b z lc lsl Q hC lo st hs rc rs K H locs ls cells slots hA hop kk
  obtain ⟨hx, hb, hml, hown, hts, hK, -⟩ := hC
  subst hn
  rcases st with _ | ⟨x | ((_ | a) | j), st⟩ <;> try (exact absurd hop id)
  cases he : sa_nth hs a with
  | none => simp only [so_alen, he] at hop
  | some e =>
    rcases e with (⟨n, f⟩ | e) | e
    · simp only [so_alen, he] at hop
      exact va_alen hx hb hK.1 hA.2.1 a 0 (sa_ws_get he) rfl rfl hd (kk (pc + 1) lo (.inl (Int32.ofNat n) :: st) hs rc rs H locs ls cells slots hA hop)
    · simp only [so_alen, he] at hop
    · simp only [so_alen, he] at hop
theorem sa_push {X : sa_X} {D : va_G} {cI : ClassId × ClassId} {kS : Nat → Nat} {b : Nat} {hs : sa_H} {e : sa_E} {H H1 : Heap} (hP : va_P D X.1 (sa_ws b kS cI hs) H) (hz : H.size = b + hs.length) (he : va_at D X.1 (b + hs.length, sa_e b kS cI e) H1) (ho : ∀ q, q < H.size → H1[q]? = H[q]?) : va_P D X.1 (sa_ws b kS cI (hs ++ [e])) H1 := by
  rw [sa_ws_push]
  refine (hP.kept (fun k x hx => ho x.1 ((hP k x hx).lt))).app (fun k x hx => ?_)
  have hk : k < 1 := (List.getElem?_eq_some_iff.mp hx).1
  rw [show k = 0 by omega] at hx
  cases hx
  exact he
theorem ss_new {nx ci N index : Nat} {fs : List sa_V} {C : String} {T : u_T} (hd : decode cc pc = .ok (.new index, 3)) (h1 : X.1[ci]? = some (C, T, N)) (h3 : ∀ w ∈ u_ws C T N, w ∈ X.2.1) (ty : Nat → FieldType) (hty : ∀ k, k < N → parseFieldDescriptor (T k).2.2.1 = some (ty k)) (hcl : Cond.classLink own index C ∈ X.2.1) (hins : Cond.instantiable C N ∈ X.2.1) (hini : Cond.initialized C ∈ X.2.1)
    (hfs : ∀ (b : Nat) (kS : Nat → Nat) (j : Nat), j < N → defaultValue (ty j) = vp_V (fs.map (sa_v b kS)) j) (hn : pc + 3 = nx) : sa_Sim X own cc nL rt nm fr lr pc (so_new ci N fs nx) := by
  intro p l e R s m args below meth c D cI kS b z lc lsl Q hC lo st hs rc rs K H locs ls cells slots hA hop kk
  obtain ⟨hx, hb, hml, hown, hts, hK, hlk, hr, hnm, hfr, hlo, hrc, hrs, hbz, hz, hX⟩ := hC
  obtain ⟨hl, hP, hsz, hS, hcc, hss⟩ := hA
  subst hn
  obtain ⟨k1, k2, hop⟩ := hop
  dsimp only at k1 k2
  have hzb : z = b := hz (by omega)
  subst hzb
  have hKn := hK.1.1 ci _ h1
  refine W.newcK hx hb hown (hts _ hcl) (hts _ hins) (hts _ hini) rfl hd (by omega) (by omega) hKn.2.1 hsz fun H1 kC hkC e1 z1 o1 => ?_
  refine kk (pc + 3) lo (.inr (.inl (some hs.length)) :: st) (hs ++ [.inr (ci, fs)]) (rc - 1) (rs - N) H1 locs ls (cells + 1) (slots + N) ⟨hl, sa_push (e := .inr (ci, fs)) hP hsz ⟨_, h1, (u_born ty hts h3 hKn hkC e1 hty).to (hfs z kS)⟩ (fun q hq => o1 q (by omega)), by rw [z1]; simp; omega, ⟨Nat.le_trans hS.1 (by omega), fun x q1 q2 => (o1 x (by have := hS.1; omega)).trans (hS.2.1 x q1 q2), hS.2.2⟩, by omega, by omega⟩ hop
theorem ss_newa {nx : Nat} (hd : decode cc pc = .ok (.newarray .int, 2)) (har : Cond.arrayClass .int ∈ X.2.1) (hn : pc + 2 = nx) : sa_Sim X own cc nL rt nm fr lr pc (so_newa nx) := by
  intro p l e R s m args below meth c D cI kS b z lc lsl Q hC lo st hs rc rs K H locs ls cells slots hA hop kk
  obtain ⟨hx, hb, hml, hown, hts, hK, hlk, hr, hnm, hfr, hlo, hrc, hrs, hbz, hz, hX⟩ := hC
  obtain ⟨hl, hP, hsz, hS, hcc, hss⟩ := hA
  subst hn
  rcases st with _ | ⟨n | r, st⟩ <;> try (exact absurd hop id)
  obtain ⟨n0, n1, k1, k2, hop⟩ := hop
  dsimp only at k1 k2
  have hzb : z = b := hz (by omega)
  subst hzb
  refine va_newaK (atype := .int) hx hb (hts _ har) rfl hd rfl n0 rfl (by show n.toNatClampNeg * componentBytes .int ≤ _; exact n1) (by omega) (by omega) hsz fun H1 cA e1 z1 o1 hAr hNm => ?_
  have hcA : cA = cI.1 := Option.some.inj (hNm.symm.trans (hK.1.2 0 _ rfl).2)
  subst hcA
  refine kk (pc + 2) lo (.inr (.inl (some hs.length)) :: st) (hs ++ [.inl (.inl (n.toNatClampNeg, fun _ => 0))]) (rc - 1) (rs - n.toNatClampNeg) H1 locs ls (cells + 1) (slots + n.toNatClampNeg) ⟨hl, sa_push (e := .inl (.inl (n.toNatClampNeg, fun _ => 0))) hP hsz (by show H1[_]? = some (vp_cell _ _); rw [vp_cell_i]; exact e1) (fun q hq => o1 q (by omega)), by rw [z1]; simp; omega, ⟨Nat.le_trans hS.1 (by omega), fun x q1 q2 => (o1 x (by have := hS.1; omega)).trans (hS.2.1 x q1 q2), hS.2.2⟩, by omega, by omega⟩ hop
theorem sa_sum (b : Nat) (kS : Nat → Nat) : ∀ (st : List sa_V), ((st.map (sa_v b kS)).map fun v => v.category).sum = st.length
  | [] => rfl
  | a :: st => by
    simp only [List.map_cons, List.sum_cons, sa_v_cat, sa_sum b kS st, List.length_cons]
    omega
theorem ss_obj {nx index : Nat} (hd : decode cc pc = .ok (.invokespecial index, 3)) (h1 : Cond.methodLink own index Lib.objectInit ∈ X.2.1) (h2 : Cond.instanceMethod Lib.objectInit ∈ X.2.1) (h3 : Cond.code Lib.objectInit ⟨#[0xb1]⟩ 1 none ∈ X.2.1) (hf0 : 1 ≤ fr) (hl0 : 20 ≤ lr) (hn : pc + 3 = nx) : sa_Sim X own cc nL rt nm fr lr pc (so_obj nx) := by
  intro p l e R s m args below meth c D cI kS b z lc lsl Q hC lo st hs rc rs K H locs ls cells slots hA hop kk
  obtain ⟨hx, hb, hml, hown, hts, hK, hlk, hr, hnm, hfr, hlo, hrc, hrs, hbz, hz, hX⟩ := hC
  subst hn
  rcases st with _ | ⟨x | ((_ | a) | j), st⟩ <;> try (exact absurd hop id)
  have hl := hA.1
  have hlr := lv_room (m := m) (pc := pc) (ls := ls) (rest := st.map (sa_v b kS)) (st := st.map (sa_v b kS)) (by rw [sa_sum]; exact hop.1)
  refine W.objInit hx hb hown (hts _ h1) (hts _ h2) (hts _ h3) rfl (by rw [hml]; exact hl.1) rfl hd (by omega) ?_ (kk (pc + 3) lo st hs rc rs H locs ls cells slots hA hop.2)
  have e : (F0 m pc ls (List.map (sa_v b kS) (Sum.inr (Sum.inl (some a)) :: st))).monitorRoom = (F0 m pc ls (st.map (sa_v b kS))).monitorRoom := rfl
  rw [e, hlo]
  omega
theorem ss_ldc {nx index : Nat} {v : Int32} (hd : decode cc pc = .ok (.ldc index, 2)) (h1 : Cond.constant own index v ∈ X.2.1) (hn : pc + 2 = nx) : sa_Sim X own cc nL rt nm fr lr pc (so_push (.inl v) nx) := by
  intro p l e R s m args below meth c D cI kS b z lc lsl Q hC lo st hs rc rs K H locs ls cells slots hA hop kk
  obtain ⟨hx, hb, hml, hown, hts, hK, -⟩ := hC
  subst hn
  exact lv_ldc hx hb hown (hts _ h1) hd (kk (pc + 2) lo (.inl v :: st) hs rc rs H locs ls cells slots hA hop)
end SSB
