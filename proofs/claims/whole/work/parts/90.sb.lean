/-! THE SIMULATIONS ANEW, FOR ANY END: a place of the small machine, and that the real one goes on from it -/
def sb_Cx (X : sa_X) (own : String) (cc : ByteArray) (nL fr lo : Nat) (p : Program) (R : Room) (s : State) (m : MethodId) (args : Array Value) (c : Code) (D : va_G) (cI : ClassId × ClassId) (kS : Nat → Nat) (b lc lsl : Nat) : Prop :=
  p.tables.exec = Jvm.exec ∧ c.code = cc ∧ c.maxLocals = nL ∧ s.vm.findClass own = some m.cls ∧ (∀ w ∈ X.2.1, w.before args s = true) ∧ sa_K X D cI kS b s ∧ R.frames = fr ∧ R.locals = lo ∧ R.cells = lc ∧ R.slots = lsl ∧ sa_ok X
def sb_P (X : sa_X) (al : Prop) (nL : Nat) (p : Program) (l : Launch) (e : Env) (R : Room) (s : State) (m : MethodId) (args : Array Value) (below : List Frame) (meth : Method) (c : Code) (D : va_G) (cI : ClassId × ClassId) (kS : Nat → Nat) (b lc lsl : Nat) (Z : State → Prop) (g : sa_G) : Prop :=
  ∀ z, b ≤ z → (al → z = b) → ∀ (H : Heap) (locs : List Loc) (ls : Array Slot) (cells slots : Nat), sa_At X nL s D cI kS b z lc lsl g.2.1 g.2.2.2.1 g.2.2.2.2.1 g.2.2.2.2.2 H locs ls cells slots → W p l e R s m args below meth c H locs cells slots Z (F0 m g.1 ls (g.2.2.1.map (sa_v b kS)))
def sb_T (P : sa_G → Prop) (pc : Nat) (op : sa_O) : Prop := ∀ (lo : List (Option sa_V)) (st : List sa_V) (hs : sa_H) (rc rs : Nat), op (pc, lo, st, hs, rc, rs) P (fun _ _ => False) → P (pc, lo, st, hs, rc, rs)
theorem sb_sound {P : sa_G → Prop} {tbl : sa_T} (hall : sa_all (sb_T P) tbl) (g : sa_G) (h : sa_w tbl g (fun _ _ => False)) : P g := h P (fun g' op ho hq => by
  obtain ⟨pc, lo, st, hs, rc, rs⟩ := g'
  exact sa_all_at tbl pc op hall ho lo st hs rc rs hq)
section SBA
variable {X : sa_X} {al : Prop} {own : String} {cc : ByteArray} {nL fr lr : Nat} {pc : Nat} {p : Program} {l : Launch} {e : Env} {R : Room} {s : State} {m : MethodId} {args : Array Value} {below : List Frame} {meth : Method} {c : Code} {D : va_G} {cI : ClassId × ClassId} {kS : Nat → Nat} {b lc lsl : Nat} {Z : State → Prop}
variable {y : MethodName} {cc' : ByteArray} {nL' : Nat} {rt' : Option FieldType} {fr' lo' : Nat} {ct : sa_C} {n lc' ls' nx index : Nat}
theorem sb_iconst (hC : sb_Cx X own cc nL fr lr p R s m args c D cI kS b lc lsl) {nx : Nat} {n : Int} {v : Int32} (hd : decode cc pc = .ok (.iconst n, 1)) (hv : Int32.ofInt n = v) (hn : pc + 1 = nx) : sb_T (sb_P X al nL p l e R s m args below meth c D cI kS b lc lsl Z) pc (so_push (.inl v) nx) := by
  intro lo st hs rc rs hop z hbz hz H locs ls cells slots hA
  change sa_At X nL s D cI kS b z lc lsl lo hs rc rs H locs ls cells slots at hA
  show W p l e R s m args below meth c H locs cells slots Z (F0 m pc ls (st.map (sa_v b kS)))
  have kk := fun (pc' : Nat) (lo' : List (Option sa_V)) (st' : List sa_V) (hs' : sa_H) (rc' rs' : Nat) (H' : Heap) (locs' : List Loc) (ls' : Array Slot) (cells' slots' : Nat) (hA' : sa_At X nL s D cI kS b z lc lsl lo' hs' rc' rs' H' locs' ls' cells' slots') (hK : sb_P X al nL p l e R s m args below meth c D cI kS b lc lsl Z (pc', lo', st', hs', rc', rs')) => hK z hbz hz H' locs' ls' cells' slots' hA'
  obtain ⟨hx, hb, -⟩ := hC
  subst hn
  exact lv_iconst hx hb hd hv (kk (pc + 1) lo (.inl v :: st) hs rc rs H locs ls cells slots hA hop)
theorem sb_bipush (hC : sb_Cx X own cc nL fr lr p R s m args c D cI kS b lc lsl) {nx : Nat} {n : Int} {v : Int32} (hd : decode cc pc = .ok (.bipush n, 2)) (hv : (Int8.ofInt n).toInt32 = v) (hn : pc + 2 = nx) : sb_T (sb_P X al nL p l e R s m args below meth c D cI kS b lc lsl Z) pc (so_push (.inl v) nx) := by
  intro lo st hs rc rs hop z hbz hz H locs ls cells slots hA
  change sa_At X nL s D cI kS b z lc lsl lo hs rc rs H locs ls cells slots at hA
  show W p l e R s m args below meth c H locs cells slots Z (F0 m pc ls (st.map (sa_v b kS)))
  have kk := fun (pc' : Nat) (lo' : List (Option sa_V)) (st' : List sa_V) (hs' : sa_H) (rc' rs' : Nat) (H' : Heap) (locs' : List Loc) (ls' : Array Slot) (cells' slots' : Nat) (hA' : sa_At X nL s D cI kS b z lc lsl lo' hs' rc' rs' H' locs' ls' cells' slots') (hK : sb_P X al nL p l e R s m args below meth c D cI kS b lc lsl Z (pc', lo', st', hs', rc', rs')) => hK z hbz hz H' locs' ls' cells' slots' hA'
  obtain ⟨hx, hb, -⟩ := hC
  subst hn
  exact lv_bipush hx hb hd hv (kk (pc + 2) lo (.inl v :: st) hs rc rs H locs ls cells slots hA hop)
theorem sb_iload_n (hC : sb_Cx X own cc nL fr lr p R s m args c D cI kS b lc lsl) {nx : Nat} {k : Fin 4} {i : Nat} (hi : (k : Nat) = i) (hd : decode cc pc = .ok (.iload_n k, 1)) (hn : pc + 1 = nx) : sb_T (sb_P X al nL p l e R s m args below meth c D cI kS b lc lsl Z) pc (so_iload i nx) := by
  intro lo st hs rc rs hop z hbz hz H locs ls cells slots hA
  change sa_At X nL s D cI kS b z lc lsl lo hs rc rs H locs ls cells slots at hA
  show W p l e R s m args below meth c H locs cells slots Z (F0 m pc ls (st.map (sa_v b kS)))
  have kk := fun (pc' : Nat) (lo' : List (Option sa_V)) (st' : List sa_V) (hs' : sa_H) (rc' rs' : Nat) (H' : Heap) (locs' : List Loc) (ls' : Array Slot) (cells' slots' : Nat) (hA' : sa_At X nL s D cI kS b z lc lsl lo' hs' rc' rs' H' locs' ls' cells' slots') (hK : sb_P X al nL p l e R s m args below meth c D cI kS b lc lsl Z (pc', lo', st', hs', rc', rs')) => hK z hbz hz H' locs' ls' cells' slots' hA'
  obtain ⟨hx, hb, -⟩ := hC
  have hl := hA.1
  subst hn
  cases hk : sa_nth lo i with
  | none => simp only [so_iload, hk] at hop
  | some o =>
    rcases o with _ | (x | r)
    · simp only [so_iload, hk] at hop
    · simp only [so_iload, hk] at hop
      exact lv_iload_n hx hb hd hi (sa_lv_at hl hk) (kk (pc + 1) lo (.inl x :: st) hs rc rs H locs ls cells slots hA hop)
    · simp only [so_iload, hk] at hop
theorem sb_iload (hC : sb_Cx X own cc nL fr lr p R s m args c D cI kS b lc lsl) {nx : Nat} {i : Nat} (hd : decode cc pc = .ok (.iload i, 2)) (hn : pc + 2 = nx) : sb_T (sb_P X al nL p l e R s m args below meth c D cI kS b lc lsl Z) pc (so_iload i nx) := by
  intro lo st hs rc rs hop z hbz hz H locs ls cells slots hA
  change sa_At X nL s D cI kS b z lc lsl lo hs rc rs H locs ls cells slots at hA
  show W p l e R s m args below meth c H locs cells slots Z (F0 m pc ls (st.map (sa_v b kS)))
  have kk := fun (pc' : Nat) (lo' : List (Option sa_V)) (st' : List sa_V) (hs' : sa_H) (rc' rs' : Nat) (H' : Heap) (locs' : List Loc) (ls' : Array Slot) (cells' slots' : Nat) (hA' : sa_At X nL s D cI kS b z lc lsl lo' hs' rc' rs' H' locs' ls' cells' slots') (hK : sb_P X al nL p l e R s m args below meth c D cI kS b lc lsl Z (pc', lo', st', hs', rc', rs')) => hK z hbz hz H' locs' ls' cells' slots' hA'
  obtain ⟨hx, hb, -⟩ := hC
  have hl := hA.1
  subst hn
  cases hk : sa_nth lo i with
  | none => simp only [so_iload, hk] at hop
  | some o =>
    rcases o with _ | (x | r)
    · simp only [so_iload, hk] at hop
    · simp only [so_iload, hk] at hop
      exact lv_iload hx hb hd (sa_lv_at hl hk) (kk (pc + 2) lo (.inl x :: st) hs rc rs H locs ls cells slots hA hop)
    · simp only [so_iload, hk] at hop
theorem sb_aload_n (hC : sb_Cx X own cc nL fr lr p R s m args c D cI kS b lc lsl) {nx : Nat} {k : Fin 4} {i : Nat} (hi : (k : Nat) = i) (hd : decode cc pc = .ok (.aload_n k, 1)) (hn : pc + 1 = nx) : sb_T (sb_P X al nL p l e R s m args below meth c D cI kS b lc lsl Z) pc (so_aload i nx) := by
  intro lo st hs rc rs hop z hbz hz H locs ls cells slots hA
  change sa_At X nL s D cI kS b z lc lsl lo hs rc rs H locs ls cells slots at hA
  show W p l e R s m args below meth c H locs cells slots Z (F0 m pc ls (st.map (sa_v b kS)))
  have kk := fun (pc' : Nat) (lo' : List (Option sa_V)) (st' : List sa_V) (hs' : sa_H) (rc' rs' : Nat) (H' : Heap) (locs' : List Loc) (ls' : Array Slot) (cells' slots' : Nat) (hA' : sa_At X nL s D cI kS b z lc lsl lo' hs' rc' rs' H' locs' ls' cells' slots') (hK : sb_P X al nL p l e R s m args below meth c D cI kS b lc lsl Z (pc', lo', st', hs', rc', rs')) => hK z hbz hz H' locs' ls' cells' slots' hA'
  obtain ⟨hx, hb, -⟩ := hC
  have hl := hA.1
  subst hn
  cases hk : sa_nth lo i with
  | none => simp only [so_aload, hk] at hop
  | some o =>
    rcases o with _ | (x | r)
    · simp only [so_aload, hk] at hop
    · simp only [so_aload, hk] at hop
    · simp only [so_aload, hk] at hop
      have k2 := kk (pc + 1) lo (.inr r :: st) hs rc rs H locs ls cells slots hA hop
      have hv := sa_lv_at hl hk
      rcases r with (_ | a) | j
      · exact lv_aload_nN hx hb hd hi hv k2
      · exact lv_aload_n hx hb hd hi hv k2
      · exact lv_aload_n hx hb hd hi hv k2
theorem sb_istore_n (hC : sb_Cx X own cc nL fr lr p R s m args c D cI kS b lc lsl) {nx : Nat} {k : Fin 4} {i : Nat} (hi : (k : Nat) = i) (hd : decode cc pc = .ok (.istore_n k, 1)) (hni : i < nL) (hn : pc + 1 = nx) : sb_T (sb_P X al nL p l e R s m args below meth c D cI kS b lc lsl Z) pc (so_istore i nx) := by
  intro lo st hs rc rs hop z hbz hz H locs ls cells slots hA
  change sa_At X nL s D cI kS b z lc lsl lo hs rc rs H locs ls cells slots at hA
  show W p l e R s m args below meth c H locs cells slots Z (F0 m pc ls (st.map (sa_v b kS)))
  have kk := fun (pc' : Nat) (lo' : List (Option sa_V)) (st' : List sa_V) (hs' : sa_H) (rc' rs' : Nat) (H' : Heap) (locs' : List Loc) (ls' : Array Slot) (cells' slots' : Nat) (hA' : sa_At X nL s D cI kS b z lc lsl lo' hs' rc' rs' H' locs' ls' cells' slots') (hK : sb_P X al nL p l e R s m args below meth c D cI kS b lc lsl Z (pc', lo', st', hs', rc', rs')) => hK z hbz hz H' locs' ls' cells' slots' hA'
  obtain ⟨hx, hb, -⟩ := hC
  obtain ⟨hl, hA⟩ := hA
  subst hn
  rcases st with _ | ⟨x | r, st⟩
  · exact absurd hop id
  · exact lv_istore_n hx hb hd hi hl hni rfl (fun ls' hl' => kk (pc + 1) (sa_put lo i (some (.inl x))) st hs rc rs H locs ls' cells slots ⟨sa_lv_put (v := .inl x) hl', hA⟩ hop)
  · exact absurd hop id
theorem sb_istore (hC : sb_Cx X own cc nL fr lr p R s m args c D cI kS b lc lsl) {nx : Nat} {i : Nat} (hd : decode cc pc = .ok (.istore i, 2)) (hni : i < nL) (hn : pc + 2 = nx) : sb_T (sb_P X al nL p l e R s m args below meth c D cI kS b lc lsl Z) pc (so_istore i nx) := by
  intro lo st hs rc rs hop z hbz hz H locs ls cells slots hA
  change sa_At X nL s D cI kS b z lc lsl lo hs rc rs H locs ls cells slots at hA
  show W p l e R s m args below meth c H locs cells slots Z (F0 m pc ls (st.map (sa_v b kS)))
  have kk := fun (pc' : Nat) (lo' : List (Option sa_V)) (st' : List sa_V) (hs' : sa_H) (rc' rs' : Nat) (H' : Heap) (locs' : List Loc) (ls' : Array Slot) (cells' slots' : Nat) (hA' : sa_At X nL s D cI kS b z lc lsl lo' hs' rc' rs' H' locs' ls' cells' slots') (hK : sb_P X al nL p l e R s m args below meth c D cI kS b lc lsl Z (pc', lo', st', hs', rc', rs')) => hK z hbz hz H' locs' ls' cells' slots' hA'
  obtain ⟨hx, hb, -⟩ := hC
  obtain ⟨hl, hA⟩ := hA
  subst hn
  rcases st with _ | ⟨x | r, st⟩
  · exact absurd hop id
  · exact lv_istore hx hb hd hl hni rfl (fun ls' hl' => kk (pc + 2) (sa_put lo i (some (.inl x))) st hs rc rs H locs ls' cells slots ⟨sa_lv_put (v := .inl x) hl', hA⟩ hop)
  · exact absurd hop id
theorem sb_iinc (hC : sb_Cx X own cc nL fr lr p R s m args c D cI kS b lc lsl) {nx i : Nat} {n : Int} {d : Int32} (hd : decode cc pc = .ok (.iinc i n, 3)) (hv : Int32.ofInt n = d) (hni : i < nL) (hn : pc + 3 = nx) : sb_T (sb_P X al nL p l e R s m args below meth c D cI kS b lc lsl Z) pc (so_iinc i d nx) := by
  intro lo st hs rc rs hop z hbz hz H locs ls cells slots hA
  change sa_At X nL s D cI kS b z lc lsl lo hs rc rs H locs ls cells slots at hA
  show W p l e R s m args below meth c H locs cells slots Z (F0 m pc ls (st.map (sa_v b kS)))
  have kk := fun (pc' : Nat) (lo' : List (Option sa_V)) (st' : List sa_V) (hs' : sa_H) (rc' rs' : Nat) (H' : Heap) (locs' : List Loc) (ls' : Array Slot) (cells' slots' : Nat) (hA' : sa_At X nL s D cI kS b z lc lsl lo' hs' rc' rs' H' locs' ls' cells' slots') (hK : sb_P X al nL p l e R s m args below meth c D cI kS b lc lsl Z (pc', lo', st', hs', rc', rs')) => hK z hbz hz H' locs' ls' cells' slots' hA'
  obtain ⟨hx, hb, -⟩ := hC
  obtain ⟨hl, hA⟩ := hA
  subst hn
  subst hv
  cases hk : sa_nth lo i with
  | none => simp only [so_iinc, hk] at hop
  | some o =>
    rcases o with _ | (x | r)
    · simp only [so_iinc, hk] at hop
    · simp only [so_iinc, hk] at hop
      have hm : (i, Value.int x) ∈ sa_lv b kS lo := sa_lv_mem.mpr ⟨.inl x, by rw [← sa_nth_eq]; exact hk, rfl⟩
      obtain ⟨j, hj⟩ := List.getElem?_of_mem hm
      exact lv_iinc hx hb hd hl (k := j) hj rfl hni rfl (fun ls' hl' => kk (pc + 3) (sa_put lo i (some (.inl (x + Int32.ofInt n)))) st hs rc rs H locs ls' cells slots ⟨sa_lv_put (v := .inl (x + Int32.ofInt n)) hl', hA⟩ hop)
    · simp only [so_iinc, hk] at hop
theorem sb_iadd (hC : sb_Cx X own cc nL fr lr p R s m args c D cI kS b lc lsl) {nx : Nat} (hd : decode cc pc = .ok (.iadd, 1)) (hn : pc + 1 = nx) : sb_T (sb_P X al nL p l e R s m args below meth c D cI kS b lc lsl Z) pc (so_bin (fun x y => x + y) nx) := by
  intro lo st hs rc rs hop z hbz hz H locs ls cells slots hA
  change sa_At X nL s D cI kS b z lc lsl lo hs rc rs H locs ls cells slots at hA
  show W p l e R s m args below meth c H locs cells slots Z (F0 m pc ls (st.map (sa_v b kS)))
  have kk := fun (pc' : Nat) (lo' : List (Option sa_V)) (st' : List sa_V) (hs' : sa_H) (rc' rs' : Nat) (H' : Heap) (locs' : List Loc) (ls' : Array Slot) (cells' slots' : Nat) (hA' : sa_At X nL s D cI kS b z lc lsl lo' hs' rc' rs' H' locs' ls' cells' slots') (hK : sb_P X al nL p l e R s m args below meth c D cI kS b lc lsl Z (pc', lo', st', hs', rc', rs')) => hK z hbz hz H' locs' ls' cells' slots' hA'
  obtain ⟨hx, hb, -⟩ := hC
  subst hn
  rcases st with _ | ⟨y | r, _ | ⟨x | r2, st⟩⟩
  · exact absurd hop id
  · exact absurd hop id
  · exact lv_iadd hx hb hd (kk (pc + 1) lo (.inl (x + y) :: st) hs rc rs H locs ls cells slots hA hop)
  · exact absurd hop id
  · exact absurd hop id
  · exact absurd hop id
  · exact absurd hop id
theorem sb_isub (hC : sb_Cx X own cc nL fr lr p R s m args c D cI kS b lc lsl) {nx : Nat} (hd : decode cc pc = .ok (.isub, 1)) (hn : pc + 1 = nx) : sb_T (sb_P X al nL p l e R s m args below meth c D cI kS b lc lsl Z) pc (so_bin (fun x y => x - y) nx) := by
  intro lo st hs rc rs hop z hbz hz H locs ls cells slots hA
  change sa_At X nL s D cI kS b z lc lsl lo hs rc rs H locs ls cells slots at hA
  show W p l e R s m args below meth c H locs cells slots Z (F0 m pc ls (st.map (sa_v b kS)))
  have kk := fun (pc' : Nat) (lo' : List (Option sa_V)) (st' : List sa_V) (hs' : sa_H) (rc' rs' : Nat) (H' : Heap) (locs' : List Loc) (ls' : Array Slot) (cells' slots' : Nat) (hA' : sa_At X nL s D cI kS b z lc lsl lo' hs' rc' rs' H' locs' ls' cells' slots') (hK : sb_P X al nL p l e R s m args below meth c D cI kS b lc lsl Z (pc', lo', st', hs', rc', rs')) => hK z hbz hz H' locs' ls' cells' slots' hA'
  obtain ⟨hx, hb, -⟩ := hC
  subst hn
  rcases st with _ | ⟨y | r, _ | ⟨x | r2, st⟩⟩
  · exact absurd hop id
  · exact absurd hop id
  · exact lv_isub hx hb hd (kk (pc + 1) lo (.inl (x - y) :: st) hs rc rs H locs ls cells slots hA hop)
  · exact absurd hop id
  · exact absurd hop id
  · exact absurd hop id
  · exact absurd hop id
theorem sb_iand (hC : sb_Cx X own cc nL fr lr p R s m args c D cI kS b lc lsl) {nx : Nat} (hd : decode cc pc = .ok (.iand, 1)) (hn : pc + 1 = nx) : sb_T (sb_P X al nL p l e R s m args below meth c D cI kS b lc lsl Z) pc (so_bin (fun x y => x &&& y) nx) := by
  intro lo st hs rc rs hop z hbz hz H locs ls cells slots hA
  change sa_At X nL s D cI kS b z lc lsl lo hs rc rs H locs ls cells slots at hA
  show W p l e R s m args below meth c H locs cells slots Z (F0 m pc ls (st.map (sa_v b kS)))
  have kk := fun (pc' : Nat) (lo' : List (Option sa_V)) (st' : List sa_V) (hs' : sa_H) (rc' rs' : Nat) (H' : Heap) (locs' : List Loc) (ls' : Array Slot) (cells' slots' : Nat) (hA' : sa_At X nL s D cI kS b z lc lsl lo' hs' rc' rs' H' locs' ls' cells' slots') (hK : sb_P X al nL p l e R s m args below meth c D cI kS b lc lsl Z (pc', lo', st', hs', rc', rs')) => hK z hbz hz H' locs' ls' cells' slots' hA'
  obtain ⟨hx, hb, -⟩ := hC
  subst hn
  rcases st with _ | ⟨y | r, _ | ⟨x | r2, st⟩⟩
  · exact absurd hop id
  · exact absurd hop id
  · exact lv_iand hx hb hd (kk (pc + 1) lo (.inl (x &&& y) :: st) hs rc rs H locs ls cells slots hA hop)
  · exact absurd hop id
  · exact absurd hop id
  · exact absurd hop id
  · exact absurd hop id
theorem sb_if_eq (hC : sb_Cx X own cc nL fr lr p R s m args c D cI kS b lc lsl) {tgt nx : Nat} {off : Int} (hd : decode cc pc = .ok (.ifCond .eq off, 3)) (ht : (pc : Int) + off = (tgt : Int)) (hn : pc + 3 = nx) : sb_T (sb_P X al nL p l e R s m args below meth c D cI kS b lc lsl Z) pc (so_if (fun x => x = 0) tgt nx) := by
  intro lo st hs rc rs hop z hbz hz H locs ls cells slots hA
  change sa_At X nL s D cI kS b z lc lsl lo hs rc rs H locs ls cells slots at hA
  show W p l e R s m args below meth c H locs cells slots Z (F0 m pc ls (st.map (sa_v b kS)))
  have kk := fun (pc' : Nat) (lo' : List (Option sa_V)) (st' : List sa_V) (hs' : sa_H) (rc' rs' : Nat) (H' : Heap) (locs' : List Loc) (ls' : Array Slot) (cells' slots' : Nat) (hA' : sa_At X nL s D cI kS b z lc lsl lo' hs' rc' rs' H' locs' ls' cells' slots') (hK : sb_P X al nL p l e R s m args below meth c D cI kS b lc lsl Z (pc', lo', st', hs', rc', rs')) => hK z hbz hz H' locs' ls' cells' slots' hA'
  obtain ⟨hx, hb, -⟩ := hC
  subst hn
  rcases st with _ | ⟨x | r, st⟩
  · exact absurd hop id
  · exact lv_if_eq hx hb hd ht (fun q => kk tgt lo st hs rc rs H locs ls cells slots hA (hop.1 q)) (fun q => kk (pc + 3) lo st hs rc rs H locs ls cells slots hA (hop.2 q))
  · exact absurd hop id
theorem sb_if_ne (hC : sb_Cx X own cc nL fr lr p R s m args c D cI kS b lc lsl) {tgt nx : Nat} {off : Int} (hd : decode cc pc = .ok (.ifCond .ne off, 3)) (ht : (pc : Int) + off = (tgt : Int)) (hn : pc + 3 = nx) : sb_T (sb_P X al nL p l e R s m args below meth c D cI kS b lc lsl Z) pc (so_if (fun x => x = 0) nx tgt) := by
  intro lo st hs rc rs hop z hbz hz H locs ls cells slots hA
  change sa_At X nL s D cI kS b z lc lsl lo hs rc rs H locs ls cells slots at hA
  show W p l e R s m args below meth c H locs cells slots Z (F0 m pc ls (st.map (sa_v b kS)))
  have kk := fun (pc' : Nat) (lo' : List (Option sa_V)) (st' : List sa_V) (hs' : sa_H) (rc' rs' : Nat) (H' : Heap) (locs' : List Loc) (ls' : Array Slot) (cells' slots' : Nat) (hA' : sa_At X nL s D cI kS b z lc lsl lo' hs' rc' rs' H' locs' ls' cells' slots') (hK : sb_P X al nL p l e R s m args below meth c D cI kS b lc lsl Z (pc', lo', st', hs', rc', rs')) => hK z hbz hz H' locs' ls' cells' slots' hA'
  obtain ⟨hx, hb, -⟩ := hC
  subst hn
  rcases st with _ | ⟨x | r, st⟩
  · exact absurd hop id
  · exact lv_if_ne hx hb hd ht (fun q => kk tgt lo st hs rc rs H locs ls cells slots hA (hop.2 q)) (fun q => kk (pc + 3) lo st hs rc rs H locs ls cells slots hA (hop.1 q))
  · exact absurd hop id
theorem sb_icmp_eq (hC : sb_Cx X own cc nL fr lr p R s m args c D cI kS b lc lsl) {tgt nx : Nat} {off : Int} (hd : decode cc pc = .ok (.if_icmp .eq off, 3)) (ht : (pc : Int) + off = (tgt : Int)) (hn : pc + 3 = nx) : sb_T (sb_P X al nL p l e R s m args below meth c D cI kS b lc lsl Z) pc (so_cmp (fun x y => x = y) tgt nx) := by
  intro lo st hs rc rs hop z hbz hz H locs ls cells slots hA
  change sa_At X nL s D cI kS b z lc lsl lo hs rc rs H locs ls cells slots at hA
  show W p l e R s m args below meth c H locs cells slots Z (F0 m pc ls (st.map (sa_v b kS)))
  have kk := fun (pc' : Nat) (lo' : List (Option sa_V)) (st' : List sa_V) (hs' : sa_H) (rc' rs' : Nat) (H' : Heap) (locs' : List Loc) (ls' : Array Slot) (cells' slots' : Nat) (hA' : sa_At X nL s D cI kS b z lc lsl lo' hs' rc' rs' H' locs' ls' cells' slots') (hK : sb_P X al nL p l e R s m args below meth c D cI kS b lc lsl Z (pc', lo', st', hs', rc', rs')) => hK z hbz hz H' locs' ls' cells' slots' hA'
  obtain ⟨hx, hb, -⟩ := hC
  subst hn
  rcases st with _ | ⟨y | r, _ | ⟨x | r2, st⟩⟩
  · exact absurd hop id
  · exact absurd hop id
  · exact lv_icmp_eq hx hb hd ht (fun q => kk tgt lo st hs rc rs H locs ls cells slots hA (hop.1 q)) (fun q => kk (pc + 3) lo st hs rc rs H locs ls cells slots hA (hop.2 q))
  · exact absurd hop id
  · exact absurd hop id
  · exact absurd hop id
  · exact absurd hop id
theorem sb_icmp_ne (hC : sb_Cx X own cc nL fr lr p R s m args c D cI kS b lc lsl) {tgt nx : Nat} {off : Int} (hd : decode cc pc = .ok (.if_icmp .ne off, 3)) (ht : (pc : Int) + off = (tgt : Int)) (hn : pc + 3 = nx) : sb_T (sb_P X al nL p l e R s m args below meth c D cI kS b lc lsl Z) pc (so_cmp (fun x y => x = y) nx tgt) := by
  intro lo st hs rc rs hop z hbz hz H locs ls cells slots hA
  change sa_At X nL s D cI kS b z lc lsl lo hs rc rs H locs ls cells slots at hA
  show W p l e R s m args below meth c H locs cells slots Z (F0 m pc ls (st.map (sa_v b kS)))
  have kk := fun (pc' : Nat) (lo' : List (Option sa_V)) (st' : List sa_V) (hs' : sa_H) (rc' rs' : Nat) (H' : Heap) (locs' : List Loc) (ls' : Array Slot) (cells' slots' : Nat) (hA' : sa_At X nL s D cI kS b z lc lsl lo' hs' rc' rs' H' locs' ls' cells' slots') (hK : sb_P X al nL p l e R s m args below meth c D cI kS b lc lsl Z (pc', lo', st', hs', rc', rs')) => hK z hbz hz H' locs' ls' cells' slots' hA'
  obtain ⟨hx, hb, -⟩ := hC
  subst hn
  rcases st with _ | ⟨y | r, _ | ⟨x | r2, st⟩⟩
  · exact absurd hop id
  · exact absurd hop id
  · exact lv_icmp_ne hx hb hd ht (fun q => kk tgt lo st hs rc rs H locs ls cells slots hA (hop.2 q)) (fun q => kk (pc + 3) lo st hs rc rs H locs ls cells slots hA (hop.1 q))
  · exact absurd hop id
  · exact absurd hop id
  · exact absurd hop id
  · exact absurd hop id
theorem sb_icmp_gt (hC : sb_Cx X own cc nL fr lr p R s m args c D cI kS b lc lsl) {tgt nx : Nat} {off : Int} (hd : decode cc pc = .ok (.if_icmp .gt off, 3)) (ht : (pc : Int) + off = (tgt : Int)) (hn : pc + 3 = nx) : sb_T (sb_P X al nL p l e R s m args below meth c D cI kS b lc lsl Z) pc (so_cmp (fun x y => y < x) tgt nx) := by
  intro lo st hs rc rs hop z hbz hz H locs ls cells slots hA
  change sa_At X nL s D cI kS b z lc lsl lo hs rc rs H locs ls cells slots at hA
  show W p l e R s m args below meth c H locs cells slots Z (F0 m pc ls (st.map (sa_v b kS)))
  have kk := fun (pc' : Nat) (lo' : List (Option sa_V)) (st' : List sa_V) (hs' : sa_H) (rc' rs' : Nat) (H' : Heap) (locs' : List Loc) (ls' : Array Slot) (cells' slots' : Nat) (hA' : sa_At X nL s D cI kS b z lc lsl lo' hs' rc' rs' H' locs' ls' cells' slots') (hK : sb_P X al nL p l e R s m args below meth c D cI kS b lc lsl Z (pc', lo', st', hs', rc', rs')) => hK z hbz hz H' locs' ls' cells' slots' hA'
  obtain ⟨hx, hb, -⟩ := hC
  subst hn
  rcases st with _ | ⟨y | r, _ | ⟨x | r2, st⟩⟩
  · exact absurd hop id
  · exact absurd hop id
  · exact lv_icmp_gt hx hb hd ht (fun q => kk tgt lo st hs rc rs H locs ls cells slots hA (hop.1 q)) (fun q => kk (pc + 3) lo st hs rc rs H locs ls cells slots hA (hop.2 q))
  · exact absurd hop id
  · exact absurd hop id
  · exact absurd hop id
  · exact absurd hop id
theorem sb_goto (hC : sb_Cx X own cc nL fr lr p R s m args c D cI kS b lc lsl) {tgt : Nat} {off : Int} (hd : decode cc pc = .ok (.goto off, 3)) (ht : (pc : Int) + off = (tgt : Int)) : sb_T (sb_P X al nL p l e R s m args below meth c D cI kS b lc lsl Z) pc (so_goto tgt) := by
  intro lo st hs rc rs hop z hbz hz H locs ls cells slots hA
  change sa_At X nL s D cI kS b z lc lsl lo hs rc rs H locs ls cells slots at hA
  show W p l e R s m args below meth c H locs cells slots Z (F0 m pc ls (st.map (sa_v b kS)))
  have kk := fun (pc' : Nat) (lo' : List (Option sa_V)) (st' : List sa_V) (hs' : sa_H) (rc' rs' : Nat) (H' : Heap) (locs' : List Loc) (ls' : Array Slot) (cells' slots' : Nat) (hA' : sa_At X nL s D cI kS b z lc lsl lo' hs' rc' rs' H' locs' ls' cells' slots') (hK : sb_P X al nL p l e R s m args below meth c D cI kS b lc lsl Z (pc', lo', st', hs', rc', rs')) => hK z hbz hz H' locs' ls' cells' slots' hA'
  obtain ⟨hx, hb, -⟩ := hC
  exact lv_goto hx hb hd ht (kk tgt lo st hs rc rs H locs ls cells slots hA hop)
theorem sb_dup (hC : sb_Cx X own cc nL fr lr p R s m args c D cI kS b lc lsl) {nx : Nat} (hd : decode cc pc = .ok (.dup, 1)) (hn : pc + 1 = nx) : sb_T (sb_P X al nL p l e R s m args below meth c D cI kS b lc lsl Z) pc (so_dup nx) := by
  intro lo st hs rc rs hop z hbz hz H locs ls cells slots hA
  change sa_At X nL s D cI kS b z lc lsl lo hs rc rs H locs ls cells slots at hA
  show W p l e R s m args below meth c H locs cells slots Z (F0 m pc ls (st.map (sa_v b kS)))
  have kk := fun (pc' : Nat) (lo' : List (Option sa_V)) (st' : List sa_V) (hs' : sa_H) (rc' rs' : Nat) (H' : Heap) (locs' : List Loc) (ls' : Array Slot) (cells' slots' : Nat) (hA' : sa_At X nL s D cI kS b z lc lsl lo' hs' rc' rs' H' locs' ls' cells' slots') (hK : sb_P X al nL p l e R s m args below meth c D cI kS b lc lsl Z (pc', lo', st', hs', rc', rs')) => hK z hbz hz H' locs' ls' cells' slots' hA'
  obtain ⟨hx, hb, -⟩ := hC
  subst hn
  rcases st with _ | ⟨v, st⟩
  · exact absurd hop id
  · exact lv_dup hx hb hd (sa_v_cat _ _ _) (kk (pc + 1) lo (v :: v :: st) hs rc rs H locs ls cells slots hA hop)
theorem sb_get (hC : sb_Cx X own cc nL fr lr p R s m args c D cI kS b lc lsl) {nx k index : Nat} {cis : List Nat} (hd : decode cc pc = .ok (.getfield index, 3)) (hf : ∀ ci ∈ cis, sa_fok X own index ci k) (hn : pc + 3 = nx) : sb_T (sb_P X al nL p l e R s m args below meth c D cI kS b lc lsl Z) pc (so_get cis k nx) := by
  intro lo st hs rc rs hop z hbz hz H locs ls cells slots hA
  change sa_At X nL s D cI kS b z lc lsl lo hs rc rs H locs ls cells slots at hA
  show W p l e R s m args below meth c H locs cells slots Z (F0 m pc ls (st.map (sa_v b kS)))
  have kk := fun (pc' : Nat) (lo' : List (Option sa_V)) (st' : List sa_V) (hs' : sa_H) (rc' rs' : Nat) (H' : Heap) (locs' : List Loc) (ls' : Array Slot) (cells' slots' : Nat) (hA' : sa_At X nL s D cI kS b z lc lsl lo' hs' rc' rs' H' locs' ls' cells' slots') (hK : sb_P X al nL p l e R s m args below meth c D cI kS b lc lsl Z (pc', lo', st', hs', rc', rs')) => hK z hbz hz H' locs' ls' cells' slots' hA'
  obtain ⟨hx, hb, hml, hown, hts, hK, -⟩ := hC
  subst hn
  rcases st with _ | ⟨x | ((_ | a) | j), st⟩
  · exact absurd hop id
  · exact absurd hop id
  · exact absurd hop id
  · cases he : sa_nth hs a with
    | none => simp only [so_get, he] at hop
    | some e =>
      rcases e with x | ⟨ci, fs⟩
      · simp only [so_get, he] at hop
      · cases hv : sa_nth fs k with
        | none => simp only [so_get, he, hv] at hop
        | some v =>
          simp only [so_get, he, hv] at hop
          obtain ⟨C, T, N, h1, h2, h3, h4⟩ := hf ci (List.contains_iff_mem.mp hop.1)
          refine va_get (C := C) (T := T) (N := N) (ci := ci) (fs := fs.map (sa_v b kS)) (v := sa_v b kS v) hx hb hts h3 hown hK.1 hA.2.1 a (sa_ws_get he) h1 k h2 (hts _ h4) (fun _ h => h) ?_ hd (kk (pc + 3) lo (v :: st) hs rc rs H locs ls cells slots hA hop.2)
          rw [sa_nth_eq] at hv
          rw [List.getElem?_map, hv]; rfl
  · exact absurd hop id
theorem sb_new (hC : sb_Cx X own cc nL fr lr p R s m args c D cI kS b lc lsl) {nx ci N index : Nat} {fs : List sa_V} {C : String} {T : u_T} (hd : decode cc pc = .ok (.new index, 3)) (h1 : X.1[ci]? = some (C, T, N)) (h3 : ∀ w ∈ u_ws C T N, w ∈ X.2.1) (ty : Nat → FieldType) (hty : ∀ k, k < N → parseFieldDescriptor (T k).2.2.1 = some (ty k)) (hcl : Cond.classLink own index C ∈ X.2.1) (hins : Cond.instantiable C N ∈ X.2.1) (hini : Cond.initialized C ∈ X.2.1)
    (hfs : ∀ (b : Nat) (kS : Nat → Nat) (j : Nat), j < N → defaultValue (ty j) = vp_V (fs.map (sa_v b kS)) j) (hn : pc + 3 = nx) : sb_T (sb_P X True nL p l e R s m args below meth c D cI kS b lc lsl Z) pc (so_new ci N fs nx) := by
  intro lo st hs rc rs hop z hbz hz H locs ls cells slots hA
  change sa_At X nL s D cI kS b z lc lsl lo hs rc rs H locs ls cells slots at hA
  show W p l e R s m args below meth c H locs cells slots Z (F0 m pc ls (st.map (sa_v b kS)))
  have kk := fun (pc' : Nat) (lo' : List (Option sa_V)) (st' : List sa_V) (hs' : sa_H) (rc' rs' : Nat) (H' : Heap) (locs' : List Loc) (ls' : Array Slot) (cells' slots' : Nat) (hA' : sa_At X nL s D cI kS b z lc lsl lo' hs' rc' rs' H' locs' ls' cells' slots') (hK : sb_P X True nL p l e R s m args below meth c D cI kS b lc lsl Z (pc', lo', st', hs', rc', rs')) => hK z hbz hz H' locs' ls' cells' slots' hA'
  obtain ⟨hx, hb, hml, hown, hts, hK, hfr, hlo, hrc, hrs, hX⟩ := hC
  obtain ⟨hl, hP, hsz, hS, hcc, hss⟩ := hA
  subst hn
  obtain ⟨k1, k2, hop⟩ := hop
  dsimp only at k1 k2
  have hzb : z = b := hz trivial
  subst hzb
  have hKn := hK.1.1 ci _ h1
  refine W.newcK hx hb hown (hts _ hcl) (hts _ hins) (hts _ hini) rfl hd (by omega) (by omega) hKn.2.1 hsz fun H1 kC hkC e1 z1 o1 => ?_
  refine kk (pc + 3) lo (.inr (.inl (some hs.length)) :: st) (hs ++ [.inr (ci, fs)]) (rc - 1) (rs - N) H1 locs ls (cells + 1) (slots + N) ⟨hl, sa_push (e := .inr (ci, fs)) hP hsz ⟨_, h1, (u_born ty hts h3 hKn hkC e1 hty).to (hfs z kS)⟩ (fun q hq => o1 q (by omega)), by rw [z1]; simp; omega, ⟨Nat.le_trans hS.1 (by omega), fun x q1 q2 => (o1 x (by have := hS.1; omega)).trans (hS.2.1 x q1 q2), hS.2.2⟩, by omega, by omega⟩ hop
theorem sb_init (hC : sb_Cx X own cc nL fr lr p R s m args c D cI kS b lc lsl) (hd : decode cc pc = .ok (.invokespecial index, 3)) (hc : sa_cal X y cc' nL' none fr' lo' ct n (n + 1) fr lr) (hli : Cond.methodLink own index y ∈ X.2.1) (hin : Cond.instanceMethod y ∈ X.2.1) (hyn : y.name = "<init>") (hn : pc + 3 = nx) : sb_T (sb_P X True nL p l e R s m args below meth c D cI kS b lc lsl Z) pc (so_init ct n lc' ls' nx) := by
  intro lo st hs rc rs hop z hbz hz H locs ls cells slots hA
  change sa_At X nL s D cI kS b z lc lsl lo hs rc rs H locs ls cells slots at hA
  show W p l e R s m args below meth c H locs cells slots Z (F0 m pc ls (st.map (sa_v b kS)))
  have kk := fun (pc' : Nat) (lo' : List (Option sa_V)) (st' : List sa_V) (hs' : sa_H) (rc' rs' : Nat) (H' : Heap) (locs' : List Loc) (ls' : Array Slot) (cells' slots' : Nat) (hA' : sa_At X nL s D cI kS b z lc lsl lo' hs' rc' rs' H' locs' ls' cells' slots') (hK : sb_P X True nL p l e R s m args below meth c D cI kS b lc lsl Z (pc', lo', st', hs', rc', rs')) => hK z hbz hz H' locs' ls' cells' slots' hA'
  obtain ⟨hx, hb, hml, hown, hts, hK, hfr, hlo, hrc, hrs, hX⟩ := hC
  obtain ⟨hl, hP, hsz, hS, hcc, hss⟩ := hA
  subst hn
  obtain ⟨hM, hcode, hini, hy, hk, hf1, hf2⟩ := hc
  cases hsp : sa_split n st with
  | none => simp only [so_init, hsp] at hop
  | some x =>
    obtain ⟨as, st2⟩ := x
    rcases st2 with _ | ⟨x | ((_ | a) | j), st2⟩ <;> simp only [so_init, hsp] at hop
    obtain ⟨hln, k1, k2, hct⟩ := hop
    obtain ⟨e1, e2⟩ := sa_split_eq n st as _ hsp
    have hM1 := hM l D cI kS b z lc' ls' (.inr (.inl (some a)) :: as) hs _ hbz (fun h => hz trivial) (by simp; omega) hct
    refine sa_back (va_runI (b := b + a) (As := as.map (sa_v b kS)) (rest := st2.map (sa_v b kS)) ⟨hx, hb, hml, hown, hts⟩ hM1 ⟨callB_of n hts (sa_good hX hcode) rfl rfl rfl (hts _ hini) (hts _ hli) hy ⟨by rw [hfr]; exact hf1, by rw [hlo]; exact hf2⟩, hyn, hts _ hin⟩ ⟨sa_blind hX, sa_pre (av := .inr (.inl (some a)) :: as) hX hK hP hsz hS⟩ rfl (by simpa using e2) hl.1 (by rw [e1]; simp [sa_v]) (lv_room (by rw [sa_sum]; exact hln)) hd ⟨by omega, by omega⟩) hS ?_
    intro rv hs' H1 locs1 hQ hP1 hz1 hS1
    have h9 := kk (pc + 3) lo (rv.toList ++ st2) hs' (rc - lc') (rs - ls') H1 locs1 ls (cells + lc') (slots + ls') ⟨hl, hP1, hz1, hS1, by omega, by omega⟩ hQ
    cases rv with
    | none => exact h9
    | some v => exact h9
theorem sb_virt (hC : sb_Cx X own cc nL fr lr p R s m args c D cI kS b lc lsl) {alts : List (Nat × sa_C)} (hd : decode cc pc = .ok (.invokevirtual index, 3)) (hc : ∀ q ∈ alts, sa_alt X own index n fr lr q) (hn : pc + 3 = nx) : sb_T (sb_P X al nL p l e R s m args below meth c D cI kS b lc lsl Z) pc (so_virt alts n 0 0 nx) := by
  intro lo st hs rc rs hop z hbz hz H locs ls cells slots hA
  change sa_At X nL s D cI kS b z lc lsl lo hs rc rs H locs ls cells slots at hA
  show W p l e R s m args below meth c H locs cells slots Z (F0 m pc ls (st.map (sa_v b kS)))
  have kk := fun (pc' : Nat) (lo' : List (Option sa_V)) (st' : List sa_V) (hs' : sa_H) (rc' rs' : Nat) (H' : Heap) (locs' : List Loc) (ls' : Array Slot) (cells' slots' : Nat) (hA' : sa_At X nL s D cI kS b z lc lsl lo' hs' rc' rs' H' locs' ls' cells' slots') (hK : sb_P X al nL p l e R s m args below meth c D cI kS b lc lsl Z (pc', lo', st', hs', rc', rs')) => hK z hbz hz H' locs' ls' cells' slots' hA'
  obtain ⟨hx, hb, hml, hown, hts, hK, hfr, hlo, hrc, hrs, hX⟩ := hC
  obtain ⟨hl, hP, hsz, hS, hcc, hss⟩ := hA
  subst hn
  cases hsp : sa_split n st with
  | none => simp only [so_virt, hsp] at hop
  | some x =>
    obtain ⟨as, st2⟩ := x
    rcases st2 with _ | ⟨x | ((_ | a) | j), st2⟩ <;> simp only [so_virt, hsp] at hop
    cases he : sa_nth hs a with
    | none => simp only [he] at hop
    | some e =>
      rcases e with x | ⟨ci, fs⟩
      · simp only [he] at hop
      · cases hse : sa_sel alts ci with
        | none => simp only [he, hse] at hop
        | some ct =>
          simp only [he, hse] at hop
          obtain ⟨hln, k1, k2, hct⟩ := hop
          obtain ⟨e1, e2⟩ := sa_split_eq n st as _ hsp
          obtain ⟨C, T, N, y, cc', nL', rt', fr', lo', hcl, ⟨hM, hcode, hini, hy, hk, hf1, hf2⟩, hin, hkind⟩ := hc (ci, ct) (sa_sel_in alts ci ct hse)
          have hM1 := hM l D cI kS b z 0 0 (.inr (.inl (some a)) :: as) hs _ hbz (fun h => absurd h (Nat.lt_irrefl 0)) (by simp; omega) hct
          have hrv := va_recv hK.1 hP hcl (sa_ws_get (b := b) (kS := kS) (cI := cI) he)
          have hpv : PreV s H C (b + a) (sa_Pc X D cI kS b z (.inr (.inl (some a)) :: as) hs) (as.map (sa_v b kS)) := ⟨sa_blind hX, hrv, sa_pre (av := .inr (.inl (some a)) :: as) hX hK hP hsz hS⟩
          have hgo : ∀ (rv : Option sa_V) (hs' : sa_H) (H1 : Heap) (locs1 : List Loc), sb_P X al nL p l e R s m args below meth c D cI kS b lc lsl Z (pc + 3, lo, rv.toList ++ st2, hs', rc - 0, rs - 0) → va_P D X.1 (sa_ws b kS cI hs') H1 → H1.size = z + hs'.length → va_S (fun q => b ≤ q) s.heap H1 locs1 → W p l e R s m args below meth c H1 locs1 (cells + 0) (slots + 0) Z (F0 m (pc + 3) ls ((rv.map (sa_v b kS)).toList ++ st2.map (sa_v b kS))) := by
            intro rv hs' H1 locs1 hQ hP1 hz1 hS1
            have h9 := kk (pc + 3) lo (rv.toList ++ st2) hs' (rc - 0) (rs - 0) H1 locs1 ls (cells + 0) (slots + 0) ⟨hl, hP1, hz1, hS1, by omega, by omega⟩ hQ
            cases rv with
            | none => exact h9
            | some v => exact h9
          rcases hkind with ⟨h1, h2⟩ | ⟨x, owner, h1, h2, h3, h4, h5, h6⟩
          · exact sa_back (va_runV (C := C) (b := b + a) (As := as.map (sa_v b kS)) (rest := st2.map (sa_v b kS)) ⟨hx, hb, hml, hown, hts⟩ hM1 ⟨callB_of n hts (sa_good hX hcode) rfl rfl rfl (hts _ hini) (hts _ h1) hy ⟨by rw [hfr]; exact hf1, by rw [hlo]; exact hf2⟩, hts _ hin, hts _ h2⟩ hpv rfl (by simpa using e2) hl.1 (by rw [e1]; simp [sa_v]) (lv_room (by rw [sa_sum]; exact hln)) hd ⟨by omega, by omega⟩) hS hgo
          · have hlen : ∀ sig, parseMethodDescriptor x.desc = some sig → n = sig.parameters.length := by
              intro sig h
              rw [h] at h6
              exact (Option.some.inj h6).symm
            exact sa_back (va_runU (x := x) (owner := owner) (C := C) (b := b + a) (As := as.map (sa_v b kS)) (rest := st2.map (sa_v b kS)) ⟨hx, hb, hml, hown, hts⟩ hM1 ⟨⟨rfl, rfl, by rw [hfr]; exact hf1, by rw [hlo]; exact hf2, pay_in hts (sa_good hX hcode), List.mem_cons_self⟩, hts _ hcode, hts _ hini, h5, hlen, hts _ h1, hts _ h2, va_Decl.abs (hK.2.1 _ h4), hts _ h3, hts _ hin⟩ hpv rfl (by simpa using e2) hl.1 (by rw [e1]; simp [sa_v]) (lv_room (by rw [sa_sum]; exact hln)) hd ⟨by omega, by omega⟩) hS hgo
theorem sb_tab (hC : sb_Cx X own cc nL fr lr p R s m args c D cI kS b lc lsl) {l0 : List (Int32 × Nat)} {d0 : Nat} {dflt lo0 hi0 : Int} {offs : Array Int} {len : Nat} (hd : decode cc pc = .ok (.tableswitch dflt lo0 hi0 offs, len)) (h1 : ∀ x : Int32, (x.toInt < lo0 ∨ hi0 < x.toInt) → (pc : Int) + dflt = (sa_tgt l0 d0 x : Int)) (h2 : ∀ x : Int32, ¬ x.toInt < lo0 → ¬ hi0 < x.toInt → ∃ off, offs[(x.toInt - lo0).toNat]? = some off ∧ (pc : Int) + off = (sa_tgt l0 d0 x : Int)) : sb_T (sb_P X al nL p l e R s m args below meth c D cI kS b lc lsl Z) pc (so_sw l0 d0) := by
  intro lo st hs rc rs hop z hbz hz H locs ls cells slots hA
  change sa_At X nL s D cI kS b z lc lsl lo hs rc rs H locs ls cells slots at hA
  show W p l e R s m args below meth c H locs cells slots Z (F0 m pc ls (st.map (sa_v b kS)))
  have kk := fun (pc' : Nat) (lo' : List (Option sa_V)) (st' : List sa_V) (hs' : sa_H) (rc' rs' : Nat) (H' : Heap) (locs' : List Loc) (ls' : Array Slot) (cells' slots' : Nat) (hA' : sa_At X nL s D cI kS b z lc lsl lo' hs' rc' rs' H' locs' ls' cells' slots') (hK : sb_P X al nL p l e R s m args below meth c D cI kS b lc lsl Z (pc', lo', st', hs', rc', rs')) => hK z hbz hz H' locs' ls' cells' slots' hA'
  obtain ⟨hx, hb, -⟩ := hC
  rcases st with _ | ⟨x | r, st⟩ <;> try (exact absurd hop id)
  have hk := sa_sw_tgt _ _ _ _ hop
  have k9 := kk (sa_tgt l0 d0 x) lo st hs rc rs H locs ls cells slots hA hk
  by_cases q : x.toInt < lo0 ∨ hi0 < x.toInt
  · exact lv_tableOut hx hb hd q (h1 x q) k9
  · have q1 : ¬ x.toInt < lo0 := fun h => q (Or.inl h)
    have q2 : ¬ hi0 < x.toInt := fun h => q (Or.inr h)
    obtain ⟨off, e1, e2⟩ := h2 x q1 q2
    exact lv_tableIn hx hb hd q1 q2 e1 e2 k9
end SBA
