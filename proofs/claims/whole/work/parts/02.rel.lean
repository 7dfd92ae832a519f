/-! THE SMALL MACHINE AND THE REAL ONE -/
def sa_v (b : Nat) (kS : Nat → Nat) : sa_V → Value
  | .inl x => .int x
  | .inr (.inl none) => .null
  | .inr (.inl (some k)) => .ref (b + k)
  | .inr (.inr j) => .ref (kS j)
theorem sa_v_cat (b : Nat) (kS : Nat → Nat) (v : sa_V) : (sa_v b kS v).category = 1 := by
  rcases v with x | ((_ | k) | j) <;> rfl
def sa_e (b : Nat) (kS : Nat → Nat) (cI : ClassId × ClassId) : sa_E → va_E
  | .inl (.inl (n, f)) => .inl (cI.1, n, .inl f)
  | .inl (.inr (n, f)) => .inl (cI.2, n, .inr (.inl f))
  | .inr (ci, fs) => .inr (ci, fs.map (sa_v b kS))
def sa_ws (b : Nat) (kS : Nat → Nat) (cI : ClassId × ClassId) (hs : sa_H) : va_W := hs.mapIdx (fun k e => (b + k, sa_e b kS cI e))
theorem sa_ws_at (b : Nat) (kS : Nat → Nat) (cI : ClassId × ClassId) (hs : sa_H) (k : Nat) : (sa_ws b kS cI hs)[k]? = (hs[k]?).map (fun e => (b + k, sa_e b kS cI e)) := by
  simp [sa_ws]
theorem sa_ws_get {b : Nat} {kS : Nat → Nat} {cI : ClassId × ClassId} {hs : sa_H} {k : Nat} {e : sa_E} (h : sa_nth hs k = some e) : (sa_ws b kS cI hs)[k]? = some (b + k, sa_e b kS cI e) := by
  rw [sa_nth_eq] at h
  rw [sa_ws_at, h]; rfl
theorem sa_ws_set (b : Nat) (kS : Nat → Nat) (cI : ClassId × ClassId) (hs : sa_H) (k : Nat) (e : sa_E) : (sa_ws b kS cI hs).set k (b + k, sa_e b kS cI e) = sa_ws b kS cI (sa_put hs k e) := by
  rw [sa_put_eq]
  apply List.ext_getElem?
  intro j
  rw [List.getElem?_set, sa_ws_at, sa_ws_at, List.getElem?_set]
  have hl : (sa_ws b kS cI hs).length = hs.length := by simp [sa_ws]
  rw [hl]
  by_cases hj : k = j
  · subst hj
    by_cases hk : k < hs.length
    · simp [hk]
    · simp [hk]
  · simp [hj]
theorem sa_ws_push (b : Nat) (kS : Nat → Nat) (cI : ClassId × ClassId) (hs : sa_H) (e : sa_E) : sa_ws b kS cI (hs ++ [e]) = sa_ws b kS cI hs ++ [(b + hs.length, sa_e b kS cI e)] := by
  simp [sa_ws, List.mapIdx_append]
theorem sa_ws_D (b : Nat) (kS : Nat → Nat) (cI : ClassId × ClassId) (hs : sa_H) : va_D (fun q => b ≤ q) (sa_ws b kS cI hs) := by
  have key : ∀ (k : Nat) (q : Nat × va_E), (sa_ws b kS cI hs)[k]? = some q → q.1 = b + k := by
    intro k q hq
    rw [sa_ws_at] at hq
    cases hk : hs[k]? with
    | none => rw [hk] at hq; cases hq
    | some e => rw [hk] at hq; cases hq; rfl
  refine ⟨fun i j p q hp hq e => ?_, fun k q hq => ?_⟩
  · have h1 := key i p hp
    have h2 := key j q hq
    omega
  · have h1 := key k q hq
    show b ≤ q.1
    omega
def sa_lv (b : Nat) (kS : Nat → Nat) (lo : List (Option sa_V)) : List (Nat × Value) := lo.zipIdx.filterMap (fun x => x.1.map (fun v => (x.2, sa_v b kS v)))
theorem sa_lv_mem {b : Nat} {kS : Nat → Nat} {lo : List (Option sa_V)} {q : Nat × Value} : q ∈ sa_lv b kS lo ↔ ∃ v, lo[q.1]? = some (some v) ∧ q.2 = sa_v b kS v := by
  unfold sa_lv
  rw [List.mem_filterMap]
  constructor
  · rintro ⟨⟨o, k⟩, h1, h2⟩
    rw [List.mem_zipIdx_iff_getElem?] at h1
    cases o with
    | none => cases h2
    | some v =>
      simp at h2
      subst h2
      exact ⟨v, h1, rfl⟩
  · rintro ⟨v, h1, h2⟩
    refine ⟨(some v, q.1), ?_, ?_⟩
    · rw [List.mem_zipIdx_iff_getElem?]
      exact h1
    · obtain ⟨k, w⟩ := q
      simp at h2
      subst h2
      rfl
theorem sa_lv_at {b : Nat} {kS : Nat → Nat} {lo : List (Option sa_V)} {ls : Array Slot} {nL k : Nat} {v : sa_V} (h : lv_has ls nL (sa_lv b kS lo)) (hk : sa_nth lo k = some (some v)) : ls[k]? = some (.val (sa_v b kS v)) := by
  rw [sa_nth_eq] at hk
  exact h.2.2 (k, sa_v b kS v) (sa_lv_mem.mpr ⟨v, hk, rfl⟩)
theorem sa_lv_put {b : Nat} {kS : Nat → Nat} {lo : List (Option sa_V)} {ls : Array Slot} {nL k : Nat} {v : sa_V} (h : lv_has ls nL ((k, sa_v b kS v) :: (sa_lv b kS lo).filter (fun q => !(q.1 == k) && !(q.1 + 1 == k && q.2.category == 2)))) : lv_has ls nL (sa_lv b kS (sa_put lo k (some v))) := by
  refine ⟨h.1, h.2.1, fun q hq => h.2.2 q ?_⟩
  rw [sa_put_eq] at hq
  obtain ⟨w, h1, h2⟩ := sa_lv_mem.mp hq
  rw [List.getElem?_set] at h1
  by_cases hk : k = q.1
  · rw [if_pos hk] at h1
    split at h1
    · cases h1
      obtain ⟨i, x⟩ := q
      dsimp only at hk h2
      subst hk; subst h2
      exact List.mem_cons_self
    · cases h1
  · rw [if_neg hk] at h1
    refine List.mem_cons_of_mem _ (List.mem_filter.mpr ⟨sa_lv_mem.mpr ⟨w, h1, h2⟩, ?_⟩)
    rw [h2, sa_v_cat]
    simp
    exact fun e => hk e.symm
/-- the classes, the words that go into every callee, the nest words, the string constants: how many, lengths, bytes; where they are named -/
abbrev sa_X : Type := List vw_C × List Cond × List Cond × (Nat × List Nat × List (List Int32)) × List (String × Nat × String × Nat)
def sa_nwok : Cond → Bool
  | .fieldLinkNest _ _ _ _ _ _ => true
  | .methodLinkNest _ _ _ _ => true
  | .declares _ => true
  | _ => false
def sa_ok (X : sa_X) : Prop := (∀ w ∈ X.2.1, goodWord w = true) ∧ ∀ w ∈ X.2.2.1, sa_nwok w = true
def sa_Zc (U : State) (b : Nat) : Prop := va_Z "java/lang/String" "COMPACT_STRINGS" "Z" (.int 1) (fun q => b ≤ q) U U.heap
def sa_Zf (U : State) (b : Nat) (v : Value) : Prop := va_Z "jdk/internal/util/Preconditions" "SIOOBE_FORMATTER" "Ljava/util/function/BiFunction;" v (fun q => b ≤ q) U U.heap
def sa_K (X : sa_X) (D : va_G) (cI : ClassId × ClassId) (kS : Nat → Nat) (b : Nat) (U : State) : Prop :=
  va_K D X.1 [(cI.1, .int), (cI.2, .long)] U ∧ (∀ w ∈ X.2.2.1, va_Nw w U) ∧ vk_S X.2.2.2.1.1 X.2.2.2.1.2.1 X.2.2.2.1.2.2 kS (fun j => kS (1000 + j)) (fun q => b ≤ q) U U.heap ∧ (∀ q ∈ X.2.2.2.2, vk_R q.1 q.2.1 q.2.2.1 (kS q.2.2.2) U) ∧ sa_Zc U b ∧ (sa_Zf U b .null ∨ sa_Zf U b (.ref (kS 3000)))
theorem sa_K.to {X : sa_X} {D : va_G} {cI : ClassId × ClassId} {kS : Nat → Nat} {b : Nat} {s U : State} (hX : sa_ok X) (h : sa_K X D cI kS b s) (hW : s.WarmedH U.vm) (hq : ∀ q : Nat, q < s.heap.size → ¬ b ≤ q → U.heap[q]? = s.heap[q]?) : sa_K X D cI kS b U := by
  obtain ⟨h1, h2, h3, h4, h5, h6⟩ := h
  have hal := hW.alike
  refine ⟨va_K.moved hal h1, fun w hw => ?_, (vk_S.moved hal h3).kept hq, fun q hq => vk_R.warm hW (h4 q hq), (va_Z.moved hal h5).kept hq, h6.elim (fun h => Or.inl ((va_Z.moved hal h).kept hq)) (fun h => Or.inr ((va_Z.moved hal h).kept hq))⟩
  have hk := hX.2 w hw
  have hz := h2 w hw
  cases w <;> first | exact va_Nw.warmF hW hz | exact va_Nw.warmM hW hz | exact va_Nw.warmD hW hz | exact absurd hk Bool.false_ne_true
theorem sa_K.same {X : sa_X} {D : va_G} {cI : ClassId × ClassId} {kS : Nat → Nat} {b : Nat} {s U : State} (hX : sa_ok X) (h : sa_K X D cI kS b s) (hv : U.vm = s.vm) (hh : U.heap = s.heap) : sa_K X D cI kS b U := by
  obtain ⟨h1, h2, h3, h4, h5, h6⟩ := h
  have hal : s.vm.Alike U.vm := by rw [hv]; exact Vm.Alike.refl _
  have hq : ∀ q : Nat, q < s.heap.size → ¬ (fun q => b ≤ q) q → U.heap[q]? = s.heap[q]? := fun q _ _ => by rw [hh]
  refine ⟨va_K.moved hal h1, fun w hw => ?_, (vk_S.moved hal h3).kept hq, fun q hq => vk_R.same hv (h4 q hq), (va_Z.moved hal h5).kept hq, h6.elim (fun h => Or.inl ((va_Z.moved hal h).kept hq)) (fun h => Or.inr ((va_Z.moved hal h).kept hq))⟩
  have hk := hX.2 w hw
  have hz := h2 w hw
  cases w <;> first | exact absurd hk Bool.false_ne_true | exact va_Nw.same rfl hv.symm hz
/-- a method's start and end -/
def sa_Pc (X : sa_X) (D : va_G) (cI : ClassId × ClassId) (kS : Nat → Nat) (b z : Nat) (av : List sa_V) (hs : sa_H) : Array Value → State → Prop :=
  va_Pc (av.map (sa_v b kS)) (fun U => va_P D X.1 (sa_ws b kS cI hs) U.heap ∧ U.heap.size = z + hs.length ∧ sa_K X D cI kS b U)
def sa_Qc (X : sa_X) (D : va_G) (cI : ClassId × ClassId) (kS : Nat → Nat) (b z : Nat) (Q : sa_Q) : Array Value → State → Outcome → State → Prop := fun _ st oc t =>
  ∃ (rv : Option sa_V) (hs : sa_H), oc = .returned (rv.map (sa_v b kS)) ∧ Q rv hs ∧ va_P D X.1 (sa_ws b kS cI hs) t.heap ∧ t.heap.size = z + hs.length ∧ va_F (fun q => b ≤ q) st t
/-- a called method keeps its contract -/
def sa_Met (X : sa_X) (y : MethodName) (cc : ByteArray) (nL : Nat) (rt : Option FieldType) (fr lo : Nat) (ct : sa_C) : Prop :=
  ∀ (l : Launch) (D : va_G) (cI : ClassId × ClassId) (kS : Nat → Nat) (b z lc lsl : Nat) (av : List sa_V) (hs : sa_H) (Q : sa_Q), b ≤ z → (0 < lc → z = b) → av.length ≤ nL → ct lc lsl av hs Q →
    Met l y (Cond.code y cc nL rt :: X.2.1) { frames := fr, cells := lc, slots := lsl, locals := lo } (sa_Pc X D cI kS b z av hs) (sa_Qc X D cI kS b z Q) lc lsl (fun q => b ≤ q)
/-- what holds in a frame all along -/
def sa_Cx (X : sa_X) (own : String) (cc : ByteArray) (nL : Nat) (rt : Option FieldType) (nm : String) (fr lo : Nat) (p : Program) (R : Room) (s : State) (m : MethodId) (args : Array Value) (meth : Method) (c : Code) (D : va_G) (cI : ClassId × ClassId) (kS : Nat → Nat) (b z lc lsl : Nat) : Prop :=
  p.tables.exec = Jvm.exec ∧ c.code = cc ∧ c.maxLocals = nL ∧ s.vm.findClass own = some m.cls ∧ (∀ w ∈ X.2.1, w.before args s = true) ∧ sa_K X D cI kS b s ∧ meth.locks = false ∧ meth.sig.returnType = rt ∧ meth.name = nm ∧ R.frames = fr ∧ R.locals = lo ∧ R.cells = lc ∧ R.slots = lsl ∧ b ≤ z ∧ (0 < lc → z = b) ∧ sa_ok X
/-- what holds where it stands -/
def sa_At (X : sa_X) (nL : Nat) (s : State) (D : va_G) (cI : ClassId × ClassId) (kS : Nat → Nat) (b z lc lsl : Nat) (lo : List (Option sa_V)) (hs : sa_H) (rc rs : Nat) (H : Heap) (locs : List Loc) (ls : Array Slot) (cells slots : Nat) : Prop :=
  lv_has ls nL (sa_lv b kS lo) ∧ va_P D X.1 (sa_ws b kS cI hs) H ∧ H.size = z + hs.length ∧ va_S (fun q => b ≤ q) s.heap H locs ∧ cells + rc = lc ∧ slots + rs = lsl
/-- a step of the small machine is one of the real one -/
def sa_Sim (X : sa_X) (own : String) (cc : ByteArray) (nL : Nat) (rt : Option FieldType) (nm : String) (fr lr : Nat) (pc : Nat) (op : sa_O) : Prop :=
  ∀ (p : Program) (l : Launch) (e : Env) (R : Room) (s : State) (m : MethodId) (args : Array Value) (below : List Frame) (meth : Method) (c : Code) (D : va_G) (cI : ClassId × ClassId) (kS : Nat → Nat) (b z lc lsl : Nat) (Q : sa_Q),
    sa_Cx X own cc nL rt nm fr lr p R s m args meth c D cI kS b z lc lsl →
    ∀ (lo : List (Option sa_V)) (st : List sa_V) (hs : sa_H) (rc rs : Nat) (K : sa_G → Prop) (H : Heap) (locs : List Loc) (ls : Array Slot) (cells slots : Nat),
      sa_At X nL s D cI kS b z lc lsl lo hs rc rs H locs ls cells slots → op (pc, lo, st, hs, rc, rs) K Q →
      (∀ (pc' : Nat) (lo' : List (Option sa_V)) (st' : List sa_V) (hs' : sa_H) (rc' rs' : Nat) (H' : Heap) (locs' : List Loc) (ls' : Array Slot) (cells' slots' : Nat), sa_At X nL s D cI kS b z lc lsl lo' hs' rc' rs' H' locs' ls' cells' slots' → K (pc', lo', st', hs', rc', rs') →
        W p l e R s m args below meth c H' locs' cells' slots' (MQ below (sa_Qc X D cI kS b z Q) args s lc lsl (fun q => b ≤ q)) (F0 m pc' ls' (st'.map (sa_v b kS)))) →
      W p l e R s m args below meth c H locs cells slots (MQ below (sa_Qc X D cI kS b z Q) args s lc lsl (fun q => b ≤ q)) (F0 m pc ls (st.map (sa_v b kS)))
def sa_all (P : Nat → sa_O → Prop) : sa_T → Prop
  | [] => True
  | (k, o) :: l => P k o ∧ sa_all P l
theorem sa_all_at {P : Nat → sa_O → Prop} : ∀ (l : sa_T) (pc : Nat) (op : sa_O), sa_all P l → sa_op l pc = some op → P pc op
  | [], _, _, _, h => by simp [sa_op] at h
  | (k, o) :: l, pc, op, h0, h => by
    unfold sa_op at h
    split at h
    · next hq =>
      cases h
      rw [← Nat.eq_of_beq_eq_true hq]
      exact h0.1
    · exact sa_all_at l pc op h0.2 h
theorem sa_sound {X : sa_X} {own : String} {cc : ByteArray} {nL : Nat} {rt : Option FieldType} {nm : String} {fr lr : Nat} {tbl : sa_T} (hall : sa_all (sa_Sim X own cc nL rt nm fr lr) tbl)
    {p : Program} {l : Launch} {e : Env} {R : Room} {s : State} {m : MethodId} {args : Array Value} {below : List Frame} {meth : Method} {c : Code} {D : va_G} {cI : ClassId × ClassId} {kS : Nat → Nat} {b z lc lsl : Nat} {Q : sa_Q}
    (hC : sa_Cx X own cc nL rt nm fr lr p R s m args meth c D cI kS b z lc lsl) (g : sa_G) (h : sa_w tbl g Q) :
      ∀ (H : Heap) (locs : List Loc) (ls : Array Slot) (cells slots : Nat), sa_At X nL s D cI kS b z lc lsl g.2.1 g.2.2.2.1 g.2.2.2.2.1 g.2.2.2.2.2 H locs ls cells slots →
      W p l e R s m args below meth c H locs cells slots (MQ below (sa_Qc X D cI kS b z Q) args s lc lsl (fun q => b ≤ q)) (F0 m g.1 ls (g.2.2.1.map (sa_v b kS))) := by
  refine h (fun g => ∀ (H : Heap) (locs : List Loc) (ls : Array Slot) (cells slots : Nat), sa_At X nL s D cI kS b z lc lsl g.2.1 g.2.2.2.1 g.2.2.2.2.1 g.2.2.2.2.2 H locs ls cells slots → W p l e R s m args below meth c H locs cells slots (MQ below (sa_Qc X D cI kS b z Q) args s lc lsl (fun q => b ≤ q)) (F0 m g.1 ls (g.2.2.1.map (sa_v b kS)))) ?_
  rintro ⟨pc, lo, st, hs, rc, rs⟩ op ho hq H locs ls cells slots hA
  exact sa_all_at tbl pc op hall ho p l e R s m args below meth c D cI kS b z lc lsl Q hC lo st hs rc rs _ H locs ls cells slots hA hq (fun pc' lo' st' hs' rc' rs' H' locs' ls' cells' slots' hA' hK => hK H' locs' ls' cells' slots' hA')
theorem sa_args (b : Nat) (kS : Nat → Nat) : ∀ (av : List sa_V) (i k : Nat) (v : sa_V), av[k]? = some v → (i + k, sa_v b kS v) ∈ lv_args i (av.map (sa_v b kS))
  | [], _, _, _, h => by simp at h
  | a :: av, i, 0, v, h => by
    simp at h
    subst h
    simp [lv_args]
  | a :: av, i, k + 1, v, h => by
    have h1 := sa_args b kS av (i + 1) k v (by simpa using h)
    rw [show i + (k + 1) = i + 1 + k by omega]
    simp only [List.map_cons, lv_args, sa_v_cat]
    exact List.mem_cons_of_mem _ h1
theorem sa_sl (b : Nat) (kS : Nat → Nat) : ∀ (av : List sa_V), (lg_sl (av.map (sa_v b kS))).length = av.length
  | [] => rfl
  | a :: av => by
    have h1 := sa_sl b kS av
    simp only [lg_sl, List.map_cons, List.flatMap_cons, sa_v_cat] at h1 ⊢
    simp [h1]
theorem sa_met {X : sa_X} {y : MethodName} {cc : ByteArray} {nL : Nat} {rt : Option FieldType} {fr lr : Nat} {tbl : sa_T} (hX : sa_ok X) (hy : plainName y.cls = true) (hall : sa_all (sa_Sim X y.cls cc nL rt y.name fr lr) tbl) : sa_Met X y cc nL rt fr lr (sa_ct tbl nL) := by
  intro l D cI kS b z lc lsl av hs Q hbz hz hav hn
  refine Met.ofW (cc := cc) (maxL := nL) (ret := rt) hy rfl ?_
  intro p e s m args below meth c s₁ B hml hv
  obtain ⟨rfl, hP, hsz, hK⟩ := hv
  have hts := atoms_spec (ws := Cond.code y cc nL rt :: X.2.1) B.pre
  have hl := lv_entry (av.map (sa_v b kS)) (n := nL) (by rw [sa_sl]; exact hav)
  rw [lg_entry_eq]
  generalize (lg_sl (av.map (sa_v b kS)) ++ List.replicate (nL - (lg_sl (av.map (sa_v b kS))).length) Slot.unset).toArray = ls at hl ⊢
  refine sa_sound hall ⟨B.exec, B.bytes, hml, findClass_of_methodNamed B.named, fun w hw => hts w (List.mem_cons_of_mem _ hw), hK, B.notSynchronized, B.returns, (name_of_methodNamed B.named B.method).1, rfl, rfl, rfl, rfl, hbz, hz, hX⟩ (0, sa_in nL av, [], hs, lc, lsl) hn _ _ ls 0 0 ⟨⟨hl.1, hl.2.1, fun q hq => hl.2.2 q ?_⟩, hP, hsz, va_S.rf, Nat.zero_add _, Nat.zero_add _⟩
  obtain ⟨v, h1, h2⟩ := sa_lv_mem.mp hq
  have h3 : av[q.1]? = some v := by
    unfold sa_in at h1
    by_cases hlt : q.1 < av.length
    · rw [List.getElem?_append_left (by simpa using hlt), List.getElem?_map] at h1
      cases h4 : av[q.1]? with
      | none => rw [h4] at h1; cases h1
      | some w => rw [h4] at h1; cases h1; rfl
    · rw [List.getElem?_append_right (by simpa using hlt)] at h1
      rw [List.getElem?_replicate] at h1
      split at h1 <;> cases h1
  have h5 := sa_args b kS av 0 q.1 v h3
  rw [Nat.zero_add, ← h2] at h5
  exact h5
