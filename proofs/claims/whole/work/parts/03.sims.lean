section SSA
variable {X : sa_X} {own : String} {cc : ByteArray} {nL : Nat} {rt : Option FieldType} {nm : String} {fr lr : Nat} {pc : Nat}
theorem ss_iconst {nx : Nat} {n : Int} {v : Int32} (hd : decode cc pc = .ok (.iconst n, 1)) (hv : Int32.ofInt n = v) (hn : pc + 1 = nx) : sa_Sim X own cc nL rt nm fr lr pc (so_push (.inl v) nx) := by
  intro p l e R s m args below meth c D cI kS b z lc lsl Q hC lo st hs rc rs K H locs ls cells slots hA hop kk
  obtain ⟨hx, hb, -⟩ := hC
  subst hn
  exact lv_iconst hx hb hd hv (kk (pc + 1) lo (.inl v :: st) hs rc rs H locs ls cells slots hA hop)
theorem ss_bipush {nx : Nat} {n : Int} {v : Int32} (hd : decode cc pc = .ok (.bipush n, 2)) (hv : (Int8.ofInt n).toInt32 = v) (hn : pc + 2 = nx) : sa_Sim X own cc nL rt nm fr lr pc (so_push (.inl v) nx) := by
  intro p l e R s m args below meth c D cI kS b z lc lsl Q hC lo st hs rc rs K H locs ls cells slots hA hop kk
  obtain ⟨hx, hb, -⟩ := hC
  subst hn
  exact lv_bipush hx hb hd hv (kk (pc + 2) lo (.inl v :: st) hs rc rs H locs ls cells slots hA hop)
theorem ss_sipush {nx : Nat} {n : Int} {v : Int32} (hd : decode cc pc = .ok (.sipush n, 3)) (hv : (Int16.ofInt n).toInt32 = v) (hn : pc + 3 = nx) : sa_Sim X own cc nL rt nm fr lr pc (so_push (.inl v) nx) := by
  intro p l e R s m args below meth c D cI kS b z lc lsl Q hC lo st hs rc rs K H locs ls cells slots hA hop kk
  obtain ⟨hx, hb, -⟩ := hC
  subst hn
  exact lv_sipush hx hb hd hv (kk (pc + 3) lo (.inl v :: st) hs rc rs H locs ls cells slots hA hop)
theorem ss_iload_n {nx : Nat} {k : Fin 4} {i : Nat} (hi : (k : Nat) = i) (hd : decode cc pc = .ok (.iload_n k, 1)) (hn : pc + 1 = nx) : sa_Sim X own cc nL rt nm fr lr pc (so_iload i nx) := by
  intro p l e R s m args below meth c D cI kS b z lc lsl Q hC lo st hs rc rs K H locs ls cells slots hA hop kk
  obtain ⟨hx, hb, -⟩ := hC
  have hl := hA.1
  subst hn
  cases hk : sa_nth lo i with
  | none => simp only [so_iload, hk] at hop
  | some o =>
    rcases o with _ | (x | r)
    · simp only [so_iload, hk] at hop
    · simp only [so_iload, hk] at hop
      exact lv_iload_n hx hb hd hi (sa_lv_at hl hk) (kk (pc + 1) lo (.inl x :: st) hs rc rs H locs ls cells slots hA hop)
    · simp only [so_iload, hk] at hop
theorem ss_iload {nx : Nat} {i : Nat} (hd : decode cc pc = .ok (.iload i, 2)) (hn : pc + 2 = nx) : sa_Sim X own cc nL rt nm fr lr pc (so_iload i nx) := by
  intro p l e R s m args below meth c D cI kS b z lc lsl Q hC lo st hs rc rs K H locs ls cells slots hA hop kk
  obtain ⟨hx, hb, -⟩ := hC
  have hl := hA.1
  subst hn
  cases hk : sa_nth lo i with
  | none => simp only [so_iload, hk] at hop
  | some o =>
    rcases o with _ | (x | r)
    · simp only [so_iload, hk] at hop
    · simp only [so_iload, hk] at hop
      exact lv_iload hx hb hd (sa_lv_at hl hk) (kk (pc + 2) lo (.inl x :: st) hs rc rs H locs ls cells slots hA hop)
    · simp only [so_iload, hk] at hop
theorem ss_aload_n {nx : Nat} {k : Fin 4} {i : Nat} (hi : (k : Nat) = i) (hd : decode cc pc = .ok (.aload_n k, 1)) (hn : pc + 1 = nx) : sa_Sim X own cc nL rt nm fr lr pc (so_aload i nx) := by
  intro p l e R s m args below meth c D cI kS b z lc lsl Q hC lo st hs rc rs K H locs ls cells slots hA hop kk
  obtain ⟨hx, hb, -⟩ := hC
  have hl := hA.1
  subst hn
  cases hk : sa_nth lo i with
  | none => simp only [so_aload, hk] at hop
  | some o =>
    rcases o with _ | (x | r)
    · simp only [so_aload, hk] at hop
    · simp only [so_aload, hk] at hop
    · simp only [so_aload, hk] at hop
      have k2 := kk (pc + 1) lo (.inr r :: st) hs rc rs H locs ls cells slots hA hop
      have hv := sa_lv_at hl hk
      rcases r with (_ | a) | j
      · exact lv_aload_nN hx hb hd hi hv k2
      · exact lv_aload_n hx hb hd hi hv k2
      · exact lv_aload_n hx hb hd hi hv k2
theorem ss_aload {nx : Nat} {i : Nat} (hd : decode cc pc = .ok (.aload i, 2)) (hn : pc + 2 = nx) : sa_Sim X own cc nL rt nm fr lr pc (so_aload i nx) := by
  intro p l e R s m args below meth c D cI kS b z lc lsl Q hC lo st hs rc rs K H locs ls cells slots hA hop kk
  obtain ⟨hx, hb, -⟩ := hC
  have hl := hA.1
  subst hn
  cases hk : sa_nth lo i with
  | none => simp only [so_aload, hk] at hop
  | some o =>
    rcases o with _ | (x | r)
    · simp only [so_aload, hk] at hop
    · simp only [so_aload, hk] at hop
    · simp only [so_aload, hk] at hop
      have k2 := kk (pc + 2) lo (.inr r :: st) hs rc rs H locs ls cells slots hA hop
      have hv := sa_lv_at hl hk
      rcases r with (_ | a) | j
      · exact lv_aloadN hx hb hd hv k2
      · exact lv_aload hx hb hd hv k2
      · exact lv_aload hx hb hd hv k2
theorem ss_istore_n {nx : Nat} {k : Fin 4} {i : Nat} (hi : (k : Nat) = i) (hd : decode cc pc = .ok (.istore_n k, 1)) (hni : i < nL) (hn : pc + 1 = nx) : sa_Sim X own cc nL rt nm fr lr pc (so_istore i nx) := by
  intro p l e R s m args below meth c D cI kS b z lc lsl Q hC lo st hs rc rs K H locs ls cells slots hA hop kk
  obtain ⟨hx, hb, -⟩ := hC
  obtain ⟨hl, hA⟩ := hA
  subst hn
  rcases st with _ | ⟨x | r, st⟩
  · exact absurd hop id
  · exact lv_istore_n hx hb hd hi hl hni rfl (fun ls' hl' => kk (pc + 1) (sa_put lo i (some (.inl x))) st hs rc rs H locs ls' cells slots ⟨sa_lv_put (v := .inl x) hl', hA⟩ hop)
  · exact absurd hop id
theorem ss_istore {nx : Nat} {i : Nat} (hd : decode cc pc = .ok (.istore i, 2)) (hni : i < nL) (hn : pc + 2 = nx) : sa_Sim X own cc nL rt nm fr lr pc (so_istore i nx) := by
  intro p l e R s m args below meth c D cI kS b z lc lsl Q hC lo st hs rc rs K H locs ls cells slots hA hop kk
  obtain ⟨hx, hb, -⟩ := hC
  obtain ⟨hl, hA⟩ := hA
  subst hn
  rcases st with _ | ⟨x | r, st⟩
  · exact absurd hop id
  · exact lv_istore hx hb hd hl hni rfl (fun ls' hl' => kk (pc + 2) (sa_put lo i (some (.inl x))) st hs rc rs H locs ls' cells slots ⟨sa_lv_put (v := .inl x) hl', hA⟩ hop)
  · exact absurd hop id
theorem ss_iinc {nx i : Nat} {n : Int} {d : Int32} (hd : decode cc pc = .ok (.iinc i n, 3)) (hv : Int32.ofInt n = d) (hni : i < nL) (hn : pc + 3 = nx) : sa_Sim X own cc nL rt nm fr lr pc (so_iinc i d nx) := by
  intro p l e R s m args below meth c D cI kS b z lc lsl Q hC lo st hs rc rs K H locs ls cells slots hA hop kk
  obtain ⟨hx, hb, -⟩ := hC
  obtain ⟨hl, hA⟩ := hA
  subst hn
  subst hv
  cases hk : sa_nth lo i with
  | none => simp only [so_iinc, hk] at hop
  | some o =>
    rcases o with _ | (x | r)
    · simp only [so_iinc, hk] at hop
    · simp only [so_iinc, hk] at hop
      have hm : (i, Value.int x) ∈ sa_lv b kS lo := sa_lv_mem.mpr ⟨.inl x, by rw [← sa_nth_eq]; exact hk, rfl⟩
      obtain ⟨j, hj⟩ := List.getElem?_of_mem hm
      exact lv_iinc hx hb hd hl (k := j) hj rfl hni rfl (fun ls' hl' => kk (pc + 3) (sa_put lo i (some (.inl (x + Int32.ofInt n)))) st hs rc rs H locs ls' cells slots ⟨sa_lv_put (v := .inl (x + Int32.ofInt n)) hl', hA⟩ hop)
    · simp only [so_iinc, hk] at hop
theorem ss_iadd {nx : Nat} (hd : decode cc pc = .ok (.iadd, 1)) (hn : pc + 1 = nx) : sa_Sim X own cc nL rt nm fr lr pc (so_bin (fun x y => x + y) nx) := by
  intro p l e R s m args below meth c D cI kS b z lc lsl Q hC lo st hs rc rs K H locs ls cells slots hA hop kk
  obtain ⟨hx, hb, -⟩ := hC
  subst hn
  rcases st with _ | ⟨y | r, _ | ⟨x | r2, st⟩⟩
  · exact absurd hop id
  · exact absurd hop id
  · exact lv_iadd hx hb hd (kk (pc + 1) lo (.inl (x + y) :: st) hs rc rs H locs ls cells slots hA hop)
  · exact absurd hop id
  · exact absurd hop id
  · exact absurd hop id
  · exact absurd hop id
theorem ss_isub {nx : Nat} (hd : decode cc pc = .ok (.isub, 1)) (hn : pc + 1 = nx) : sa_Sim X own cc nL rt nm fr lr pc (so_bin (fun x y => x - y) nx) := by
  intro p l e R s m args below meth c D cI kS b z lc lsl Q hC lo st hs rc rs K H locs ls cells slots hA hop kk
  obtain ⟨hx, hb, -⟩ := hC
  subst hn
  rcases st with _ | ⟨y | r, _ | ⟨x | r2, st⟩⟩
  · exact absurd hop id
  · exact absurd hop id
  · exact lv_isub hx hb hd (kk (pc + 1) lo (.inl (x - y) :: st) hs rc rs H locs ls cells slots hA hop)
  · exact absurd hop id
  · exact absurd hop id
  · exact absurd hop id
  · exact absurd hop id
theorem ss_imul {nx : Nat} (hd : decode cc pc = .ok (.imul, 1)) (hn : pc + 1 = nx) : sa_Sim X own cc nL rt nm fr lr pc (so_bin (fun x y => x * y) nx) := by
  intro p l e R s m args below meth c D cI kS b z lc lsl Q hC lo st hs rc rs K H locs ls cells slots hA hop kk
  obtain ⟨hx, hb, -⟩ := hC
  subst hn
  rcases st with _ | ⟨y | r, _ | ⟨x | r2, st⟩⟩
  · exact absurd hop id
  · exact absurd hop id
  · exact lv_imul hx hb hd (kk (pc + 1) lo (.inl (x * y) :: st) hs rc rs H locs ls cells slots hA hop)
  · exact absurd hop id
  · exact absurd hop id
  · exact absurd hop id
  · exact absurd hop id
theorem ss_iand {nx : Nat} (hd : decode cc pc = .ok (.iand, 1)) (hn : pc + 1 = nx) : sa_Sim X own cc nL rt nm fr lr pc (so_bin (fun x y => x &&& y) nx) := by
  intro p l e R s m args below meth c D cI kS b z lc lsl Q hC lo st hs rc rs K H locs ls cells slots hA hop kk
  obtain ⟨hx, hb, -⟩ := hC
  subst hn
  rcases st with _ | ⟨y | r, _ | ⟨x | r2, st⟩⟩
  · exact absurd hop id
  · exact absurd hop id
  · exact lv_iand hx hb hd (kk (pc + 1) lo (.inl (x &&& y) :: st) hs rc rs H locs ls cells slots hA hop)
  · exact absurd hop id
  · exact absurd hop id
  · exact absurd hop id
  · exact absurd hop id
theorem ss_ior {nx : Nat} (hd : decode cc pc = .ok (.ior, 1)) (hn : pc + 1 = nx) : sa_Sim X own cc nL rt nm fr lr pc (so_bin (fun x y => x ||| y) nx) := by
  intro p l e R s m args below meth c D cI kS b z lc lsl Q hC lo st hs rc rs K H locs ls cells slots hA hop kk
  obtain ⟨hx, hb, -⟩ := hC
  subst hn
  rcases st with _ | ⟨y | r, _ | ⟨x | r2, st⟩⟩
  · exact absurd hop id
  · exact absurd hop id
  · exact lv_ior hx hb hd (kk (pc + 1) lo (.inl (x ||| y) :: st) hs rc rs H locs ls cells slots hA hop)
  · exact absurd hop id
  · exact absurd hop id
  · exact absurd hop id
  · exact absurd hop id
theorem ss_ixor {nx : Nat} (hd : decode cc pc = .ok (.ixor, 1)) (hn : pc + 1 = nx) : sa_Sim X own cc nL rt nm fr lr pc (so_bin (fun x y => x ^^^ y) nx) := by
  intro p l e R s m args below meth c D cI kS b z lc lsl Q hC lo st hs rc rs K H locs ls cells slots hA hop kk
  obtain ⟨hx, hb, -⟩ := hC
  subst hn
  rcases st with _ | ⟨y | r, _ | ⟨x | r2, st⟩⟩
  · exact absurd hop id
  · exact absurd hop id
  · exact lv_ixor hx hb hd (kk (pc + 1) lo (.inl (x ^^^ y) :: st) hs rc rs H locs ls cells slots hA hop)
  · exact absurd hop id
  · exact absurd hop id
  · exact absurd hop id
  · exact absurd hop id
theorem ss_ishl {nx : Nat} (hd : decode cc pc = .ok (.ishl, 1)) (hn : pc + 1 = nx) : sa_Sim X own cc nL rt nm fr lr pc (so_bin (fun x y => x <<< (y &&& 31)) nx) := by
  intro p l e R s m args below meth c D cI kS b z lc lsl Q hC lo st hs rc rs K H locs ls cells slots hA hop kk
  obtain ⟨hx, hb, -⟩ := hC
  subst hn
  rcases st with _ | ⟨y | r, _ | ⟨x | r2, st⟩⟩
  · exact absurd hop id
  · exact absurd hop id
  · exact lv_ishl hx hb hd (kk (pc + 1) lo (.inl (x <<< (y &&& 31)) :: st) hs rc rs H locs ls cells slots hA hop)
  · exact absurd hop id
  · exact absurd hop id
  · exact absurd hop id
  · exact absurd hop id
theorem ss_ishr {nx : Nat} (hd : decode cc pc = .ok (.ishr, 1)) (hn : pc + 1 = nx) : sa_Sim X own cc nL rt nm fr lr pc (so_bin (fun x y => x >>> (y &&& 31)) nx) := by
  intro p l e R s m args below meth c D cI kS b z lc lsl Q hC lo st hs rc rs K H locs ls cells slots hA hop kk
  obtain ⟨hx, hb, -⟩ := hC
  subst hn
  rcases st with _ | ⟨y | r, _ | ⟨x | r2, st⟩⟩
  · exact absurd hop id
  · exact absurd hop id
  · exact lv_ishr hx hb hd (kk (pc + 1) lo (.inl (x >>> (y &&& 31)) :: st) hs rc rs H locs ls cells slots hA hop)
  · exact absurd hop id
  · exact absurd hop id
  · exact absurd hop id
  · exact absurd hop id
theorem ss_idiv {nx : Nat} (hd : decode cc pc = .ok (.idiv, 1)) (hn : pc + 1 = nx) : sa_Sim X own cc nL rt nm fr lr pc (so_div (fun x y => x / y) nx) := by
  intro p l e R s m args below meth c D cI kS b z lc lsl Q hC lo st hs rc rs K H locs ls cells slots hA hop kk
  obtain ⟨hx, hb, -⟩ := hC
  subst hn
  rcases st with _ | ⟨y | r, _ | ⟨x | r2, st⟩⟩
  · exact absurd hop id
  · exact absurd hop id
  · exact lv_idiv hx hb hd hop.1 (kk (pc + 1) lo (.inl (x / y) :: st) hs rc rs H locs ls cells slots hA hop.2)
  · exact absurd hop id
  · exact absurd hop id
  · exact absurd hop id
  · exact absurd hop id
theorem ss_irem {nx : Nat} (hd : decode cc pc = .ok (.irem, 1)) (hn : pc + 1 = nx) : sa_Sim X own cc nL rt nm fr lr pc (so_div (fun x y => x - x / y * y) nx) := by
  intro p l e R s m args below meth c D cI kS b z lc lsl Q hC lo st hs rc rs K H locs ls cells slots hA hop kk
  obtain ⟨hx, hb, -⟩ := hC
  subst hn
  rcases st with _ | ⟨y | r, _ | ⟨x | r2, st⟩⟩
  · exact absurd hop id
  · exact absurd hop id
  · exact lv_irem hx hb hd hop.1 (kk (pc + 1) lo (.inl (x - x / y * y) :: st) hs rc rs H locs ls cells slots hA hop.2)
  · exact absurd hop id
  · exact absurd hop id
  · exact absurd hop id
  · exact absurd hop id
theorem ss_i2b {nx : Nat} (hd : decode cc pc = .ok (.i2b, 1)) (hn : pc + 1 = nx) : sa_Sim X own cc nL rt nm fr lr pc (so_un (fun x => x.toInt8.toInt32) nx) := by
  intro p l e R s m args below meth c D cI kS b z lc lsl Q hC lo st hs rc rs K H locs ls cells slots hA hop kk
  obtain ⟨hx, hb, -⟩ := hC
  subst hn
  rcases st with _ | ⟨x | r, st⟩
  · exact absurd hop id
  · exact lv_i2b hx hb hd rfl (kk (pc + 1) lo (.inl (x.toInt8.toInt32) :: st) hs rc rs H locs ls cells slots hA hop)
  · exact absurd hop id
theorem ss_i2s {nx : Nat} (hd : decode cc pc = .ok (.i2s, 1)) (hn : pc + 1 = nx) : sa_Sim X own cc nL rt nm fr lr pc (so_un (fun x => x.toInt16.toInt32) nx) := by
  intro p l e R s m args below meth c D cI kS b z lc lsl Q hC lo st hs rc rs K H locs ls cells slots hA hop kk
  obtain ⟨hx, hb, -⟩ := hC
  subst hn
  rcases st with _ | ⟨x | r, st⟩
  · exact absurd hop id
  · exact lv_i2s hx hb hd rfl (kk (pc + 1) lo (.inl (x.toInt16.toInt32) :: st) hs rc rs H locs ls cells slots hA hop)
  · exact absurd hop id
theorem ss_i2c {nx : Nat} (hd : decode cc pc = .ok (.i2c, 1)) (hn : pc + 1 = nx) : sa_Sim X own cc nL rt nm fr lr pc (so_un (fun x => (x.toUInt32 % 65536).toInt32) nx) := by
  intro p l e R s m args below meth c D cI kS b z lc lsl Q hC lo st hs rc rs K H locs ls cells slots hA hop kk
  obtain ⟨hx, hb, -⟩ := hC
  subst hn
  rcases st with _ | ⟨x | r, st⟩
  · exact absurd hop id
  · exact lv_i2c hx hb hd rfl (kk (pc + 1) lo (.inl ((x.toUInt32 % 65536).toInt32) :: st) hs rc rs H locs ls cells slots hA hop)
  · exact absurd hop id
theorem ss_if_eq {tgt nx : Nat} {off : Int} (hd : decode cc pc = .ok (.ifCond .eq off, 3)) (ht : (pc : Int) + off = (tgt : Int)) (hn : pc + 3 = nx) : sa_Sim X own cc nL rt nm fr lr pc (so_if (fun x => x = 0) tgt nx) := by
  intro p l e R s m args below meth c D cI kS b z lc lsl Q hC lo st hs rc rs K H locs ls cells slots hA hop kk
  obtain ⟨hx, hb, -⟩ := hC
  subst hn
  rcases st with _ | ⟨x | r, st⟩
  · exact absurd hop id
  · exact lv_if_eq hx hb hd ht (fun q => kk tgt lo st hs rc rs H locs ls cells slots hA (hop.1 q)) (fun q => kk (pc + 3) lo st hs rc rs H locs ls cells slots hA (hop.2 q))
  · exact absurd hop id
theorem ss_icmp_eq {tgt nx : Nat} {off : Int} (hd : decode cc pc = .ok (.if_icmp .eq off, 3)) (ht : (pc : Int) + off = (tgt : Int)) (hn : pc + 3 = nx) : sa_Sim X own cc nL rt nm fr lr pc (so_cmp (fun x y => x = y) tgt nx) := by
  intro p l e R s m args below meth c D cI kS b z lc lsl Q hC lo st hs rc rs K H locs ls cells slots hA hop kk
  obtain ⟨hx, hb, -⟩ := hC
  subst hn
  rcases st with _ | ⟨y | r, _ | ⟨x | r2, st⟩⟩
  · exact absurd hop id
  · exact absurd hop id
  · exact lv_icmp_eq hx hb hd ht (fun q => kk tgt lo st hs rc rs H locs ls cells slots hA (hop.1 q)) (fun q => kk (pc + 3) lo st hs rc rs H locs ls cells slots hA (hop.2 q))
  · exact absurd hop id
  · exact absurd hop id
  · exact absurd hop id
  · exact absurd hop id
theorem ss_if_ne {tgt nx : Nat} {off : Int} (hd : decode cc pc = .ok (.ifCond .ne off, 3)) (ht : (pc : Int) + off = (tgt : Int)) (hn : pc + 3 = nx) : sa_Sim X own cc nL rt nm fr lr pc (so_if (fun x => x = 0) nx tgt) := by
  intro p l e R s m args below meth c D cI kS b z lc lsl Q hC lo st hs rc rs K H locs ls cells slots hA hop kk
  obtain ⟨hx, hb, -⟩ := hC
  subst hn
  rcases st with _ | ⟨x | r, st⟩
  · exact absurd hop id
  · exact lv_if_ne hx hb hd ht (fun q => kk tgt lo st hs rc rs H locs ls cells slots hA (hop.2 q)) (fun q => kk (pc + 3) lo st hs rc rs H locs ls cells slots hA (hop.1 q))
  · exact absurd hop id
theorem ss_icmp_ne {tgt nx : Nat} {off : Int} (hd : decode cc pc = .ok (.if_icmp .ne off, 3)) (ht : (pc : Int) + off = (tgt : Int)) (hn : pc + 3 = nx) : sa_Sim X own cc nL rt nm fr lr pc (so_cmp (fun x y => x = y) nx tgt) := by
  intro p l e R s m args below meth c D cI kS b z lc lsl Q hC lo st hs rc rs K H locs ls cells slots hA hop kk
  obtain ⟨hx, hb, -⟩ := hC
  subst hn
  rcases st with _ | ⟨y | r, _ | ⟨x | r2, st⟩⟩
  · exact absurd hop id
  · exact absurd hop id
  · exact lv_icmp_ne hx hb hd ht (fun q => kk tgt lo st hs rc rs H locs ls cells slots hA (hop.2 q)) (fun q => kk (pc + 3) lo st hs rc rs H locs ls cells slots hA (hop.1 q))
  · exact absurd hop id
  · exact absurd hop id
  · exact absurd hop id
  · exact absurd hop id
theorem ss_if_lt {tgt nx : Nat} {off : Int} (hd : decode cc pc = .ok (.ifCond .lt off, 3)) (ht : (pc : Int) + off = (tgt : Int)) (hn : pc + 3 = nx) : sa_Sim X own cc nL rt nm fr lr pc (so_if (fun x => x < 0) tgt nx) := by
  intro p l e R s m args below meth c D cI kS b z lc lsl Q hC lo st hs rc rs K H locs ls cells slots hA hop kk
  obtain ⟨hx, hb, -⟩ := hC
  subst hn
  rcases st with _ | ⟨x | r, st⟩
  · exact absurd hop id
  · exact lv_if_lt hx hb hd ht (fun q => kk tgt lo st hs rc rs H locs ls cells slots hA (hop.1 q)) (fun q => kk (pc + 3) lo st hs rc rs H locs ls cells slots hA (hop.2 q))
  · exact absurd hop id
theorem ss_icmp_lt {tgt nx : Nat} {off : Int} (hd : decode cc pc = .ok (.if_icmp .lt off, 3)) (ht : (pc : Int) + off = (tgt : Int)) (hn : pc + 3 = nx) : sa_Sim X own cc nL rt nm fr lr pc (so_cmp (fun x y => x < y) tgt nx) := by
  intro p l e R s m args below meth c D cI kS b z lc lsl Q hC lo st hs rc rs K H locs ls cells slots hA hop kk
  obtain ⟨hx, hb, -⟩ := hC
  subst hn
  rcases st with _ | ⟨y | r, _ | ⟨x | r2, st⟩⟩
  · exact absurd hop id
  · exact absurd hop id
  · exact lv_icmp_lt hx hb hd ht (fun q => kk tgt lo st hs rc rs H locs ls cells slots hA (hop.1 q)) (fun q => kk (pc + 3) lo st hs rc rs H locs ls cells slots hA (hop.2 q))
  · exact absurd hop id
  · exact absurd hop id
  · exact absurd hop id
  · exact absurd hop id
theorem ss_if_ge {tgt nx : Nat} {off : Int} (hd : decode cc pc = .ok (.ifCond .ge off, 3)) (ht : (pc : Int) + off = (tgt : Int)) (hn : pc + 3 = nx) : sa_Sim X own cc nL rt nm fr lr pc (so_if (fun x => 0 ≤ x) tgt nx) := by
  intro p l e R s m args below meth c D cI kS b z lc lsl Q hC lo st hs rc rs K H locs ls cells slots hA hop kk
  obtain ⟨hx, hb, -⟩ := hC
  subst hn
  rcases st with _ | ⟨x | r, st⟩
  · exact absurd hop id
  · exact lv_if_ge hx hb hd ht (fun q => kk tgt lo st hs rc rs H locs ls cells slots hA (hop.1 q)) (fun q => kk (pc + 3) lo st hs rc rs H locs ls cells slots hA (hop.2 q))
  · exact absurd hop id
theorem ss_icmp_ge {tgt nx : Nat} {off : Int} (hd : decode cc pc = .ok (.if_icmp .ge off, 3)) (ht : (pc : Int) + off = (tgt : Int)) (hn : pc + 3 = nx) : sa_Sim X own cc nL rt nm fr lr pc (so_cmp (fun x y => y ≤ x) tgt nx) := by
  intro p l e R s m args below meth c D cI kS b z lc lsl Q hC lo st hs rc rs K H locs ls cells slots hA hop kk
  obtain ⟨hx, hb, -⟩ := hC
  subst hn
  rcases st with _ | ⟨y | r, _ | ⟨x | r2, st⟩⟩
  · exact absurd hop id
  · exact absurd hop id
  · exact lv_icmp_ge hx hb hd ht (fun q => kk tgt lo st hs rc rs H locs ls cells slots hA (hop.1 q)) (fun q => kk (pc + 3) lo st hs rc rs H locs ls cells slots hA (hop.2 q))
  · exact absurd hop id
  · exact absurd hop id
  · exact absurd hop id
  · exact absurd hop id
theorem ss_if_gt {tgt nx : Nat} {off : Int} (hd : decode cc pc = .ok (.ifCond .gt off, 3)) (ht : (pc : Int) + off = (tgt : Int)) (hn : pc + 3 = nx) : sa_Sim X own cc nL rt nm fr lr pc (so_if (fun x => 0 < x) tgt nx) := by
  intro p l e R s m args below meth c D cI kS b z lc lsl Q hC lo st hs rc rs K H locs ls cells slots hA hop kk
  obtain ⟨hx, hb, -⟩ := hC
  subst hn
  rcases st with _ | ⟨x | r, st⟩
  · exact absurd hop id
  · exact lv_if_gt hx hb hd ht (fun q => kk tgt lo st hs rc rs H locs ls cells slots hA (hop.1 q)) (fun q => kk (pc + 3) lo st hs rc rs H locs ls cells slots hA (hop.2 q))
  · exact absurd hop id
theorem ss_icmp_gt {tgt nx : Nat} {off : Int} (hd : decode cc pc = .ok (.if_icmp .gt off, 3)) (ht : (pc : Int) + off = (tgt : Int)) (hn : pc + 3 = nx) : sa_Sim X own cc nL rt nm fr lr pc (so_cmp (fun x y => y < x) tgt nx) := by
  intro p l e R s m args below meth c D cI kS b z lc lsl Q hC lo st hs rc rs K H locs ls cells slots hA hop kk
  obtain ⟨hx, hb, -⟩ := hC
  subst hn
  rcases st with _ | ⟨y | r, _ | ⟨x | r2, st⟩⟩
  · exact absurd hop id
  · exact absurd hop id
  · exact lv_icmp_gt hx hb hd ht (fun q => kk tgt lo st hs rc rs H locs ls cells slots hA (hop.1 q)) (fun q => kk (pc + 3) lo st hs rc rs H locs ls cells slots hA (hop.2 q))
  · exact absurd hop id
  · exact absurd hop id
  · exact absurd hop id
  · exact absurd hop id
theorem ss_if_le {tgt nx : Nat} {off : Int} (hd : decode cc pc = .ok (.ifCond .le off, 3)) (ht : (pc : Int) + off = (tgt : Int)) (hn : pc + 3 = nx) : sa_Sim X own cc nL rt nm fr lr pc (so_if (fun x => x ≤ 0) tgt nx) := by
  intro p l e R s m args below meth c D cI kS b z lc lsl Q hC lo st hs rc rs K H locs ls cells slots hA hop kk
  obtain ⟨hx, hb, -⟩ := hC
  subst hn
  rcases st with _ | ⟨x | r, st⟩
  · exact absurd hop id
  · exact lv_if_le hx hb hd ht (fun q => kk tgt lo st hs rc rs H locs ls cells slots hA (hop.1 q)) (fun q => kk (pc + 3) lo st hs rc rs H locs ls cells slots hA (hop.2 q))
  · exact absurd hop id
theorem ss_icmp_le {tgt nx : Nat} {off : Int} (hd : decode cc pc = .ok (.if_icmp .le off, 3)) (ht : (pc : Int) + off = (tgt : Int)) (hn : pc + 3 = nx) : sa_Sim X own cc nL rt nm fr lr pc (so_cmp (fun x y => x ≤ y) tgt nx) := by
  intro p l e R s m args below meth c D cI kS b z lc lsl Q hC lo st hs rc rs K H locs ls cells slots hA hop kk
  obtain ⟨hx, hb, -⟩ := hC
  subst hn
  rcases st with _ | ⟨y | r, _ | ⟨x | r2, st⟩⟩
  · exact absurd hop id
  · exact absurd hop id
  · exact lv_icmp_le hx hb hd ht (fun q => kk tgt lo st hs rc rs H locs ls cells slots hA (hop.1 q)) (fun q => kk (pc + 3) lo st hs rc rs H locs ls cells slots hA (hop.2 q))
  · exact absurd hop id
  · exact absurd hop id
  · exact absurd hop id
  · exact absurd hop id
theorem ss_goto {tgt : Nat} {off : Int} (hd : decode cc pc = .ok (.goto off, 3)) (ht : (pc : Int) + off = (tgt : Int)) : sa_Sim X own cc nL rt nm fr lr pc (so_goto tgt) := by
  intro p l e R s m args below meth c D cI kS b z lc lsl Q hC lo st hs rc rs K H locs ls cells slots hA hop kk
  obtain ⟨hx, hb, -⟩ := hC
  exact lv_goto hx hb hd ht (kk tgt lo st hs rc rs H locs ls cells slots hA hop)
theorem ss_dup {nx : Nat} (hd : decode cc pc = .ok (.dup, 1)) (hn : pc + 1 = nx) : sa_Sim X own cc nL rt nm fr lr pc (so_dup nx) := by
  intro p l e R s m args below meth c D cI kS b z lc lsl Q hC lo st hs rc rs K H locs ls cells slots hA hop kk
  obtain ⟨hx, hb, -⟩ := hC
  subst hn
  rcases st with _ | ⟨v, st⟩
  · exact absurd hop id
  · exact lv_dup hx hb hd (sa_v_cat _ _ _) (kk (pc + 1) lo (v :: v :: st) hs rc rs H locs ls cells slots hA hop)
theorem ss_dup2 {nx : Nat} (hd : decode cc pc = .ok (.dup2, 1)) (hn : pc + 1 = nx) : sa_Sim X own cc nL rt nm fr lr pc (so_dup2 nx) := by
  intro p l e R s m args below meth c D cI kS b z lc lsl Q hC lo st hs rc rs K H locs ls cells slots hA hop kk
  obtain ⟨hx, hb, -⟩ := hC
  subst hn
  rcases st with _ | ⟨v, _ | ⟨w, st⟩⟩
  · exact absurd hop id
  · exact absurd hop id
  · exact lv_dup2_11 hx hb hd (sa_v_cat _ _ _) (sa_v_cat _ _ _) (kk (pc + 1) lo (v :: w :: v :: w :: st) hs rc rs H locs ls cells slots hA hop)
theorem ss_pop {nx : Nat} (hd : decode cc pc = .ok (.pop, 1)) (hn : pc + 1 = nx) : sa_Sim X own cc nL rt nm fr lr pc (so_pop nx) := by
  intro p l e R s m args below meth c D cI kS b z lc lsl Q hC lo st hs rc rs K H locs ls cells slots hA hop kk
  obtain ⟨hx, hb, -⟩ := hC
  subst hn
  rcases st with _ | ⟨v, st⟩
  · exact absurd hop id
  · exact lv_pop hx hb hd (sa_v_cat _ _ _) (kk (pc + 1) lo st hs rc rs H locs ls cells slots hA hop)
theorem ss_bad : sa_Sim X own cc nL rt nm fr lr pc so_bad := by
  intro p l e R s m args below meth c D cI kS b z lc lsl Q hC lo st hs rc rs K H locs ls cells slots hA hop kk
  exact absurd hop id
theorem ss_ret (hd : decode cc pc = .ok (.return_, 1)) (hr0 : rt = none) (hst0 : True) : sa_Sim X own cc nL rt nm fr lr pc so_ret := by
  intro p l e R s m args below meth c D cI kS b z lc lsl Q hC lo st hs rc rs K H locs ls cells slots hA hop kk
  obtain ⟨hx, hb, hml, hown, hts, hK, hlk, hr, -⟩ := hC
  obtain ⟨hl, hP, hsz, hS, hcc, hss⟩ := hA
  subst hr0
  rcases st with _ | ⟨v, st⟩
  · refine W.widen (k := lc) (n := lsl) (by omega) (by omega) ?_
    exact W.vret hx hb hr (fun t ht hW => ⟨none, hs, rfl, hop, by rw [ht]; exact hP, by rw [ht]; exact hsz, hS.F ht⟩) hS.2.2 hd hlk
  · exact absurd hop id
theorem ss_iret (hd : decode cc pc = .ok (.ireturn, 1)) (hr0 : rt = some .int) : sa_Sim X own cc nL rt nm fr lr pc so_iret := by
  intro p l e R s m args below meth c D cI kS b z lc lsl Q hC lo st hs rc rs K H locs ls cells slots hA hop kk
  obtain ⟨hx, hb, hml, hown, hts, hK, hlk, hr, -⟩ := hC
  obtain ⟨hl, hP, hsz, hS, hcc, hss⟩ := hA
  subst hr0
  rcases st with _ | ⟨x | r, _ | ⟨v, st⟩⟩
  · exact absurd hop id
  · refine W.widen (k := lc) (n := lsl) (by omega) (by omega) ?_
    exact W.iret (v := x) hx hb hr (fun t ht hW => ⟨some (.inl x), hs, rfl, hop, by rw [ht]; exact hP, by rw [ht]; exact hsz, hS.F ht⟩) hS.2.2 hd hlk
  · exact absurd hop id
  · exact absurd hop id
  · exact absurd hop id
theorem ss_zret (hd : decode cc pc = .ok (.ireturn, 1)) (hr0 : rt = some .boolean) : sa_Sim X own cc nL rt nm fr lr pc so_zret := by
  intro p l e R s m args below meth c D cI kS b z lc lsl Q hC lo st hs rc rs K H locs ls cells slots hA hop kk
  obtain ⟨hx, hb, hml, hown, hts, hK, hlk, hr, -⟩ := hC
  obtain ⟨hl, hP, hsz, hS, hcc, hss⟩ := hA
  subst hr0
  rcases st with _ | ⟨x | r, _ | ⟨v, st⟩⟩
  · exact absurd hop id
  · refine W.widen (k := lc) (n := lsl) (by omega) (by omega) ?_
    have hz : narrow .boolean (.int x) = .int x := by rcases hop.1 with h | h <;> rw [h] <;> decide
    exact W.zret (v := x) hx hb hr hz (fun t ht hW => ⟨some (.inl x), hs, rfl, hop.2, by rw [ht]; exact hP, by rw [ht]; exact hsz, hS.F ht⟩) hS.2.2 hd hlk
  · exact absurd hop id
  · exact absurd hop id
  · exact absurd hop id
theorem ss_aret {ty : FieldType} (hd : decode cc pc = .ok (.areturn, 1)) (hr0 : rt = some ty) (hty : (∃ n, ty = .object n) ∨ ∃ t, ty = .array t) : sa_Sim X own cc nL rt nm fr lr pc so_aret := by
  intro p l e R s m args below meth c D cI kS b z lc lsl Q hC lo st hs rc rs K H locs ls cells slots hA hop kk
  obtain ⟨hx, hb, hml, hown, hts, hK, hlk, hr, -⟩ := hC
  obtain ⟨hl, hP, hsz, hS, hcc, hss⟩ := hA
  subst hr0
  rcases st with _ | ⟨x | r, _ | ⟨v, st⟩⟩
  · exact absurd hop id
  · exact absurd hop id
  · exact absurd hop id
  · refine W.widen (k := lc) (n := lsl) (by omega) (by omega) ?_
    exact W.aret (v := sa_v b kS (.inr r)) hx hb hr hty (by rcases r with (_ | a) | j; exact Or.inl rfl; exact Or.inr ⟨_, rfl⟩; exact Or.inr ⟨_, rfl⟩) (fun t ht hW => ⟨some (.inr r), hs, rfl, hop, by rw [ht]; exact hP, by rw [ht]; exact hsz, hS.F ht⟩) hS.2.2 hd hlk
  · exact absurd hop id
end SSA
