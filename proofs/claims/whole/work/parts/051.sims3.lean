section SSD
variable {X : sa_X} {own : String} {cc : ByteArray} {nL : Nat} {rt : Option FieldType} {nm : String} {fr lr : Nat} {pc : Nat}
theorem ss_max {nx index : Nat} (hd : decode cc pc = .ok (.invokestatic index, 3)) (h1 : Cond.methodLink own index Lib.Math.max.name ∈ X.2.1) (h2 : Cond.static Lib.Math.max.name ∈ X.2.1) (h3 : Cond.initialized "java/lang/Math" ∈ X.2.1) (h4 : Cond.code Lib.Math.max.name Lib.Math.max.code 2 (some .int) ∈ X.2.1) (hf0 : 1 ≤ fr) (hl0 : 21 ≤ lr) (hn : pc + 3 = nx) : sa_Sim X own cc nL rt nm fr lr pc (so_bin8 (fun x y => if x < y then y else x) nx) := by
  intro p l e R s m args below meth c D cI kS b z lc lsl Q hC lo st hs rc rs K H locs ls cells slots hA hop kk
  obtain ⟨hx, hb, hml, hown, hts, hK, hlk, hr, hnm, hfr, hlo, hrc, hrs, hbz, hz, hX⟩ := hC
  subst hn
  rcases st with _ | ⟨y | r, _ | ⟨x | r2, st⟩⟩ <;> try (exact absurd hop id)
  obtain ⟨h8, hop⟩ := hop
  have hl := hA.1
  exact va_mmax hx hb (hml.trans hl.1.symm) hown (hts _ h1) (hts _ h2) (hts _ h3) (hts _ h4) (by omega) (by rw [sa_sum]; omega) (by have := hA.2.2.2.2.1; omega) (by have := hA.2.2.2.2.2; omega) hd (kk (pc + 3) lo (.inl (if x < y then y else x) :: st) hs rc rs H locs ls cells slots hA hop)
theorem ss_min {nx index : Nat} (hd : decode cc pc = .ok (.invokestatic index, 3)) (h1 : Cond.methodLink own index Lib.Math.min.name ∈ X.2.1) (h2 : Cond.static Lib.Math.min.name ∈ X.2.1) (h3 : Cond.initialized "java/lang/Math" ∈ X.2.1) (h4 : Cond.code Lib.Math.min.name Lib.Math.min.code 2 (some .int) ∈ X.2.1) (hf0 : 1 ≤ fr) (hl0 : 21 ≤ lr) (hn : pc + 3 = nx) : sa_Sim X own cc nL rt nm fr lr pc (so_bin8 (fun x y => if y < x then y else x) nx) := by
  intro p l e R s m args below meth c D cI kS b z lc lsl Q hC lo st hs rc rs K H locs ls cells slots hA hop kk
  obtain ⟨hx, hb, hml, hown, hts, hK, hlk, hr, hnm, hfr, hlo, hrc, hrs, hbz, hz, hX⟩ := hC
  subst hn
  rcases st with _ | ⟨y | r, _ | ⟨x | r2, st⟩⟩ <;> try (exact absurd hop id)
  obtain ⟨h8, hop⟩ := hop
  have hl := hA.1
  exact va_mmin hx hb (hml.trans hl.1.symm) hown (hts _ h1) (hts _ h2) (hts _ h3) (hts _ h4) (by omega) (by rw [sa_sum]; omega) (by have := hA.2.2.2.2.1; omega) (by have := hA.2.2.2.2.2; omega) hd (kk (pc + 3) lo (.inl (if y < x then y else x) :: st) hs rc rs H locs ls cells slots hA hop)
theorem ss_ldcS {nx index j : Nat} {tx : String} (hd : decode cc pc = .ok (.ldc index, 2)) (h1 : (own, index, tx, j) ∈ X.2.2.2.2) (hn : pc + 2 = nx) : sa_Sim X own cc nL rt nm fr lr pc (so_push (.inr (.inr j)) nx) := by
  intro p l e R s m args below meth c D cI kS b z lc lsl Q hC lo st hs rc rs K H locs ls cells slots hA hop kk
  obtain ⟨hx, hb, hml, hown, hts, hK, -⟩ := hC
  subst hn
  exact va_ldcS hx hb hown (hK.2.2.2.1 _ h1) hd (kk (pc + 2) lo (.inr (.inr j) :: st) hs rc rs H locs ls cells slots hA hop)
def sa_tgt : List (Int32 × Nat) → Nat → Int32 → Nat
  | [], d, _ => d
  | (k, t) :: l, d, x => if x = k then t else sa_tgt l d x
theorem sa_sw_tgt : ∀ (l : List (Int32 × Nat)) (d : Nat) (x : Int32) (P : Nat → Prop), sa_sw l d x P → P (sa_tgt l d x)
  | [], _, _, _, h => h
  | (k, t) :: l, d, x, P, h => by
    unfold sa_tgt
    split
    · next hx => exact h.1 hx
    · next hx => exact sa_sw_tgt l d x P (h.2 hx)
theorem ss_tab {l0 : List (Int32 × Nat)} {d0 : Nat} {dflt lo0 hi0 : Int} {offs : Array Int} {len : Nat} (hd : decode cc pc = .ok (.tableswitch dflt lo0 hi0 offs, len)) (h1 : ∀ x : Int32, (x.toInt < lo0 ∨ hi0 < x.toInt) → (pc : Int) + dflt = (sa_tgt l0 d0 x : Int)) (h2 : ∀ x : Int32, ¬ x.toInt < lo0 → ¬ hi0 < x.toInt → ∃ off, offs[(x.toInt - lo0).toNat]? = some off ∧ (pc : Int) + off = (sa_tgt l0 d0 x : Int)) : sa_Sim X own cc nL rt nm fr lr pc (so_sw l0 d0) := by
  intro p l e R s m args below meth c D cI kS b z lc lsl Q hC lo st hs rc rs K H locs ls cells slots hA hop kk
  obtain ⟨hx, hb, -⟩ := hC
  rcases st with _ | ⟨x | r, st⟩ <;> try (exact absurd hop id)
  have hk := sa_sw_tgt _ _ _ _ hop
  have k9 := kk (sa_tgt l0 d0 x) lo st hs rc rs H locs ls cells slots hA hk
  by_cases q : x.toInt < lo0 ∨ hi0 < x.toInt
  · exact lv_tableOut hx hb hd q (h1 x q) k9
  · have q1 : ¬ x.toInt < lo0 := fun h => q (Or.inl h)
    have q2 : ¬ hi0 < x.toInt := fun h => q (Or.inr h)
    obtain ⟨off, e1, e2⟩ := h2 x q1 q2
    exact lv_tableIn hx hb hd q1 q2 e1 e2 k9
theorem ss_look {l0 : List (Int32 × Nat)} {d0 : Nat} {dflt : Int} {ps : Array (Int × Int)} {len : Nat} (hd : decode cc pc = .ok (.lookupswitch dflt ps, len)) (hp : (ps.toList.zip (ps.toList.drop 1)).all (fun (a, next) => a.1 < next.1) = true) (h1 : ∀ x : Int32, (pc : Int) + Op.lookupswitch.offset ps.toList dflt x.toInt = (sa_tgt l0 d0 x : Int)) : sa_Sim X own cc nL rt nm fr lr pc (so_sw l0 d0) := by
  intro p l e R s m args below meth c D cI kS b z lc lsl Q hC lo st hs rc rs K H locs ls cells slots hA hop kk
  obtain ⟨hx, hb, -⟩ := hC
  rcases st with _ | ⟨x | r, st⟩ <;> try (exact absurd hop id)
  have hk := sa_sw_tgt _ _ _ _ hop
  exact lv_lookup hx hb hd hp rfl (h1 x) (kk (sa_tgt l0 d0 x) lo st hs rc rs H locs ls cells slots hA hk)
end SSD
