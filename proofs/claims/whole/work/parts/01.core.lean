/-! THE SMALL MACHINE. Values are ints, cells by their number, string constants by their number. A heap is a row of cells: cell k lies at b + k. A method's code is a row of steps, each a transformer of predicates. -/
abbrev sa_V : Type := Int32 ⊕ (Option Nat ⊕ Nat)
abbrev sa_E : Type := ((Nat × (Nat → Int32)) ⊕ (Nat × (Nat → Int64))) ⊕ (Nat × List sa_V)
abbrev sa_H : Type := List sa_E
abbrev sa_G : Type := Nat × List (Option sa_V) × List sa_V × sa_H × Nat × Nat
abbrev sa_Q : Type := Option sa_V → sa_H → Prop
abbrev sa_O : Type := sa_G → (sa_G → Prop) → sa_Q → Prop
abbrev sa_C : Type := Nat → Nat → List sa_V → sa_H → sa_Q → Prop
def sa_nth {α : Type} : List α → Nat → Option α
  | [], _ => none
  | a :: _, 0 => some a
  | _ :: l, n + 1 => sa_nth l n
theorem sa_nth_eq {α : Type} : ∀ (l : List α) (n : Nat), sa_nth l n = l[n]?
  | [], n => by simp [sa_nth]
  | a :: l, 0 => by simp [sa_nth]
  | a :: l, n + 1 => by simp [sa_nth, sa_nth_eq l n]
def sa_put {α : Type} : List α → Nat → α → List α
  | [], _, _ => []
  | _ :: l, 0, x => x :: l
  | a :: l, n + 1, x => a :: sa_put l n x
theorem sa_put_eq {α : Type} : ∀ (l : List α) (n : Nat) (x : α), sa_put l n x = l.set n x
  | [], n, x => by simp [sa_put]
  | a :: l, 0, x => by simp [sa_put]
  | a :: l, n + 1, x => by simp [sa_put, sa_put_eq l n x]
abbrev sa_T : Type := List (Nat × sa_O)
def sa_op : sa_T → Nat → Option sa_O
  | [], _ => none
  | (k, o) :: l, n => match Nat.beq k n with
    | true => some o
    | false => sa_op l n
/-- the weakest precondition: the least predicate that the steps lead to -/
def sa_w (tbl : sa_T) (g : sa_G) (Q : sa_Q) : Prop := ∀ P : sa_G → Prop, (∀ (g' : sa_G) (op : sa_O), sa_op tbl g'.1 = some op → op g' P Q → P g') → P g
def sa_in (nL : Nat) (av : List sa_V) : List (Option sa_V) := av.map some ++ List.replicate (nL - av.length) none
def sa_ct (tbl : sa_T) (nL : Nat) : sa_C := fun lc ls av hs Q => sa_w tbl (0, sa_in nL av, [], hs, lc, ls) Q
/-- n arguments off the stack -/
def sa_split : Nat → List sa_V → Option (List sa_V × List sa_V)
  | 0, st => some ([], st)
  | _ + 1, [] => none
  | n + 1, v :: st => match sa_split n st with
    | some (as, r) => some (as ++ [v], r)
    | none => none
theorem sa_split_eq : ∀ (n : Nat) (st as r : List sa_V), sa_split n st = some (as, r) → st = as.reverse ++ r ∧ as.length = n
  | 0, st, as, r, h => by
    simp [sa_split] at h
    obtain ⟨h1, h2⟩ := h
    subst h1; subst h2
    simp
  | n + 1, [], as, r, h => by simp [sa_split] at h
  | n + 1, v :: st, as, r, h => by
    cases hq : sa_split n st with
    | none => simp [sa_split, hq] at h
    | some x =>
      obtain ⟨as', r'⟩ := x
      simp [sa_split, hq] at h
      obtain ⟨h1, h2⟩ := h
      subst h1; subst h2
      obtain ⟨e1, e2⟩ := sa_split_eq n st as' r' hq
      subst e1
      simp [e2]
-- ===== the steps =====
def so_bad : sa_O := fun _ _ _ => False
def so_push (v : sa_V) (nx : Nat) : sa_O := fun g K _ => K (nx, g.2.1, v :: g.2.2.1, g.2.2.2)
def so_iload (k nx : Nat) : sa_O := fun g K _ => match sa_nth g.2.1 k with
  | some (some (.inl x)) => K (nx, g.2.1, .inl x :: g.2.2.1, g.2.2.2)
  | _ => False
def so_aload (k nx : Nat) : sa_O := fun g K _ => match sa_nth g.2.1 k with
  | some (some (.inr r)) => K (nx, g.2.1, .inr r :: g.2.2.1, g.2.2.2)
  | _ => False
def so_istore (k nx : Nat) : sa_O := fun g K _ => match g.2.2.1 with
  | .inl x :: st => K (nx, sa_put g.2.1 k (some (.inl x)), st, g.2.2.2)
  | _ => False
def so_iinc (k : Nat) (d : Int32) (nx : Nat) : sa_O := fun g K _ => match sa_nth g.2.1 k with
  | some (some (.inl x)) => K (nx, sa_put g.2.1 k (some (.inl (x + d))), g.2.2)
  | _ => False
def so_un (f : Int32 → Int32) (nx : Nat) : sa_O := fun g K _ => match g.2.2.1 with
  | .inl x :: st => K (nx, g.2.1, .inl (f x) :: st, g.2.2.2)
  | _ => False
def so_bin (f : Int32 → Int32 → Int32) (nx : Nat) : sa_O := fun g K _ => match g.2.2.1 with
  | .inl y :: .inl x :: st => K (nx, g.2.1, .inl (f x y) :: st, g.2.2.2)
  | _ => False
def so_div (f : Int32 → Int32 → Int32) (nx : Nat) : sa_O := fun g K _ => match g.2.2.1 with
  | .inl y :: .inl x :: st => ¬ y = 0 ∧ K (nx, g.2.1, .inl (f x y) :: st, g.2.2.2)
  | _ => False
def so_if (c : Int32 → Prop) (tg nx : Nat) : sa_O := fun g K _ => match g.2.2.1 with
  | .inl x :: st => (c x → K (tg, g.2.1, st, g.2.2.2)) ∧ (¬ c x → K (nx, g.2.1, st, g.2.2.2))
  | _ => False
def so_cmp (c : Int32 → Int32 → Prop) (tg nx : Nat) : sa_O := fun g K _ => match g.2.2.1 with
  | .inl y :: .inl x :: st => (c x y → K (tg, g.2.1, st, g.2.2.2)) ∧ (¬ c x y → K (nx, g.2.1, st, g.2.2.2))
  | _ => False
def so_goto (tg : Nat) : sa_O := fun g K _ => K (tg, g.2)
def so_dup (nx : Nat) : sa_O := fun g K _ => match g.2.2.1 with
  | v :: st => K (nx, g.2.1, v :: v :: st, g.2.2.2)
  | _ => False
def so_dupx1 (nx : Nat) : sa_O := fun g K _ => match g.2.2.1 with
  | v :: w :: st => K (nx, g.2.1, v :: w :: v :: st, g.2.2.2)
  | _ => False
def so_dup2 (nx : Nat) : sa_O := fun g K _ => match g.2.2.1 with
  | v :: w :: st => K (nx, g.2.1, v :: w :: v :: w :: st, g.2.2.2)
  | _ => False
/-- a switch: the first place whose number it is, or the last one -/
def sa_sw : List (Int32 × Nat) → Nat → Int32 → (Nat → Prop) → Prop
  | [], d, _, P => P d
  | (k, t) :: l, d, x, P => (x = k → P t) ∧ (¬ x = k → sa_sw l d x P)
def so_sw (l : List (Int32 × Nat)) (d : Nat) : sa_O := fun g K _ => match g.2.2.1 with
  | .inl x :: st => sa_sw l d x (fun t => K (t, g.2.1, st, g.2.2.2))
  | _ => False
def so_bin8 (f : Int32 → Int32 → Int32) (nx : Nat) : sa_O := fun g K _ => match g.2.2.1 with
  | .inl y :: .inl x :: st => st.length ≤ 8 ∧ K (nx, g.2.1, .inl (f x y) :: st, g.2.2.2)
  | _ => False
def so_pop (nx : Nat) : sa_O := fun g K _ => match g.2.2.1 with
  | _ :: st => K (nx, g.2.1, st, g.2.2.2)
  | _ => False
def so_get (cis : List Nat) (k nx : Nat) : sa_O := fun g K _ => match g.2.2.1 with
  | .inr (.inl (some a)) :: st => match sa_nth g.2.2.2.1 a with
    | some (.inr (ci, fs)) => match sa_nth fs k with
      | some v => cis.contains ci = true ∧ K (nx, g.2.1, v :: st, g.2.2.2)
      | _ => False
    | _ => False
  | _ => False
/-- what a field takes: 0 an int, 1 a reference, 2 a boolean -/
def sa_fit (kd : Nat) : sa_V → Prop
  | .inl x => kd = 0 ∨ (kd = 2 ∧ (x = 0 ∨ x = 1))
  | .inr _ => kd = 1
def so_put (cis : List Nat) (k kd nx : Nat) : sa_O := fun g K _ => match g.2.2.1 with
  | v :: .inr (.inl (some a)) :: st => match sa_nth g.2.2.2.1 a with
    | some (.inr (ci, fs)) => cis.contains ci = true ∧ sa_fit kd v ∧ k < fs.length ∧ K (nx, g.2.1, st, sa_put g.2.2.2.1 a (.inr (ci, sa_put fs k v)), g.2.2.2.2)
    | _ => False
  | _ => False
def so_iald (nx : Nat) : sa_O := fun g K _ => match g.2.2.1 with
  | .inl i :: .inr (.inl (some a)) :: st => match sa_nth g.2.2.2.1 a with
    | some (.inl (.inl (n, f))) => vp_in i n ∧ K (nx, g.2.1, .inl (f i.toNatClampNeg) :: st, g.2.2.2)
    | _ => False
  | _ => False
def so_iast (nx : Nat) : sa_O := fun g K _ => match g.2.2.1 with
  | .inl x :: .inl i :: .inr (.inl (some a)) :: st => match sa_nth g.2.2.2.1 a with
    | some (.inl (.inl (n, f))) => vp_in i n ∧ K (nx, g.2.1, st, sa_put g.2.2.2.1 a (.inl (.inl (n, upd f i.toNatClampNeg x))), g.2.2.2.2)
    | _ => False
  | _ => False
def so_alen (nx : Nat) : sa_O := fun g K _ => match g.2.2.1 with
  | .inr (.inl (some a)) :: st => match sa_nth g.2.2.2.1 a with
    | some (.inl (.inl (n, _))) => K (nx, g.2.1, .inl (Int32.ofNat n) :: st, g.2.2.2)
    | _ => False
  | _ => False
def so_new (ci N : Nat) (fs : List sa_V) (nx : Nat) : sa_O := fun g K _ => 1 ≤ g.2.2.2.2.1 ∧ N ≤ g.2.2.2.2.2 ∧ K (nx, g.2.1, .inr (.inl (some g.2.2.2.1.length)) :: g.2.2.1, g.2.2.2.1 ++ [.inr (ci, fs)], g.2.2.2.2.1 - 1, g.2.2.2.2.2 - N)
def so_newa (nx : Nat) : sa_O := fun g K _ => match g.2.2.1 with
  | .inl n :: st => ¬ n < 0 ∧ n.toNatClampNeg * 4 ≤ 536870912 ∧ 1 ≤ g.2.2.2.2.1 ∧ n.toNatClampNeg ≤ g.2.2.2.2.2 ∧ K (nx, g.2.1, .inr (.inl (some g.2.2.2.1.length)) :: st, g.2.2.2.1 ++ [.inl (.inl (n.toNatClampNeg, fun _ => 0))], g.2.2.2.2.1 - 1, g.2.2.2.2.2 - n.toNatClampNeg)
  | _ => False
def so_obj (nx : Nat) : sa_O := fun g K _ => match g.2.2.1 with
  | .inr (.inl (some _)) :: st => st.length ≤ 8 ∧ K (nx, g.2.1, st, g.2.2.2)
  | _ => False
def so_ret : sa_O := fun g _ Q => match g.2.2.1 with
  | [] => Q none g.2.2.2.1
  | _ => False
def so_iret : sa_O := fun g _ Q => match g.2.2.1 with
  | [.inl x] => Q (some (.inl x)) g.2.2.2.1
  | _ => False
def so_zret : sa_O := fun g _ Q => match g.2.2.1 with
  | [.inl x] => (x = 0 ∨ x = 1) ∧ Q (some (.inl x)) g.2.2.2.1
  | _ => False
def so_aret : sa_O := fun g _ Q => match g.2.2.1 with
  | [.inr r] => Q (some (.inr r)) g.2.2.2.1
  | _ => False
/-- a static call -/
def so_stat (ct : sa_C) (n lc ls nx : Nat) : sa_O := fun g K _ => match sa_split n g.2.2.1 with
  | some (as, st) => st.length ≤ 8 ∧ lc ≤ g.2.2.2.2.1 ∧ ls ≤ g.2.2.2.2.2 ∧ ct lc ls as g.2.2.2.1 (fun rv hs => K (nx, g.2.1, rv.toList ++ st, hs, g.2.2.2.2.1 - lc, g.2.2.2.2.2 - ls))
  | none => False
/-- a constructor's call -/
def so_init (ct : sa_C) (n lc ls nx : Nat) : sa_O := fun g K _ => match sa_split n g.2.2.1 with
  | some (as, .inr (.inl (some a)) :: st) => st.length ≤ 8 ∧ lc ≤ g.2.2.2.2.1 ∧ ls ≤ g.2.2.2.2.2 ∧ ct lc ls (.inr (.inl (some a)) :: as) g.2.2.2.1 (fun rv hs => K (nx, g.2.1, rv.toList ++ st, hs, g.2.2.2.2.1 - lc, g.2.2.2.2.2 - ls))
  | _ => False
def sa_sel : List (Nat × sa_C) → Nat → Option sa_C
  | [], _ => none
  | (c, t) :: l, k => if c = k then some t else sa_sel l k
/-- a call by the receiver's class -/
def so_virt (alts : List (Nat × sa_C)) (n lc ls nx : Nat) : sa_O := fun g K _ => match sa_split n g.2.2.1 with
  | some (as, .inr (.inl (some a)) :: st) => match sa_nth g.2.2.2.1 a with
    | some (.inr (ci, _)) => match sa_sel alts ci with
      | some ct => st.length ≤ 8 ∧ lc ≤ g.2.2.2.2.1 ∧ ls ≤ g.2.2.2.2.2 ∧ ct lc ls (.inr (.inl (some a)) :: as) g.2.2.2.1 (fun rv hs => K (nx, g.2.1, rv.toList ++ st, hs, g.2.2.2.2.1 - lc, g.2.2.2.2.2 - ls))
      | none => False
    | _ => False
  | _ => False
/-- string constants: number j is the String itself, 1000 + j its bytes; 3000 the one object of which nothing is known -/
def so_getq (nx : Nat) : sa_O := fun g K _ => K (nx, g.2.1, .inr (.inr 3000) :: g.2.2.1, g.2.2.2) ∧ K (nx, g.2.1, .inr (.inl none) :: g.2.2.1, g.2.2.2)
def so_sval (N nx : Nat) : sa_O := fun g K _ => match g.2.2.1 with
  | .inr (.inr j) :: st => j < N ∧ K (nx, g.2.1, .inr (.inr (1000 + j)) :: st, g.2.2.2)
  | _ => False
def so_scod (N nx : Nat) : sa_O := fun g K _ => match g.2.2.1 with
  | .inr (.inr j) :: st => j < N ∧ K (nx, g.2.1, .inl 0 :: st, g.2.2.2)
  | _ => False
def so_blen (N : Nat) (ln : List Nat) (nx : Nat) : sa_O := fun g K _ => match g.2.2.1 with
  | .inr (.inr k) :: st => 1000 ≤ k ∧ k - 1000 < N ∧ K (nx, g.2.1, .inl (Int32.ofNat (ln.getD (k - 1000) 0)) :: st, g.2.2.2)
  | _ => False
def so_bald (N : Nat) (ln : List Nat) (bt : List (List Int32)) (nx : Nat) : sa_O := fun g K _ => match g.2.2.1 with
  | .inl i :: .inr (.inr k) :: st => 1000 ≤ k ∧ k - 1000 < N ∧ vp_in i (ln.getD (k - 1000) 0) ∧ K (nx, g.2.1, .inl ((bt.getD (k - 1000) []).getD i.toNatClampNeg 0) :: st, g.2.2.2)
  | _ => False
def so_nret (ty : FieldType) : sa_O := fun g _ Q => match g.2.2.1 with
  | [.inl x] => narrow ty (.int x) = .int x ∧ Q (some (.inl x)) g.2.2.2.1
  | _ => False
def so_svirt (N : Nat) (ct : sa_C) (n nx : Nat) : sa_O := fun g K _ => match sa_split n g.2.2.1 with
  | some (as, .inr (.inr j) :: st) => st.length ≤ 8 ∧ j < N ∧ ct 0 0 (.inr (.inr j) :: as) g.2.2.2.1 (fun rv hs => K (nx, g.2.1, rv.toList ++ st, hs, g.2.2.2.2))
  | _ => False
