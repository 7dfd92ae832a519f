/-! THE LAW'S START, IN THE SMALL MACHINE -/
def so_astore (k nx : Nat) : sa_O := fun g K _ => match g.2.2.1 with
  | .inr (.inl (some a)) :: st => K (nx, sa_put g.2.1 k (some (.inr (.inl (some a)))), st, g.2.2.2)
  | _ => False
def so_newl (nx : Nat) : sa_O := fun g K _ => match g.2.2.1 with
  | .inl n :: st => n = 1 ∧ 1 ≤ g.2.2.2.2.1 ∧ 1 ≤ g.2.2.2.2.2 ∧ K (nx, g.2.1, .inr (.inl (some g.2.2.2.1.length)) :: st, g.2.2.2.1 ++ [.inl (.inr (1, fun _ => 0))], g.2.2.2.2.1 - 1, g.2.2.2.2.2 - 1)
  | _ => False
section LW0
variable {X : sa_X} {al : Prop} {own : String} {cc : ByteArray} {nL fr lr : Nat} {pc nx i : Nat} {p : Program} {l : Launch} {e : Env} {R : Room} {s : State} {m : MethodId} {args : Array Value} {below : List Frame} {meth : Method} {c : Code} {D : va_G} {cI : ClassId × ClassId} {kS : Nat → Nat} {b lc lsl : Nat} {Z : State → Prop}
theorem sb_astore_n (hC : sb_Cx X own cc nL fr lr p R s m args c D cI kS b lc lsl) {k : Fin 4} (hi : (k : Nat) = i) (hd : decode cc pc = .ok (.astore_n k, 1)) (hni : i < nL) (hn : pc + 1 = nx) : sb_T (sb_P X al nL p l e R s m args below meth c D cI kS b lc lsl Z) pc (so_astore i nx) := by
  intro lo st hs rc rs hop z hbz hz H locs ls cells slots hA
  change sa_At X nL s D cI kS b z lc lsl lo hs rc rs H locs ls cells slots at hA
  show W p l e R s m args below meth c H locs cells slots Z (F0 m pc ls (st.map (sa_v b kS)))
  obtain ⟨hx, hb, -⟩ := hC
  obtain ⟨hl, hA⟩ := hA
  subst hn
  rcases st with _ | ⟨x | ((_ | a) | j), st⟩ <;> try (exact absurd hop id)
  exact lv_astore_n hx hb hd hi hl hni rfl (fun ls' hl' => hop z hbz hz H locs ls' cells slots ⟨sa_lv_put (v := .inr (.inl (some a))) hl', hA⟩)
theorem sb_newl (hC : sb_Cx X own cc nL fr lr p R s m args c D cI kS b lc lsl) (hd : decode cc pc = .ok (.newarray .long, 2)) (har : Cond.arrayClass .long ∈ X.2.1) (hn : pc + 2 = nx) : sb_T (sb_P X True nL p l e R s m args below meth c D cI kS b lc lsl Z) pc (so_newl nx) := by
  intro lo st hs rc rs hop z hbz hz H locs ls cells slots hA
  change sa_At X nL s D cI kS b z lc lsl lo hs rc rs H locs ls cells slots at hA
  show W p l e R s m args below meth c H locs cells slots Z (F0 m pc ls (st.map (sa_v b kS)))
  obtain ⟨hx, hb, hml, hown, hts, hK, hfr, hlo, hrc, hrs, hX⟩ := hC
  obtain ⟨hl, hP, hsz, hS, hcc, hss⟩ := hA
  subst hn
  rcases st with _ | ⟨n | r, st⟩ <;> try (exact absurd hop id)
  obtain ⟨e1, k1, k2, hop⟩ := hop
  subst e1
  dsimp only at k1 k2
  have hzb : z = b := hz trivial
  subst hzb
  refine va_newaK (atype := .long) (N := 1) hx hb (hts _ har) rfl hd rfl (by decide) rfl (by decide) (by omega) (by omega) hsz fun H1 cA e1 z1 o1 hAr hNm => ?_
  have hcA : cA = cI.2 := Option.some.inj (hNm.symm.trans (hK.1.2 1 _ rfl).2)
  subst hcA
  exact hop z hbz hz H1 locs ls (cells + 1) (slots + 1) ⟨hl, sa_push (e := .inl (.inr (1, fun _ => 0))) hP hsz (by show H1[_]? = some (vp_cell _ _); rw [vp_cell_l]; exact e1) (fun q hq => o1 q (by omega)), by rw [z1]; simp; omega, ⟨Nat.le_trans hS.1 (by omega), fun x q1 q2 => (o1 x (by have := hS.1; omega)).trans (hS.2.1 x q1 q2), hS.2.2⟩, by show cells + 1 + (rc - 1) = lc; omega, by show slots + 1 + (rs - 1) = lsl; omega⟩
end LW0
section LW1
variable {p : Program} {l : Launch} {e : Env} {s : State} {m : MethodId} {args : Array Value} {below : List Frame} {meth : Method} {c : Code} {D : va_G} {cI : ClassId × ClassId} {kS : Nat → Nat} {b : Nat} {Z : State → Prop}
theorem law_pre (hC : sb_Cx sa_EX RL cL_law 7 12 438 p room_1 s m args c D cI kS b 601024 7293034)
    (K : ∀ rc rs, 600000 ≤ rc → 7000000 ≤ rs → sb_P sa_EX True 7 p l e room_1 s m args below meth c D cI kS b 601024 7293034 Z (23, [some (.inr (.inr 5000)), some x0, some x28, some (.inr (.inl (some 44))), some (.inl 0), none, none], [], H00, rc, rs)) :
    sb_P sa_EX True 7 p l e room_1 s m args below meth c D cI kS b 601024 7293034 Z (0, [some (.inr (.inr 5000)), none, none, none, none, none, none], [], [], 601024, 7293034) := by
  refine sb_new (ci := 8) (C := RX10) (T := TX10) hC dL_law_0 rfl inX10 tyX10 tyX10_ok w1_clX10 w1_insX10 w1_iniX10 (sa_dfX10) rfl _ _ _ _ _ ⟨by decide, by decide, ?_⟩
  refine sb_dup hC dL_law_3 rfl _ _ _ _ _ ?_
  refine sb_init (n := 0) (lc' := 40) (ls' := 20000) hC dL_law_4 (cal_X10_init _ _ (by decide) (by decide)) w1_mlX10 w1_imX10 rfl rfl _ _ _ _ _ ⟨by decide, by decide, by decide, ?_⟩
  refine k_X10_init ?_
  refine sb_astore_n hC (i := 1) rfl dL_law_7 (by decide) rfl _ _ _ _ _ ?_
  refine sb_new (ci := 9) (C := RX11) (T := TX11) hC dL_law_8 rfl inX11 tyX11 tyX11_ok w1_clX11 w1_insX11 w1_iniX11 (sa_dfX11) rfl _ _ _ _ _ ⟨by decide, by decide, ?_⟩
  refine sb_dup hC dL_law_11 rfl _ _ _ _ _ ?_
  refine sb_init (n := 0) (lc' := 20) (ls' := 30000) hC dL_law_12 (cal_X11_init _ _ (by decide) (by decide)) w1_mlX11 w1_imX11 rfl rfl _ _ _ _ _ ⟨by decide, by decide, by decide, ?_⟩
  refine k_X11_init (h := H00.take 28) rfl rfl ?_
  refine sb_astore_n hC (i := 2) rfl dL_law_15 (by decide) rfl _ _ _ _ _ ?_
  refine sb_iconst (v := 1) hC dL_law_16 (by decide) rfl _ _ _ _ _ ?_
  refine sb_newl hC dL_law_17 w1_arL rfl _ _ _ _ _ ⟨rfl, by decide, by decide, ?_⟩
  refine sb_astore_n hC (i := 3) rfl dL_law_19 (by decide) rfl _ _ _ _ _ ?_
  refine sb_iconst (v := 0) hC dL_law_20 (by decide) rfl _ _ _ _ _ ?_
  refine sb_istore hC dL_law_21 (by decide) rfl _ _ _ _ _ ?_
  exact K _ _ (by decide) (by decide)
end LW1
