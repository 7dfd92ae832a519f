/-! THE LAW'S LAST STEPS -/
theorem lg_cmp0 (x y : Int64) : lg_cmp x y = 0 ↔ x = y := by
  unfold lg_cmp
  split
  · next h =>
    refine ⟨fun h2 => absurd h2 (by decide), fun h2 => ?_⟩
    subst h2
    exact absurd h (by rw [gt_iff_lt, Int64.lt_iff_toInt_lt]; exact Int.lt_irrefl _)
  · split
    · next h => exact ⟨fun _ => h, fun _ => rfl⟩
    · next h => exact ⟨fun h2 => absurd h2 (by decide), fun h2 => absurd h2 h⟩
section LO2
variable {al : Prop} {own : String} {cc : ByteArray} {nL fr lr : Nat} {pc nx tgt : Nat} {p : Program} {l : Launch} {e : Env} {R : Room} {s : State} {m : MethodId} {args : Array Value} {below : List Frame} {meth : Method} {c : Code} {D : va_G} {cI : ClassId × ClassId} {kS : Nat → Nat} {b lc lsl : Nat} {Z : State → Prop} {bs : Nat} {off : Int}
theorem sl_lcm (hC : sb_Cx sa_EX own cc nL fr lr p R s m args c D cI kS b lc lsl) (d0 : decode cc pc = .ok (.aload_n 3, 1)) (d1 : decode cc (pc + 1) = .ok (.iconst 0, 1)) (d2 : decode cc (pc + 2) = .ok (.laload, 1)) (d3 : decode cc (pc + 3) = .ok (.iload 6, 2)) (d5 : decode cc (pc + 5) = .ok (.i2l, 1)) (d6 : decode cc (pc + 6) = .ok (.lcmp, 1)) (d7 : decode cc (pc + 7) = .ok (.ifCond .eq off, 3)) (ht : ((pc + 7 : Nat) : Int) + off = (tgt : Int)) (hn : pc + 10 = nx) : sb_T (sb_P sa_EX al nL p l e R s m args below meth c D cI kS b lc lsl Z) pc (so_lcm tgt nx) := by
  intro lo st hs rc rs hop z hbz hz H locs ls cells slots hA
  have hA' := hA
  obtain ⟨hl, hP, hsz, hS, hcc, hss⟩ := hA
  dsimp only at hl hP hsz hS hcc hss
  obtain ⟨hx, hb, hml, hown, hts, hK, -⟩ := hC
  unfold so_lcm at hop
  dsimp only at hop
  split at hop
  · next q y h3 h6 =>
    obtain ⟨e1, o, h44, k1, k2⟩ := hop
    subst e1; subst hn
    show W p l e R s m args below meth c H locs cells slots Z (F0 m pc ls [])
    refine lv_aload_n hx hb d0 rfl (sa_lv_at hl h3) ?_
    refine lv_iconst hx hb d1 (v := 0) (by decide) ?_
    refine va_lald hx hb hK.1 hP 44 1 (sa_ws_get h44) rfl (i := 0) (by show ¬ ((0 : Int32) < 0 ∨ 1 ≤ (0 : Int32).toNatClampNeg); decide) d2 ?_
    refine lv_iload hx hb d3 (sa_lv_at hl h6) ?_
    refine lv_i2l hx hb d5 (v := y.toInt64) rfl ?_
    refine W.lcmp hx hb d6 ?_
    refine lv_if_eq hx hb d7 ht (fun q => ?_) (fun q => ?_)
    · exact k1 ((lg_cmp0 _ _).mp q) z hbz hz H locs ls cells slots hA'
    · exact k2 (fun c => q ((lg_cmp0 _ _).mpr c)) z hbz hz H locs ls cells slots hA'
  · exact absurd hop id
theorem sl_one (hC : sb_Cx sa_EX own code nL fr lr p room_1 s m #[Value.ref bs] c D cI kS b 601024 7293034) (hr : meth.sig.returnType = ret) (hlk : meth.locks = false) (hb : b = s.heap.size) (hd : decode code pc = .ok (.ireturn, 1)) : sb_T (sb_P sa_EX al nL p l e room_1 s m #[Value.ref bs] below meth c D cI kS b 601024 7293034 (lw_Z below #[Value.ref bs] s)) pc so_one := by
  intro lo st hs rc rs hop z hbz hz H locs ls cells slots hA
  obtain ⟨hl, hP, hsz, hS, hcc, hss⟩ := hA
  dsimp only at hl hP hsz hS hcc hss
  rcases st with _ | ⟨x | r, _ | ⟨v, st⟩⟩ <;> try (exact absurd hop id)
  have hop : x = 1 := hop
  subst hop
  refine va_forget (fun q hq => by have := hS.2.2 q hq; rw [← hb]; exact this) ?_
  refine W.widen (k := 601024) (n := 7293034) (by omega) (by omega) ?_
  exact lw_ret hC.1 hC.2.1 hr hlk hd
end LO2
