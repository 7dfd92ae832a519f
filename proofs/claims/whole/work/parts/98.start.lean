/-! THE LAW, FROM ITS ENTRY -/
theorem whole_start {p : Program} {e : Env} {s : State} {m : MethodId} {below : List Frame} {meth : Method} {c : Code} (l : Launch) (hl0 : l.stackTraces = false) {b L : Nat} {xs : Nat → Int32} (hL : L ≤ 2048) (C0 : lw_At p s m meth c b L xs) : W p l e room_1 s m #[Value.ref b] below meth c s.heap [] 0 0 (lw_Z below #[Value.ref b] s) (entryFrame m ([Value.ref b] : List Value).toArray 7) := by
  obtain ⟨hx, hb, hr, hml, hown, hts, hX, hbl, hlocks, hgv⟩ := C0
  obtain ⟨D, cI, kS, e5, hK, hKx⟩ := gv_K hts hgv
  have hC : sb_Cx sa_EX RL cL_law 7 12 438 p room_1 s m #[Value.ref b] c D cI kS s.heap.size 601024 7293034 := ⟨hx, hb, hml, hown, fun w hw => by rw [sa_e1] at hw; unfold sa_tb at hw; exact hts w (List.mem_filter.mp hw).1, hK, rfl, rfl, rfl, rfl, sa_EX_ok⟩
  have hl := lv_entry ([.ref b]) (n := 7) (Nat.le_of_ble_eq_true rfl)
  rw [lg_entry_eq]
  generalize (lg_sl ([.ref b]) ++ List.replicate (7 - (lg_sl ([.ref b])).length) Slot.unset).toArray = ls at hl ⊢
  have hl : lv_has ls 7 [(0, .ref b)] := hl
  have hgo := law_pre (l := l) (e := e) (below := below) (meth := meth) (Z := lw_Z below #[Value.ref b] s) hC (fun rc rs h1 h2 => by
    have hw := law_loop (xs := xs) (Q := fun _ _ => False) hL 512 0 H00 rc rs none none inv_00 (by omega) (by omega) (by omega) (by omega)
    have hs := sb_sound (law_all (l := l) (e := e) (below := below) (meth := meth) hC hX hbl e5 rfl hl0 hKx hr hlocks rfl) _ hw
    exact fun z hbz _ => hs z hbz (fun f => f.elim))
  refine hgo s.heap.size (Nat.le_refl _) (fun _ => rfl) s.heap [] ls 0 0 ⟨?_, fun k q h => by simp [sa_ws] at h, rfl, va_S.rf, rfl, rfl⟩
  show lv_has ls 7 [(0, .ref (kS 5000))]
  rw [e5]; exact hl
