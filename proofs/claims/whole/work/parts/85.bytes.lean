/-! ALL THAT IS WRITTEN, AND ALL CONTENTS THAT ARE READ, ARE BYTES -/
def bL (l : List Int32) : Prop := ∀ v ∈ l, isB v
theorem bL_nil : bL [] := fun v h => absurd h (by simp)
theorem bL_app {a b : List Int32} (h1 : bL a) (h2 : bL b) : bL (a ++ b) := fun v h => (List.mem_append.mp h).elim (h1 v) (h2 v)
theorem bL_cons {a : Int32} {b : List Int32} (h1 : isB a) (h2 : bL b) : bL (a :: b) := fun v h => (List.mem_cons.mp h).elim (fun e => by rw [e]; exact h1) (h2 v)
theorem bL_sub {a b : List Int32} (h : bL b) (hs : ∀ v ∈ a, v ∈ b) : bL a := fun v hv => h v (hs v hv)
theorem isB_nI {m : Nat} (h : m ≤ 255) : isB (nI m) := ⟨(nI_leI (a := 0) (by omega) (by omega)).mpr (Nat.zero_le _), (nI_leI (b := 255) (by omega) (by omega)).mpr h⟩
theorem isB_and (x : Int32) : isB (x &&& 255) := by
  obtain ⟨j, hj, e⟩ := pk_andE x (m := 255) 8 (by decide)
  rw [e]
  exact isB_nI (by omega)
theorem isB_sg (x : Int32) : isB (sg (x &&& 63)) := by
  obtain ⟨j, hj, e⟩ := pk_andE x (m := 63) 6 (by decide)
  unfold sg
  split
  · decide
  · rw [e, show (32 : Int32) = nI 32 from rfl, nI_add]
    exact isB_nI (by omega)
theorem isB_sgn {n : Nat} (h : n ≤ 60) : isB (sg (nI n)) := by
  unfold sg
  split
  · decide
  · rw [show (32 : Int32) = nI 32 from rfl, nI_add]
    exact isB_nI (by omega)
theorem isB_isL {c : Int32} (h : isL c) : isB c := by
  obtain ⟨h1, h2, -⟩ := h
  rw [Int32.le_iff_toInt_le] at h1 h2
  refine ⟨?_, ?_⟩ <;> rw [Int32.le_iff_toInt_le]
  · exact Int.le_trans (by decide) h1
  · exact Int.le_trans h2 (by decide)
theorem bL_rep (n : Nat) {c : Int32} (h : isB c) : bL (List.replicate n c) := fun v hv => by rw [List.eq_of_mem_replicate hv]; exact h
theorem bL_sT : ∀ j, j < 8 → bL (sT j) := by
  unfold bL
  decide +kernel
theorem bL_ite {p : Prop} [Decidable p] {a b : List Int32} (h1 : bL a) (h2 : bL b) : bL (if p then a else b) := by
  split
  · exact h1
  · exact h2
theorem bL_dg (v u : Nat) : isB (dg v u) := isB_nI (by omega)
theorem bL_1 {a : Int32} (h : isB a) : bL [a] := bL_cons h bL_nil
theorem bL_figs (v : Nat) : bL (figs v) := bL_app (bL_app (bL_app (bL_ite (bL_1 (bL_dg v _)) bL_nil) (bL_ite (bL_1 (bL_dg v _)) bL_nil)) (bL_ite (bL_1 (bL_dg v _)) bL_nil)) (bL_1 (bL_dg v 1))
theorem bL_szF (v : Nat) : bL (szF v) := bL_app (bL_app (bL_figs v) (bL_rep _ (by decide))) (bL_sT 3 (by decide))
theorem bL_pad (n : Nat) {c : Int32} (h : isB c) : bL (pad n c) := bL_ite (bL_1 h) bL_nil
theorem bL_getD {N : List (List Int32)} (h : ∀ l ∈ N, bL l) (i : Nat) : bL (N.getD i []) := by
  rw [List.getD_eq_getElem?_getD]
  rcases Nat.lt_or_ge i N.length with hi | hi
  · rw [List.getElem?_eq_getElem hi]
    exact h _ (List.getElem_mem hi)
  · rw [List.getElem?_eq_none hi]; exact bL_nil
theorem bL_row {D : List (List Int32)} (h : ∀ l ∈ D, bL l) (i : Int32) : bL (sS_row D i) := by
  unfold sS_row
  split
  · exact bL_nil
  · first
    | exact bL_getD h _
    | (rw [← List.getD_eq_getElem?_getD]; exact bL_getD h _)
theorem bL_two (v : Int32) : bL (two v) := bL_cons (isB_and _) (bL_1 (isB_and _))
theorem bL_nHead {a b c d e : Int32} (hb : isB b) (hc : isB (c + 1)) : bL (nHead a b c d e) := bL_app (bL_app (bL_app (bL_app (bL_cons (by decide) (bL_1 (by decide))) (bL_two a)) (bL_cons hb (bL_1 hc))) (bL_two d)) (bL_two e)
theorem bL_nEnd (n : Nat) : bL (nEnd n) := bL_app (bL_1 (by decide)) (bL_ite (bL_1 (by decide)) bL_nil)
section BOU
variable {N D : List (List Int32)} {T : List Int32}
theorem bL_tbody (hN : ∀ l ∈ N, bL l) : ∀ i, bL (tbody N i)
  | 0 => bL_nil
  | i + 1 => bL_app (bL_tbody hN i) (bL_ite (bL_app (bL_getD hN i) (bL_sT 4 (by decide))) bL_nil)
theorem bL_hbody (hN : ∀ l ∈ N, bL l) (hD : ∀ l ∈ D, bL l) : ∀ i, bL (hbody N D T i)
  | 0 => bL_nil
  | i + 1 => bL_app (bL_hbody hN hD i) (bL_app (bL_app (bL_app (bL_app (bL_ite (bL_app (bL_1 (by decide)) (bL_figs _)) (bL_app (bL_getD hN i) (bL_1 (by decide)))) (bL_rep _ (by decide))) (bL_szF _)) (bL_row hD _)) (bL_pad _ (by decide)))
theorem bL_hdsL (hN : ∀ l ∈ N, bL l) (hD : ∀ l ∈ D, bL l) : bL (hdsL N D T) := bL_app (bL_app (bL_sT 1 (by decide)) (bL_ite bL_nil (bL_app (bL_app (bL_app (bL_app (bL_sT 2 (by decide)) (bL_rep _ (by decide))) (bL_szF _)) (bL_tbody hN _)) (bL_pad _ (by decide))))) (bL_hbody hN hD _)
theorem bL_nBody (hN : ∀ l ∈ N, bL l) (hD : ∀ l ∈ D, bL l) (hn : N.length ≤ 12) (h20 : ∀ l ∈ N, l.length ≤ 20) : ∀ i, bL (nBody N D T i)
  | 0 => bL_nil
  | i + 1 => by
    refine bL_app (bL_nBody hN hD hn h20 i) (bL_app (bL_app (bL_app (bL_app (bL_nHead ?_ ?_) (bL_getD hN i)) (bL_nEnd _)) (bL_ite (bL_row hD _) bL_nil)) (bL_pad _ (by decide)))
    · have := cntP_le (smR T i) N.length
      exact isB_nI (by omega)
    · have := getD_le h20 i
      rw [nI_1]
      exact isB_nI (by omega)
theorem bL_gs (c : List Int32) (f : Nat) : ∀ j, bL (gs c f j)
  | 0 => bL_nil
  | j + 1 => bL_app (bL_gs c f j) (bL_cons (isB_sg _) (bL_cons (isB_sg _) (bL_cons (isB_sg _) (bL_1 (isB_sg _)))))
theorem bL_lns (c : List Int32) : ∀ j, bL (lns c j)
  | 0 => bL_nil
  | j + 1 => bL_app (bL_lns c j) (bL_app (bL_app (bL_1 (isB_sgn (by omega))) (bL_gs _ _ _)) (bL_1 (by decide)))
theorem bL_lBody (hN : ∀ l ∈ N, bL l) : ∀ i, bL (lBody N D T i)
  | 0 => bL_nil
  | i + 1 => bL_app (bL_lBody hN i) (bL_app (bL_app (bL_app (bL_app (bL_app (bL_sT 5 (by decide)) (bL_getD hN i)) (bL_1 (by decide))) (bL_lns _ _)) (bL_cons (by decide) (bL_1 (by decide)))) (bL_sT 6 (by decide)))
theorem bL_outL (f : Int32) (hI : sIF N D T) (hn : N.length ≤ 12) : bL (outL f N D T) := by
  have hN : ∀ l ∈ N, bL l := fun l hl v hv => isB_isL (hI.2.1 l hl v hv)
  have hD : ∀ l ∈ D, bL l := fun l hl => hI.2.2.2.1 l hl
  unfold outL
  split
  · exact bL_hdsL hN hD
  · split
    · exact bL_app (bL_nBody hN hD hn hI.1 _) (bL_app (bL_app (bL_nHead (by decide) (by decide)) (bL_sT 0 (by decide))) (bL_nEnd _))
    · exact bL_lBody hN _
end BOU
theorem bL_bt (v : Nat) : ∀ m, bL ((List.range m).map (bt v)) := by
  intro m x hx
  obtain ⟨j, -, rfl⟩ := List.mem_map.mp hx
  exact isB_and _
theorem bL_sgS {l : List Int32} {n : Nat} : ∀ {g k p : Nat} {acc : List Int32} {x : List Int32 × Nat}, bL acc → sgS l n g k p acc = .inl x → bL x.1
  | 0, k, p, acc, x, ha, h => by
    have := Sum.inl.inj h
    rw [← this]
    exact ha
  | g + 1, k, p, acc, x, ha, h => by
    unfold sgS at h
    obtain ⟨y, -, h⟩ := rX.b_inl h
    exact bL_sgS (bL_app ha (bL_bt _ _)) h
theorem bL_lnS {l : List Int32} : ∀ {f b p : Nat} {acc : List Int32} {x : List Int32 × Nat}, bL acc → lnS l f b p acc = .inl x → bL x.1
  | 0, b, p, acc, x, ha, h => absurd (rf_inl h) id
  | f + 1, b, p, acc, x, ha, h => by
    unfold lnS at h
    split at h
    · exact absurd (rf_inl h) id
    · split at h
      · exact absurd (rf_inl h) id
      · split at h
        · have := Sum.inl.inj h
          rw [← this]
          exact ha
        · obtain ⟨y, h1, h⟩ := rX.b_inl h
          obtain ⟨q, -, h⟩ := rX.b_inl h
          exact bL_lnS (bL_sgS ha h1) h
theorem bL_r2 {l : List Int32} {p : Nat} {x : (List Int32 × List Int32) × Nat} (h : r2 l p = .inl x) : bL x.1.2 := by
  unfold r2 at h
  obtain ⟨p1, -, h⟩ := rX.b_inl h
  obtain ⟨p2, -, h⟩ := rX.b_inl h
  obtain ⟨y, h3, h⟩ := rX.b_inl h
  obtain ⟨p4, -, h⟩ := rX.b_inl h
  obtain ⟨p5, -, h⟩ := rX.b_inl h
  have := Sum.inl.inj h
  rw [← this]
  exact bL_lnS bL_nil h3
theorem bL_td {l : List Int32} (h : bL l) (p n : Nat) : bL ((l.drop p).take n) := fun v hv => h v (List.mem_of_mem_drop (List.mem_of_mem_take hv))
theorem bL_r1 {l : List Int32} (hB : bL l) {p : Nat} {x : g1X} (h : r1 l p = .inl x) : bL x.1.2 := by
  unfold r1 at h
  obtain ⟨p1, -, h⟩ := rX.b_inl h
  obtain ⟨p2, -, h⟩ := rX.b_inl h
  obtain ⟨y, -, h⟩ := rX.b_inl h
  obtain ⟨p5, -, h⟩ := rX.b_inl h
  unfold r1d at h
  obtain ⟨p6, -, h⟩ := rX.b_inl h
  split at h
  · exact absurd h (by simp)
  · obtain ⟨p7, -, h⟩ := rX.b_inl h
    have := Sum.inl.inj h
    rw [← this]
    exact bL_td hB _ _
theorem bL_r0 {l : List Int32} (hB : bL l) {tb : Option (List Int32)} {p : Nat} {y : List Int32 × List Int32} {p' : Nat} (h : r0 l tb p = .inl (.inl y, p')) : bL y.2 := by
  rw [r0_eq] at h
  obtain ⟨k, h1, h⟩ := rX.b_inl h
  obtain ⟨s, h2, h⟩ := rX.b_inl h
  obtain ⟨p3, h3, h⟩ := rX.b_inl h
  have go : ∀ w : List Int32, ct0 l p s w = .inl (.inl y, p') → bL y.2 := by
    intro w hc
    obtain ⟨p', e, -⟩ := ct0_ok hc
    have e2 := Sum.inl.inj (Prod.mk.inj e).1
    rw [e2]
    exact bL_td hB _ _
  cases k with
  | inl w => exact go w h
  | inr ov =>
    cases ov with
    | some v =>
      obtain ⟨w, hw, h⟩ := rX.b_inl (show rX.b (lgN tb v p) (ct0 l p s) = .inl (.inl y, p') from h)
      exact go w h
    | none =>
      obtain ⟨p', e, -⟩ := tb0_ok (show tb0 l p s = .inl (.inl y, p') from h)
      exact absurd (Prod.mk.inj e).1 (by simp)
theorem bL_snoc {D : List (List Int32)} {d : List Int32} (h : ∀ x ∈ D, bL x) (hd : bL d) : ∀ x ∈ D ++ [d], bL x := fun x hx => (List.mem_append.mp hx).elim (h x) (fun q => by rw [List.mem_singleton.mp q]; exact hd)
theorem bL_lq2 {l : List Int32} : ∀ {f p : Nat} {z z' : gL} {r : rX Nat}, (∀ d ∈ z.2.1, bL d) → lq2 l f p z = (z', r) → ∀ d ∈ z'.2.1, bL d
  | 0, p, z, z', r, hz, h => by
    have := (Prod.mk.inj h).1
    rw [← this]; exact hz
  | f + 1, p, z, z', r, hz, h => by
    by_cases hp : p < l.length
    · cases hx : r2 l p with
      | inl x =>
        rw [lq2_in hp hx] at h
        exact bL_lq2 (bL_snoc hz (bL_r2 hx)) h
      | inr e =>
        rw [lq2_no hp hx] at h
        have := (Prod.mk.inj h).1
        rw [← this]; exact hz
    · rw [lq2_end hp] at h
      have := (Prod.mk.inj h).1
      rw [← this]; exact hz
theorem bL_lq1 {l : List Int32} (hB : bL l) : ∀ {f p : Nat} {z z' : g5} {r : rX Nat}, (∀ d ∈ z.2.1, bL d) → lq1 l f p z = (z', r) → ∀ d ∈ z'.2.1, bL d
  | 0, p, z, z', r, hz, h => by
    have := (Prod.mk.inj h).1
    rw [← this]; exact hz
  | f + 1, p, z, z', r, hz, h => by
    cases hx : r1 l p with
    | inl x =>
      by_cases ht : x.1.1 = sT 0
      · rw [lq1_tr hx ht] at h
        have := (Prod.mk.inj h).1
        rw [← this]; exact hz
      · rw [lq1_in hx ht] at h
        exact bL_lq1 hB (bL_snoc hz (bL_r1 hB hx)) h
    | inr e =>
      rw [lq1_no hx] at h
      have := (Prod.mk.inj h).1
      rw [← this]; exact hz
theorem bL_lq0 {l : List Int32} (hB : bL l) : ∀ {f p : Nat} {tb : Option (List Int32)} {z z' : gL} {r : rX Nat}, (∀ d ∈ z.2.1, bL d) → lq0 l f p tb z = (z', r) → ∀ d ∈ z'.2.1, bL d
  | 0, p, tb, z, z', r, hz, h => by
    have := (Prod.mk.inj h).1
    rw [← this]; exact hz
  | f + 1, p, tb, z, z', r, hz, h => by
    by_cases hp : p < l.length
    · cases hx : r0 l tb p with
      | inl x =>
        obtain ⟨k, p'⟩ := x
        cases k with
        | inl y =>
          rw [lq0_in hp hx] at h
          exact bL_lq0 hB (bL_snoc hz (bL_r0 hB hx)) h
        | inr b =>
          rw [lq0_tb hp hx] at h
          exact bL_lq0 hB hz h
      | inr e =>
        rw [lq0_no hp hx] at h
        have := (Prod.mk.inj h).1
        rw [← this]; exact hz
    · rw [lq0_end hp] at h
      have := (Prod.mk.inj h).1
      rw [← this]; exact hz
theorem bL_qq0 {l : List Int32} (hB : bL l) {z : gL} {r : rX Nat} (h : qq0 l = (z, r)) : ∀ d ∈ z.2.1, bL d := by
  unfold qq0 at h
  split at h
  · exact bL_lq0 hB (fun d hd => absurd hd (by simp)) h
  · have := (Prod.mk.inj h).1
    rw [← this]
    exact fun d hd => absurd hd (by simp)
