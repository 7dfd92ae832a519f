/-! WHAT HOLDS BETWEEN CALLS, AND THAT EACH CALL ANSWERS ALIKE -/
section FIV
variable {N D : List (List Int32)} {T : List Int32}
theorem sIF_nil : sIF [] [] [] := ⟨by simp, by simp, by simp, by simp, by simp, by simp⟩
theorem snoc_of {α : Type} {L : List α} (h : L ≠ []) : ∃ M w, L = M ++ [w] := ⟨L.dropLast, L.getLast h, (List.dropLast_concat_getLast h).symm⟩
theorem lastD_snoc {α : Type} (M : List α) (w d : α) : (M ++ [w]).getLastD d = w := by
  rw [List.getLastD_eq_getLast?, List.getLast?_concat]; rfl
theorem sIF_file (hI : sIF N D T) (hD : D.length = N.length) (hT : T.length = N.length) (hl : N = [] ∨ N.getLastD [] ≠ []) : sIF (N ++ [[]]) (D ++ [[]]) (T ++ [-1]) := by
  obtain ⟨h1, h2, h3, h4, h5, h6⟩ := hI
  refine ⟨fun l hl => ?_, fun l hl => ?_, fun l hl => ?_, fun l hl => ?_, fun i v hv => ?_, fun i hi => ?_⟩
  · rcases List.mem_append.mp hl with q | q
    · exact h1 l q
    · rw [List.mem_singleton.mp q]; simp
  · rcases List.mem_append.mp hl with q | q
    · exact h2 l q
    · rw [List.mem_singleton.mp q]; simp
  · rcases List.mem_append.mp hl with q | q
    · exact h3 l q
    · rw [List.mem_singleton.mp q]; simp
  · rcases List.mem_append.mp hl with q | q
    · exact h4 l q
    · rw [List.mem_singleton.mp q]; simp
  · rcases Nat.lt_or_ge i T.length with q | q
    · rw [List.getElem?_append_left q] at hv
      rcases h5 i v hv with e | ⟨j, e1, e2, e3, e4⟩
      · exact Or.inl e
      · exact Or.inr ⟨j, e1, e2, by rw [List.getElem?_append_left (by omega)]; exact e3, by rw [getD_lo (by omega)]; exact e4⟩
    · rw [List.getElem?_append_right q] at hv
      cases hq : i - T.length with
      | zero => rw [hq] at hv; exact Or.inl (Option.some.inj hv).symm
      | succ m => rw [hq] at hv; simp at hv
  · rw [List.length_append, List.length_cons, List.length_nil] at hi
    rw [getD_lo (by omega)]
    by_cases q : i + 1 < N.length
    · exact h6 i q
    · rcases hl with e | e
      · rw [e] at hi; simp at hi
      · rw [← lastD_eq] at e
        rw [show i = N.length - 1 by omega]
        exact e
theorem sIF_name (hI : sIF N D T) (hne : N ≠ []) {c : Int32} (hc : isL c) (h20 : (N.getLastD []).length < 20) : sIF (sS_app N c) D T := by
  obtain ⟨M, w, rfl⟩ := snoc_of hne
  rw [lastD_snoc] at h20
  rw [app_snoc]
  obtain ⟨h1, h2, h3, h4, h5, h6⟩ := hI
  refine ⟨fun l hl => ?_, fun l hl => ?_, h3, h4, h5, fun i hi => ?_⟩
  · rcases List.mem_append.mp hl with q | q
    · exact h1 l (List.mem_append.mpr (Or.inl q))
    · rw [List.mem_singleton.mp q, List.length_append, List.length_cons, List.length_nil]; omega
  · rcases List.mem_append.mp hl with q | q
    · exact h2 l (List.mem_append.mpr (Or.inl q))
    · rw [List.mem_singleton.mp q]
      intro x hx
      rcases List.mem_append.mp hx with q2 | q2
      · exact h2 w (List.mem_append.mpr (Or.inr (List.mem_singleton.mpr rfl))) x q2
      · rw [List.mem_singleton.mp q2]; exact hc
  · rw [List.length_append, List.length_cons, List.length_nil] at hi
    have := h6 i (by rw [List.length_append, List.length_cons, List.length_nil]; exact hi)
    rw [getD_lo (by omega)] at this ⊢
    exact this
theorem sIF_data (hI : sIF N D T) (hD : D.length = N.length) (hT : T.length = N.length) (hne : N ≠ []) {c : Int32} (hc : isB c) (hl : T.getLastD (-1) = -1) (h60 : (D.getLastD []).length < 60) : sIF N (sS_app D c) T := by
  have hne2 : D ≠ [] := fun e => hne (List.length_eq_zero_iff.mp (by rw [← hD, e]; rfl))
  obtain ⟨M, w, rfl⟩ := snoc_of hne2
  rw [lastD_snoc] at h60
  rw [app_snoc]
  rw [List.length_append, List.length_cons, List.length_nil] at hD
  obtain ⟨h1, h2, h3, h4, h5, h6⟩ := hI
  refine ⟨h1, h2, fun l hl => ?_, fun l hl => ?_, fun i v hv => ?_, h6⟩
  · rcases List.mem_append.mp hl with q | q
    · exact h3 l (List.mem_append.mpr (Or.inl q))
    · rw [List.mem_singleton.mp q, List.length_append, List.length_cons, List.length_nil]; omega
  · rcases List.mem_append.mp hl with q | q
    · exact h4 l (List.mem_append.mpr (Or.inl q))
    · rw [List.mem_singleton.mp q]
      intro x hx
      rcases List.mem_append.mp hx with q2 | q2
      · exact h4 w (List.mem_append.mpr (Or.inr (List.mem_singleton.mpr rfl))) x q2
      · rw [List.mem_singleton.mp q2]; exact hc
  · by_cases q : i < M.length
    · rcases h5 i v hv with e | ⟨j, e1, e2, e3, e4⟩
      · exact Or.inl e
      · refine Or.inr ⟨j, e1, e2, e3, ?_⟩
        rw [getD_lo q] at e4 ⊢
        exact e4
    · have hi : i < T.length := (List.getElem?_eq_some_iff.mp hv).1
      rw [← T_last, show T.length - 1 = i by omega, List.getD_eq_getElem?_getD, hv, Option.getD_some] at hl
      exact Or.inl hl
theorem sIF_link (hI : sIF N D T) (hD : D.length = N.length) (hT : T.length = N.length) {to : Int32} {j : Nat} (hok : lk_ok N to j) (hj : T.getD j (-1) = -1) (hd : D.getLastD [] = []) : sIF N D (T.set (N.length - 1) to) := by
  obtain ⟨h1, h2, h3, h4, h5, h6⟩ := hI
  obtain ⟨o1, o2⟩ := hok
  have hjT : T[j]? = some (-1) := by
    rw [List.getD_eq_getElem?_getD] at hj
    rw [List.getElem?_eq_getElem (by omega)] at hj ⊢
    rw [Option.getD_some] at hj
    rw [hj]
  refine ⟨h1, h2, h3, h4, fun i v hv => ?_, h6⟩
  by_cases q : i = N.length - 1
  · subst q
    rw [List.getElem?_set_self (by omega)] at hv
    have := Option.some.inj hv
    subst this
    refine Or.inr ⟨j, by omega, o1, by rw [List.getElem?_set_ne (by omega)]; exact hjT, ?_⟩
    rw [← hD, lastD_eq]; exact hd
  · rw [List.getElem?_set_ne (by omega)] at hv
    have hi : i < T.length := (List.getElem?_eq_some_iff.mp hv).1
    rcases h5 i v hv with e | ⟨j', e1, e2, e3, e4⟩
    · exact Or.inl e
    · exact Or.inr ⟨j', e1, e2, by rw [List.getElem?_set_ne (by omega)]; exact e3, e4⟩
end FIV
theorem sMR_f {t t' : gI} {A A' : gA} {l : List Int32} (h : sfR t A t' A') (hM : sMR t A l) : sMR t' A' l := ⟨hM.1, by rw [h.1]; exact hM.2.1, fun j hj => by rw [h.2]; exact hM.2.2 j hj⟩
theorem sME_f {t t' : gI} {A A' : gA} {N D : List (List Int32)} {B U K : List Int32} (h : sfE t A t' A') (hM : sME t A N D B U K) : sME t' A' N D B U K := by
  obtain ⟨a1, a2, -, a4, a5, a6, a7, a8, a9, a10⟩ := h
  obtain ⟨b1, b2, b3, b4, b5, b6, b7⟩ := hM
  refine ⟨b1, b2, b3, b4, b5, by rw [a1]; exact b6, fun i hi => ?_⟩
  rw [a2, a4, a5, a6, a7, a8, a9, a10]
  exact b7 i hi
def sInv (hs : sa_H) : Prop := ∃ (F : gF) (R D2 : sB_T) (E : gE) (cu hd : gC) (t : gI) (A : gA) (o : Nat → Int64) (N D : List (List Int32)) (T l d : List Int32) (EN ED : List (List Int32)) (B U K O : List Int32), hs = mkH F R D2 E cu hd t A o ∧ sF_R F N D T ∧ sB_R 1500 R l ∧ sB_R 1500 D2 d ∧ sE_R E EN ED B U K O ∧ sMF t A N D T ∧ sMR t A l ∧ sME t A EN ED B U K ∧ sIF N D T ∧ sIE EN ED ∧ sIO U K O EN.length ∧ bL l ∧ (∀ x ∈ ED, bL x) ∧ cu.2.2.2 = i_place t
/-- both have answered alike -/
def sAl (rv : Option sa_V) : sa_Q := fun rv2 hs2 => ∃ v, rv = some (.inl v) ∧ rv2 = some (.inl v) ∧ sInv hs2
def sBe (rv : Option sa_V) (hs1 : sa_H) : Prop := (∃ v, rv = some (.inl v)) ∧ ∃ fs, sa_nth hs1 28 = some (.inr (9, fs))
abbrev x0 : sa_V := .inr (.inl (some 0))
abbrev x28 : sa_V := .inr (.inl (some 28))
section OBO
variable {hs : sa_H}
theorem ob_file (h : sInv hs) : ct_X10_file 0 0 [x0] hs (fun rv hs1 => sBe rv hs1 ∧ ct_X11_file 0 0 [x28] hs1 (sAl rv)) := by
  obtain ⟨F, R, D2, E, cu, hd, t, A, o, N, D, T, l, d, EN, ED, B, U, K, O, rfl, hF, hR, hD, hE, hMF, hMR, hME, hIF, hIE, hIO, hB, hBE, hpl⟩ := h
  have same : ∀ v, sAl (some (.inl v)) (some (.inl v)) (mkH F R D2 E cu hd t A o) := fun v => ⟨v, rfl, rfl, F, R, D2, E, cu, hd, t, A, o, N, D, T, l, d, EN, ED, B, U, K, O, rfl, hF, hR, hD, hE, hMF, hMR, hME, hIF, hIE, hIO, hB, hBE, hpl⟩
  refine k_X10_file (mk_F R D2 E cu hd t A o) (fun F => mk_x F R D2 E cu hd t A o) hF (fun a1 a2 => ?_) (fun a1 a2 => ?_) (fun a1 a2 F' hF' => ?_)
  · refine ⟨⟨⟨_, rfl⟩, ⟨_, rfl⟩⟩, ?_⟩
    refine k_X11_file (mk_M F R D2 E cu hd o) hMF hIF (fun _ _ => same _) (fun b1 b2 => ?_) (fun b1 b2 => ?_)
    · exact absurd b1 (fun c => c.elim a1 (fun c => c a2))
    · exact absurd b1 (fun c => c.elim a1 (fun c => c a2))
  · refine ⟨⟨⟨_, rfl⟩, ⟨_, rfl⟩⟩, ?_⟩
    refine k_X11_file (mk_M F R D2 E cu hd o) hMF hIF (fun b1 b2 => ?_) (fun b1 b2 => same _) (fun b1 b2 => absurd a2 (by omega))
    exact absurd a1 (fun c => c.elim b1 (fun c => c b2))
  · refine ⟨⟨⟨_, rfl⟩, ⟨_, rfl⟩⟩, ?_⟩
    refine k_X11_file (mk_M F' R D2 E cu hd o) hMF hIF (fun b1 b2 => ?_) (fun b1 b2 => absurd b2 (by omega)) (fun b1 b2 t' A' c1 c2 c3 => ?_)
    · exact absurd a1 (fun c => c.elim b1 (fun c => c b2))
    · exact ⟨_, rfl, rfl, F', R, D2, E, cu, hd, t', A', o, _, _, _, l, d, EN, ED, B, U, K, O, rfl, hF', hR, hD, hE, c1, sMR_f c2 hMR, sME_f c3 hME, sIF_file hIF hF.2.2.1 hF.2.2.2.1 a1, hIE, hIO, hB, hBE, hpl.trans c3.2.2.1.symm⟩
theorem ob_name (h : sInv hs) (c : Int32) : ct_X10_name 0 0 [x0, .inl c] hs (fun rv hs1 => sBe rv hs1 ∧ ct_X11_name 0 0 [x28, .inl c] hs1 (sAl rv)) := by
  obtain ⟨F, R, D2, E, cu, hd, t, A, o, N, D, T, l, d, EN, ED, B, U, K, O, rfl, hF, hR, hD, hE, hMF, hMR, hME, hIF, hIE, hIO, hB, hBE, hpl⟩ := h
  have same : ∀ v, sAl (some (.inl v)) (some (.inl v)) (mkH F R D2 E cu hd t A o) := fun v => ⟨v, rfl, rfl, F, R, D2, E, cu, hd, t, A, o, N, D, T, l, d, EN, ED, B, U, K, O, rfl, hF, hR, hD, hE, hMF, hMR, hME, hIF, hIE, hIO, hB, hBE, hpl⟩
  refine k_X10_name (mk_F R D2 E cu hd t A o) (fun F => mk_x F R D2 E cu hd t A o) hF hIF.1 c (fun a1 => ?_) (fun a1 a2 a3 => ?_) (fun a1 a2 a3 F' hF' => ?_)
  · refine ⟨⟨⟨_, rfl⟩, ⟨_, rfl⟩⟩, ?_⟩
    refine k_X11_name (mk_M F R D2 E cu hd o) hMF hIF c (fun _ => same _) (fun b1 b2 b3 => ?_) (fun b1 b2 b3 => ?_)
    · exact absurd a1 (fun c => c.elim b1 (fun c => c b2))
    · exact absurd a1 (fun c => c.elim b1 (fun c => c b2))
  · refine ⟨⟨⟨_, rfl⟩, ⟨_, rfl⟩⟩, ?_⟩
    refine k_X11_name (mk_M F R D2 E cu hd o) hMF hIF c (fun b1 => ?_) (fun b1 b2 b3 => same _) (fun b1 b2 b3 => absurd a3 (by omega))
    exact absurd b1 (fun c => c.elim a1 (fun c => c a2))
  · refine ⟨⟨⟨_, rfl⟩, ⟨_, rfl⟩⟩, ?_⟩
    refine k_X11_name (mk_M F' R D2 E cu hd o) hMF hIF c (fun b1 => ?_) (fun b1 b2 b3 => absurd b3 (by omega)) (fun b1 b2 b3 t' A' c1 c2 c3 => ?_)
    · exact absurd b1 (fun c => c.elim a1 (fun c => c a2))
    · exact ⟨_, rfl, rfl, F', R, D2, E, cu, hd, t', A', o, _, _, _, l, d, EN, ED, B, U, K, O, rfl, hF', hR, hD, hE, c1, sMR_f c2 hMR, sME_f c3 hME, sIF_name hIF a1 a2 a3, hIE, hIO, hB, hBE, hpl.trans c3.2.2.1.symm⟩
theorem ob_data (h : sInv hs) (c : Int32) : ct_X10_data 0 0 [x0, .inl c] hs (fun rv hs1 => sBe rv hs1 ∧ ct_X11_data 0 0 [x28, .inl c] hs1 (sAl rv)) := by
  obtain ⟨F, R, D2, E, cu, hd, t, A, o, N, D, T, l, d, EN, ED, B, U, K, O, rfl, hF, hR, hD, hE, hMF, hMR, hME, hIF, hIE, hIO, hB, hBE, hpl⟩ := h
  have same : ∀ v, sAl (some (.inl v)) (some (.inl v)) (mkH F R D2 E cu hd t A o) := fun v => ⟨v, rfl, rfl, F, R, D2, E, cu, hd, t, A, o, N, D, T, l, d, EN, ED, B, U, K, O, rfl, hF, hR, hD, hE, hMF, hMR, hME, hIF, hIE, hIO, hB, hBE, hpl⟩
  refine k_X10_data (mk_F R D2 E cu hd t A o) (fun F => mk_x F R D2 E cu hd t A o) hF hIF c (fun a1 => ?_) (fun a1 a2 a3 => ?_) (fun a1 a2 a3 a4 => ?_) (fun a1 a2 a3 a4 F' hF' => ?_)
  · refine ⟨⟨⟨_, rfl⟩, ⟨_, rfl⟩⟩, ?_⟩
    refine k_X11_data (mk_M F R D2 E cu hd o) hMF hIF c (fun _ => same _) (fun b1 b2 b3 => ?_) (fun b1 b2 b3 b4 => ?_) (fun b1 b2 b3 b4 => ?_)
    · exact absurd a1 (fun c => c.elim b1 (fun c => c b2))
    · exact absurd a1 (fun c => c.elim b1 (fun c => c b2))
    · exact absurd a1 (fun c => c.elim b1 (fun c => c b2))
  · refine ⟨⟨⟨_, rfl⟩, ⟨_, rfl⟩⟩, ?_⟩
    refine k_X11_data (mk_M F R D2 E cu hd o) hMF hIF c (fun b1 => ?_) (fun b1 b2 b3 => same _) (fun b1 b2 b3 b4 => absurd b3 a3) (fun b1 b2 b3 b4 => absurd b3 a3)
    exact absurd b1 (fun c => c.elim a1 (fun c => c a2))
  · refine ⟨⟨⟨_, rfl⟩, ⟨_, rfl⟩⟩, ?_⟩
    refine k_X11_data (mk_M F R D2 E cu hd o) hMF hIF c (fun b1 => ?_) (fun b1 b2 b3 => absurd a3 b3) (fun b1 b2 b3 b4 => same _) (fun b1 b2 b3 b4 => absurd a4 (by omega))
    exact absurd b1 (fun c => c.elim a1 (fun c => c a2))
  · refine ⟨⟨⟨_, rfl⟩, ⟨_, rfl⟩⟩, ?_⟩
    refine k_X11_data (mk_M F' R D2 E cu hd o) hMF hIF c (fun b1 => ?_) (fun b1 b2 b3 => absurd a3 b3) (fun b1 b2 b3 b4 => absurd b4 (by omega)) (fun b1 b2 b3 b4 t' A' c1 c2 c3 => ?_)
    · exact absurd b1 (fun c => c.elim a1 (fun c => c a2))
    · exact ⟨_, rfl, rfl, F', R, D2, E, cu, hd, t', A', o, _, _, _, l, d, EN, ED, B, U, K, O, rfl, hF', hR, hD, hE, c1, sMR_f c2 hMR, sME_f c3 hME, sIF_data hIF hF.2.2.1 hF.2.2.2.1 a1 a2 a3 a4, hIE, hIO, hB, hBE, hpl.trans c3.2.2.1.symm⟩
theorem lk_one {N : List (List Int32)} {to : Int32} {i j : Nat} (hn : N.length < 2 ^ 30) (h1 : lk_ok N to i) (h2 : lk_ok N to j) : i = j := by
  obtain ⟨a1, a2⟩ := h1
  obtain ⟨b1, b2⟩ := h2
  rw [a1] at b1
  exact (nI_eq (by omega) (by omega)).mp b1
theorem ob_link (h : sInv hs) (c : Int32) : ct_X10_link 0 0 [x0, .inl c] hs (fun rv hs1 => sBe rv hs1 ∧ ct_X11_link 0 0 [x28, .inl c] hs1 (sAl rv)) := by
  obtain ⟨F, R, D2, E, cu, hd, t, A, o, N, D, T, l, d, EN, ED, B, U, K, O, rfl, hF, hR, hD, hE, hMF, hMR, hME, hIF, hIE, hIO, hB, hBE, hpl⟩ := h
  have same : ∀ v, sAl (some (.inl v)) (some (.inl v)) (mkH F R D2 E cu hd t A o) := fun v => ⟨v, rfl, rfl, F, R, D2, E, cu, hd, t, A, o, N, D, T, l, d, EN, ED, B, U, K, O, rfl, hF, hR, hD, hE, hMF, hMR, hME, hIF, hIE, hIO, hB, hBE, hpl⟩
  have hn : N.length < 2 ^ 30 := by have := hMF.1; omega
  refine k_X10_link (mk_F R D2 E cu hd t A o) (fun F => mk_x F R D2 E cu hd t A o) hF hIF c (fun a1 => ?_) (fun j a1 a2 => ?_) (fun j a1 a2 a3 a4 F' hF' => ?_)
  · refine ⟨⟨⟨_, rfl⟩, ⟨_, rfl⟩⟩, ?_⟩
    refine k_X11_link (mk_M F R D2 E cu hd o) hMF hIF c (fun _ => same _) (fun j b1 => absurd b1 (a1 j)) (fun j b1 => absurd b1 (a1 j))
  · refine ⟨⟨⟨_, rfl⟩, ⟨_, rfl⟩⟩, ?_⟩
    refine k_X11_link (mk_M F R D2 E cu hd o) hMF hIF c (fun b1 => absurd a1 (b1 j)) (fun i b1 b2 => same _) (fun i b1 b2 b3 b4 => ?_)
    have := lk_one hn a1 b1
    subst this
    rcases a2 with q | q | q
    · exact absurd b2 q
    · exact absurd b3 q
    · exact absurd b4 q
  · refine ⟨⟨⟨_, rfl⟩, ⟨_, rfl⟩⟩, ?_⟩
    refine k_X11_link (mk_M F' R D2 E cu hd o) hMF hIF c (fun b1 => absurd a1 (b1 j)) (fun i b1 b2 => ?_) (fun i b1 b2 b3 b4 t' A' c1 c2 c3 => ?_)
    · have := lk_one hn a1 b1
      subst this
      rcases b2 with q | q | q
      · exact absurd a2 q
      · exact absurd a3 q
      · exact absurd a4 q
    · exact ⟨_, rfl, rfl, F', R, D2, E, cu, hd, t', A', o, _, _, _, l, d, EN, ED, B, U, K, O, rfl, hF', hR, hD, hE, c1, sMR_f c2 hMR, sME_f c3 hME, sIF_link hIF hF.2.2.1 hF.2.2.2.1 a1 a2 a4, hIE, hIO, hB, hBE, hpl.trans c3.2.2.1.symm⟩
theorem ob_clear (h : sInv hs) : ct_X10_clear 0 0 [x0] hs (fun rv hs1 => sBe rv hs1 ∧ ct_X11_clear 0 0 [x28] hs1 (sAl rv)) := by
  obtain ⟨F, R, D2, E, cu, hd, t, A, o, N, D, T, l, d, EN, ED, B, U, K, O, rfl, hF, hR, hD, hE, hMF, hMR, hME, hIF, hIE, hIO, hB, hBE, hpl⟩ := h
  refine k_X10_clear (mk_F R D2 E cu hd t A o) (fun F => mk_x F R D2 E cu hd t A o) hF (fun F' hF' => ?_)
  refine ⟨⟨⟨_, rfl⟩, ⟨_, rfl⟩⟩, ?_⟩
  refine k_X11_clear (mk_M F' R D2 E cu hd o) hMF (fun t' A' c1 c2 c3 => ?_)
  exact ⟨_, rfl, rfl, F', R, D2, E, cu, hd, t', A', o, _, _, _, l, d, EN, ED, B, U, K, O, rfl, hF', hR, hD, hE, c1, sMR_f c2 hMR, sME_f c3 hME, sIF_nil, hIE, hIO, hB, hBE, hpl.trans c3.2.2.1.symm⟩
theorem ob_write (h : sInv hs) (c : Int32) : ct_X10_write 0 0 [x0, .inl c] hs (fun rv hs1 => sBe rv hs1 ∧ ct_X11_write 0 0 [x28, .inl c] hs1 (sAl rv)) := by
  obtain ⟨F, R, D2, E, cu, hd, t, A, o, N, D, T, l, d, EN, ED, B, U, K, O, rfl, hF, hR, hD, hE, hMF, hMR, hME, hIF, hIE, hIO, hB, hBE, hpl⟩ := h
  have same : ∀ v, sAl (some (.inl v)) (some (.inl v)) (mkH F R D2 E cu hd t A o) := fun v => ⟨v, rfl, rfl, F, R, D2, E, cu, hd, t, A, o, N, D, T, l, d, EN, ED, B, U, K, O, rfl, hF, hR, hD, hE, hMF, hMR, hME, hIF, hIE, hIO, hB, hBE, hpl⟩
  refine k_X10_write hR hD hF hIF c (fun a1 => ?_) (fun a1 a2 => ?_) (fun a1 a2 a3 a4 R' D' hR' hD' => ?_)
  · refine ⟨⟨⟨_, rfl⟩, ⟨_, rfl⟩⟩, ?_⟩
    refine k_X11_write (mk_M F R D2 E cu hd o) hMF hIF c (fun _ => same _) (fun b1 => absurd b1 a1) (fun b1 => absurd b1 a1) (fun b1 => absurd b1 a1)
  · have no : (N = [] ∨ N.getLastD [] ≠ []) → sT 0 ∉ N → False := fun b2 b3 => a2.elim (fun q => b2.elim q.1 (fun z => z q.2)) b3
    refine ⟨⟨⟨_, rfl⟩, ⟨_, rfl⟩⟩, ?_⟩
    refine k_X11_write (mk_M F R D2 E cu hd o) hMF hIF c (fun b1 => absurd a1 b1) (fun b1 b2 => same _) (fun b1 b2 b3 => (no b2 b3).elim) (fun b1 b2 b3 => (no b2 b3).elim)
  · refine ⟨⟨⟨_, rfl⟩, ⟨_, rfl⟩⟩, ?_⟩
    refine k_X11_write (mk_M F R' D' E cu hd o) hMF hIF c (fun b1 => absurd a1 b1) (fun b1 b2 => ?_) (fun _ _ _ => a4) (fun b1 b2 b3 t' A' c1 c2 c3 => ?_)
    · exact (b2.elim (fun q => a2.elim q.1 (fun z => z q.2)) a3).elim
    · exact ⟨_, rfl, rfl, F, R', D', E, cu, hd, t', A', o, N, D, T, _, _, EN, ED, B, U, K, O, rfl, hF, hR', hD', hE, sMF_of c1 hMF, c3, sME_f c2 hME, hIF, hIE, hIO, bL_outL c hIF hMF.1, hBE, hpl.trans c2.2.2.1.symm⟩
theorem ob_put (h : sInv hs) (c : Int32) : ct_X10_put 0 0 [x0, .inl c] hs (fun rv hs1 => sBe rv hs1 ∧ ct_X11_put 0 0 [x28, .inl c] hs1 (sAl rv)) := by
  obtain ⟨F, R, D2, E, cu, hd, t, A, o, N, D, T, l, d, EN, ED, B, U, K, O, rfl, hF, hR, hD, hE, hMF, hMR, hME, hIF, hIE, hIO, hB, hBE, hpl⟩ := h
  have same : ∀ v, sAl (some (.inl v)) (some (.inl v)) (mkH F R D2 E cu hd t A o) := fun v => ⟨v, rfl, rfl, F, R, D2, E, cu, hd, t, A, o, N, D, T, l, d, EN, ED, B, U, K, O, rfl, hF, hR, hD, hE, hMF, hMR, hME, hIF, hIE, hIO, hB, hBE, hpl⟩
  refine k_X10_put (mk_R F D2 E cu hd t A o) (fun R => mk_x F R D2 E cu hd t A o) hR c (fun a1 => ?_) (fun a1 a2 => ?_) (fun a1 a2 R' hR' => ?_)
  · refine ⟨⟨⟨_, rfl⟩, ⟨_, rfl⟩⟩, ?_⟩
    exact k_X11_put (mk_M F R D2 E cu hd o) hMR c (fun _ => same _) (fun b1 => absurd b1 a1) (fun b1 => absurd b1 a1)
  · refine ⟨⟨⟨_, rfl⟩, ⟨_, rfl⟩⟩, ?_⟩
    exact k_X11_put (mk_M F R D2 E cu hd o) hMR c (fun b1 => absurd a1 b1) (fun b1 b2 => same _) (fun b1 b2 => absurd a2 (by omega))
  · refine ⟨⟨⟨_, rfl⟩, ⟨_, rfl⟩⟩, ?_⟩
    refine k_X11_put (mk_M F R' D2 E cu hd o) hMR c (fun b1 => absurd a1 b1) (fun b1 b2 => absurd b2 (by omega)) (fun b1 b2 t' A' c1 c2 c3 => ?_)
    exact ⟨_, rfl, rfl, F, R', D2, E, cu, hd, t', A', o, N, D, T, _, d, EN, ED, B, U, K, O, rfl, hF, hR', hD, hE, sMF_of c2 hMF, c1, sME_f c3 hME, hIF, hIE, hIO, bL_app hB (bL_1 a1), hBE, hpl.trans c3.2.2.1.symm⟩
theorem out_of {l : List Int32} {i : Int32} (hl : l.length ≤ 1500) : (i < 0 ∨ nI l.length ≤ i) ↔ ¬ ∃ j, j < l.length ∧ i = nI j := by
  constructor
  · rintro (q | q) ⟨j, hj, rfl⟩
    · exact nI_pos (by omega) q
    · exact absurd ((nI_leI (by omega) (by omega)).mp q) (by omega)
  · intro q
    by_cases h0 : i < 0
    · exact Or.inl h0
    · obtain ⟨j, hj, rfl⟩ := nI_of h0
      refine Or.inr ((nI_leI (by omega) hj).mpr ?_)
      rcases Nat.lt_or_ge j l.length with z | z
      · exact absurd ⟨j, z, rfl⟩ q
      · exact z
theorem ob_row (h : sInv hs) (c : Int32) : ct_X10_row 0 0 [x0, .inl c] hs (fun rv hs1 => sBe rv hs1 ∧ ct_X11_row 0 0 [x28, .inl c] hs1 (sAl rv)) := by
  obtain ⟨F, R, D2, E, cu, hd, t, A, o, N, D, T, l, d, EN, ED, B, U, K, O, rfl, hF, hR, hD, hE, hMF, hMR, hME, hIF, hIE, hIO, hB, hBE, hpl⟩ := h
  have same : ∀ v, sAl (some (.inl v)) (some (.inl v)) (mkH F R D2 E cu hd t A o) := fun v => ⟨v, rfl, rfl, F, R, D2, E, cu, hd, t, A, o, N, D, T, l, d, EN, ED, B, U, K, O, rfl, hF, hR, hD, hE, hMF, hMR, hME, hIF, hIE, hIO, hB, hBE, hpl⟩
  have hl := hMR.1
  have lt : ∀ {j : Nat} {v : Int32}, l[j]? = some v → j < l.length := fun h => (List.getElem?_eq_some_iff.mp h).1
  have n1 : ∀ j, j < l.length → ¬ nI j = -1 := fun j hj c => nI_pos (show j < 2 ^ 31 by omega) (by rw [c]; decide)
  refine k_X10_row (mk_R F D2 E cu hd t A o) (fun R => mk_x F R D2 E cu hd t A o) hR c (fun a1 => ?_) (fun a1 a2 => ?_) (fun j v a1 a2 => ?_)
  · refine ⟨⟨⟨_, rfl⟩, ⟨_, rfl⟩⟩, ?_⟩
    exact k_X11_row (mk_M F R D2 E cu hd o) hMR c (fun _ => same _) (fun b1 => absurd a1 b1) (fun j v b1 b2 => absurd (b1.symm.trans a1) (n1 j (lt b2)))
  · have a3 := (out_of hl).mp a2
    refine ⟨⟨⟨_, rfl⟩, ⟨_, rfl⟩⟩, ?_⟩
    exact k_X11_row (mk_M F R D2 E cu hd o) hMR c (fun b1 => absurd b1 a1) (fun b1 b2 => same _) (fun j v b1 b2 => absurd ⟨j, lt b2, b1⟩ a3)
  · refine ⟨⟨⟨_, rfl⟩, ⟨_, rfl⟩⟩, ?_⟩
    refine k_X11_row (mk_M F R D2 E cu hd o) hMR c (fun b1 => absurd (a1.symm.trans b1) (n1 j (lt a2))) (fun b1 b2 => absurd ⟨j, lt a2, a1⟩ b2) (fun i w b1 b2 => ?_)
    have h1 := lt a2
    have h2 := lt b2
    have e : i = j := (nI_eq (by omega) (by omega)).mp (b1.symm.trans a1)
    subst e
    rw [a2] at b2
    have := Option.some.inj b2
    subst this
    exact same _
theorem ob_poke (h : sInv hs) (c x : Int32) : ct_X10_poke 0 0 [x0, .inl c, .inl x] hs (fun rv hs1 => sBe rv hs1 ∧ ct_X11_poke 0 0 [x28, .inl c, .inl x] hs1 (sAl rv)) := by
  obtain ⟨F, R, D2, E, cu, hd, t, A, o, N, D, T, l, d, EN, ED, B, U, K, O, rfl, hF, hR, hD, hE, hMF, hMR, hME, hIF, hIE, hIO, hB, hBE, hpl⟩ := h
  have same : ∀ v, sAl (some (.inl v)) (some (.inl v)) (mkH F R D2 E cu hd t A o) := fun v => ⟨v, rfl, rfl, F, R, D2, E, cu, hd, t, A, o, N, D, T, l, d, EN, ED, B, U, K, O, rfl, hF, hR, hD, hE, hMF, hMR, hME, hIF, hIE, hIO, hB, hBE, hpl⟩
  have hl := hMR.1
  have lt : ∀ {j : Nat} {v : Int32}, l[j]? = some v → j < l.length := fun h => (List.getElem?_eq_some_iff.mp h).1
  refine k_X10_poke (mk_R F D2 E cu hd t A o) (fun R => mk_x F R D2 E cu hd t A o) hR c x (fun a1 => ?_) (fun j v a1 a2 a3 R' hR' => ?_)
  · have a3 : (¬ ∃ j, j < l.length ∧ c = nI j) ∨ ¬ isB x := a1.imp (out_of hl).mp id
    refine ⟨⟨⟨_, rfl⟩, ⟨_, rfl⟩⟩, ?_⟩
    exact k_X11_poke (mk_M F R D2 E cu hd o) hMR c x (fun _ => same _) (fun j v b1 b2 b3 => (a3.elim (fun z => z ⟨j, lt b2, b1⟩) (fun z => z b3)).elim)
  · refine ⟨⟨⟨_, rfl⟩, ⟨_, rfl⟩⟩, ?_⟩
    refine k_X11_poke (mk_M F R' D2 E cu hd o) hMR c x (fun b1 => (b1.elim (fun z => z ⟨j, lt a2, a1⟩) (fun z => z a3)).elim) (fun i w b1 b2 b3 t' A' c1 c2 c3 => ?_)
    have h1 := lt a2
    have h2 := lt b2
    have e : i = j := (nI_eq (by omega) (by omega)).mp (b1.symm.trans a1)
    subst e
    rw [a2] at b2
    have := Option.some.inj b2
    subst this
    refine ⟨_, rfl, rfl, F, R', D2, E, cu, hd, t', A', o, N, D, T, _, d, EN, ED, B, U, K, O, rfl, hF, hR', hD, hE, sMF_of c2 hMF, c1, sME_f c3 hME, hIF, hIE, hIO, fun y hy => ?_, hBE, hpl.trans c3.2.2.1.symm⟩
    rcases List.mem_or_eq_of_mem_set hy with q | q
    · exact hB y q
    · rw [q]; exact a3
theorem ob_cut (h : sInv hs) (c : Int32) : ct_X10_cut 0 0 [x0, .inl c] hs (fun rv hs1 => sBe rv hs1 ∧ ct_X11_cut 0 0 [x28, .inl c] hs1 (sAl rv)) := by
  obtain ⟨F, R, D2, E, cu, hd, t, A, o, N, D, T, l, d, EN, ED, B, U, K, O, rfl, hF, hR, hD, hE, hMF, hMR, hME, hIF, hIE, hIO, hB, hBE, hpl⟩ := h
  have same : ∀ v, sAl (some (.inl v)) (some (.inl v)) (mkH F R D2 E cu hd t A o) := fun v => ⟨v, rfl, rfl, F, R, D2, E, cu, hd, t, A, o, N, D, T, l, d, EN, ED, B, U, K, O, rfl, hF, hR, hD, hE, hMF, hMR, hME, hIF, hIE, hIO, hB, hBE, hpl⟩
  have hl := hMR.1
  refine k_X10_cut (mk_R F D2 E cu hd t A o) (fun R => mk_x F R D2 E cu hd t A o) hR c (fun a1 => ?_) (fun j a1 a2 R' hR' => ?_)
  · refine ⟨⟨⟨_, rfl⟩, ⟨_, rfl⟩⟩, ?_⟩
    refine k_X11_cut (mk_M F R D2 E cu hd o) hMR c (fun _ => same _) (fun j b1 b2 => ?_)
    subst b1
    rcases a1 with q | q
    · exact absurd q (nI_pos (by omega))
    · exact absurd ((nI_ltI (by omega) (by omega)).mp q) (by omega)
  · refine ⟨⟨⟨_, rfl⟩, ⟨_, rfl⟩⟩, ?_⟩
    refine k_X11_cut (mk_M F R' D2 E cu hd o) hMR c (fun b1 => absurd ⟨j, a2, a1⟩ b1) (fun i b1 b2 t' A' c1 c2 c3 => ?_)
    have e : i = j := (nI_eq (by omega) (by omega)).mp (b1.symm.trans a1)
    subst e
    exact ⟨_, rfl, rfl, F, R', D2, E, cu, hd, t', A', o, N, D, T, _, d, EN, ED, B, U, K, O, rfl, hF, hR', hD, hE, sMF_of c2 hMF, c1, sME_f c3 hME, hIF, hIE, hIO, fun y hy => hB y (List.mem_of_mem_take hy), hBE, hpl.trans c3.2.2.1.symm⟩
theorem ob_read (h : sInv hs) (c : Int32) : ct_X10_read 0 0 [x0, .inl c] hs (fun rv hs1 => sBe rv hs1 ∧ ct_X11_read 0 0 [x28, .inl c] hs1 (sAl rv)) := by
  obtain ⟨F, R, D2, E, cu, hd, t, A, o, N, D, T, l, d, EN, ED, B, U, K, O, rfl, hF, hR, hD, hE, hMF, hMR, hME, hIF, hIE, hIO, hB, hBE, hpl⟩ := h
  have same : ∀ v, sAl (some (.inl v)) (some (.inl v)) (mkH F R D2 E cu hd t A o) := fun v => ⟨v, rfl, rfl, F, R, D2, E, cu, hd, t, A, o, N, D, T, l, d, EN, ED, B, U, K, O, rfl, hF, hR, hD, hE, hMF, hMR, hME, hIF, hIE, hIO, hB, hBE, hpl⟩
  refine k_X10_read hR hB hE c (fun a1 => ?_) (fun a1 E' a' hd' O' a2 a3 a4 => ?_)
  · refine ⟨⟨⟨_, rfl⟩, ⟨_, rfl⟩⟩, ?_⟩
    exact k_X11_read (mk_M F R D2 E cu hd o) hMR hB c (fun _ => same _) (fun b1 => absurd b1 a1)
  · refine ⟨⟨⟨_, rfl⟩, ⟨_, rfl⟩⟩, ?_⟩
    refine k_X11_read (mk_M F R D2 E' _ hd' o) hMR hB c (fun b1 => absurd a1 b1) (fun b1 t' A' c1 c2 c3 c4 => ?_)
    exact ⟨_, rfl, rfl, F, R, D2, E', _, hd', t', A', o, N, D, T, l, d, _, _, _, _, _, O', rfl, hF, hR, hD, a2, sMF_of c1 hMF, sMR_f c2 hMR, c3, hIF, a4, a3, hB, bL_rd hB c, by rw [cS_pl, c4]⟩
theorem ob_place (h : sInv hs) : ct_X10_place 0 0 [x0] hs (fun rv hs1 => sBe rv hs1 ∧ ct_X11_place 0 0 [x28] hs1 (sAl rv)) := by
  obtain ⟨F, R, D2, E, cu, hd, t, A, o, N, D, T, l, d, EN, ED, B, U, K, O, rfl, hF, hR, hD, hE, hMF, hMR, hME, hIF, hIE, hIO, hB, hBE, hpl⟩ := h
  refine k_X10_place ?_
  refine ⟨⟨⟨_, rfl⟩, ⟨_, rfl⟩⟩, ?_⟩
  refine k_X11_place (mk_M F R D2 E cu hd o) ?_
  rw [hpl]
  exact ⟨_, rfl, rfl, F, R, D2, E, cu, hd, t, A, o, N, D, T, l, d, EN, ED, B, U, K, O, rfl, hF, hR, hD, hE, hMF, hMR, hME, hIF, hIE, hIO, hB, hBE, hpl⟩
theorem ob_entries (h : sInv hs) : ct_X10_entries 0 0 [x0] hs (fun rv hs1 => sBe rv hs1 ∧ ct_X11_entries 0 0 [x28] hs1 (sAl rv)) := by
  obtain ⟨F, R, D2, E, cu, hd, t, A, o, N, D, T, l, d, EN, ED, B, U, K, O, rfl, hF, hR, hD, hE, hMF, hMR, hME, hIF, hIE, hIO, hB, hBE, hpl⟩ := h
  refine k_X10_entries (mk_E F R D2 cu hd t A o) (fun E => mk_x F R D2 E cu hd t A o) hE ?_
  refine ⟨⟨⟨_, rfl⟩, ⟨_, rfl⟩⟩, ?_⟩
  refine k_X11_entries (mk_M F R D2 E cu hd o) ?_
  rw [hME.2.2.2.2.2.1]
  exact ⟨_, rfl, rfl, F, R, D2, E, cu, hd, t, A, o, N, D, T, l, d, EN, ED, B, U, K, O, rfl, hF, hR, hD, hE, hMF, hMR, hME, hIF, hIE, hIO, hB, hBE, hpl⟩
theorem ob_same (h : sInv hs) : ct_X10_same 0 0 [x0] hs (fun rv hs1 => sBe rv hs1 ∧ ct_X11_same 0 0 [x28] hs1 (sAl rv)) := by
  obtain ⟨F, R, D2, E, cu, hd, t, A, o, N, D, T, l, d, EN, ED, B, U, K, O, rfl, hF, hR, hD, hE, hMF, hMR, hME, hIF, hIE, hIO, hB, hBE, hpl⟩ := h
  have same : ∀ v, sAl (some (.inl v)) (some (.inl v)) (mkH F R D2 E cu hd t A o) := fun v => ⟨v, rfl, rfl, F, R, D2, E, cu, hd, t, A, o, N, D, T, l, d, EN, ED, B, U, K, O, rfl, hF, hR, hD, hE, hMF, hMR, hME, hIF, hIE, hIO, hB, hBE, hpl⟩
  refine k_X10_same (C := fun F E => mkH F R D2 E cu hd t A o) (fun E => mk_F R D2 E cu hd t A o) (fun F => mk_E F R D2 cu hd t A o) (fun F E => mk_x F R D2 E cu hd t A o) hF hE (fun a1 a2 => ?_) (fun a1 => ?_)
  · refine ⟨⟨⟨_, rfl⟩, ⟨_, rfl⟩⟩, ?_⟩
    exact k_X11_same (mk_M F R D2 E cu hd o) hMF hME hIF hIE hIO (fun _ _ => same _) (fun b1 => absurd ⟨a1, a2⟩ b1)
  · refine ⟨⟨⟨_, rfl⟩, ⟨_, rfl⟩⟩, ?_⟩
    exact k_X11_same (mk_M F R D2 E cu hd o) hMF hME hIF hIE hIO (fun b1 b2 => absurd ⟨b1, b2⟩ a1) (fun b1 => same _)
end OBO
/-! TOLD AND GOT ALIKE -/
section OB2
variable {hs : sa_H}
theorem ob_told (h : sInv hs) (i w k : Int32) : ct_X10_told 0 0 [x0, .inl i, .inl w, .inl k] hs (fun rv hs1 => sBe rv hs1 ∧ ct_X11_told 0 0 [x28, .inl i, .inl w, .inl k] hs1 (sAl rv)) := by
  obtain ⟨F, R, D2, E, cu, hd, t, A, o, N, D, T, l, d, EN, ED, B, U, K, O, rfl, hF, hR, hD, hE, hMF, hMR, hME, hIF, hIE, hIO, hB, hBE, hpl⟩ := h
  have same : ∀ v, sAl (some (.inl v)) (some (.inl v)) (mkH F R D2 E cu hd t A o) := fun v => ⟨v, rfl, rfl, F, R, D2, E, cu, hd, t, A, o, N, D, T, l, d, EN, ED, B, U, K, O, rfl, hF, hR, hD, hE, hMF, hMR, hME, hIF, hIE, hIO, hB, hBE, hpl⟩
  have hn := hME.1
  have one : ∀ {x y : Nat}, x < EN.length → y < EN.length → i = nI x → i = nI y → x = y := fun hx hy e1 e2 => (nI_eq (by omega) (by omega)).mp (e1.symm.trans e2)
  have no : ((¬ ∃ j, j < EN.length ∧ i = nI j) ∨ (¬ w = 0 ∧ ¬ w = 1 ∧ ¬ w = 2 ∧ ¬ w = 3 ∧ ¬ w = 4)) → ∀ j, j < EN.length → i = nI j → (w = 0 ∨ w = 1 ∨ w = 2 ∨ w = 3 ∨ w = 4) → False := by
    intro a j hj e hw
    rcases a with a | ⟨a0, a1, a2, a3, a4⟩
    · exact a ⟨j, hj, e⟩
    · rcases hw with e | e | e | e | e
      · exact a0 e
      · exact a1 e
      · exact a2 e
      · exact a3 e
      · exact a4 e
  refine k_X10_told (mk_E F R D2 cu hd t A o) (fun E => mk_x F R D2 E cu hd t A o) hE i w k (fun a => ?_) (fun j a1 a2 a3 => ?_) (fun j a1 a2 a3 => ?_) (fun j v a1 a2 a3 a4 => ?_) (fun j r a1 a2 a3 a4 a5 => ?_) (fun j a1 a2 a3 => ?_)
  · refine ⟨⟨⟨_, rfl⟩, ⟨_, rfl⟩⟩, ?_⟩
    exact k_X11_told (mk_M F R D2 E cu hd o) hME hIE i w k (fun _ => same _) (fun j b1 b2 b3 => (no a j b1 b2 (by simp [b3])).elim) (fun j r b1 b2 b3 => (no a j b1 b2 (by simp [b3])).elim) (fun j v b1 b2 b3 => (no a j b1 b2 (by simp [b3])).elim) (fun j r b1 b2 b3 => (no a j b1 b2 (by simp [b3])).elim) (fun j b1 b2 b3 => (no a j b1 b2 (by simp [b3])).elim)
  · subst a3
    refine ⟨⟨⟨_, rfl⟩, ⟨_, rfl⟩⟩, ?_⟩
    refine k_X11_told (mk_M F R D2 E cu hd o) hME hIE i 0 k (fun b => (no b j a1 a2 (by simp)).elim) (fun j2 b1 b2 b3 => ?_) (fun j r b1 b2 b3 => absurd b3 (by decide)) (fun j v b1 b2 b3 => absurd b3 (by decide)) (fun j r b1 b2 b3 => absurd b3 (by decide)) (fun j b1 b2 b3 => absurd b3 (by decide))
    have := one a1 b1 a2 b2
    subst this
    exact same _
  · subst a3
    refine ⟨⟨⟨_, rfl⟩, ⟨_, rfl⟩⟩, ?_⟩
    refine k_X11_told (mk_M F R D2 E cu hd o) hME hIE i 1 k (fun b => (no b j a1 a2 (by simp)).elim) (fun j b1 b2 b3 => absurd b3 (by decide)) (fun j2 r b1 b2 b3 b4 => ?_) (fun j v b1 b2 b3 => absurd b3 (by decide)) (fun j r b1 b2 b3 => absurd b3 (by decide)) (fun j b1 b2 b3 => absurd b3 (by decide))
    have := one a1 b1 a2 b2
    subst this
    obtain ⟨q, e1, e2, e3⟩ := hIO.2 j a1
    have := lstG_one a1 e2 b4
    subst this
    rw [e1, Option.getD_some, sS_row_nI (by omega)]
    exact same _
  · subst a3
    refine ⟨⟨⟨_, rfl⟩, ⟨_, rfl⟩⟩, ?_⟩
    refine k_X11_told (mk_M F R D2 E cu hd o) hME hIE i 2 k (fun b => (no b j a1 a2 (by simp)).elim) (fun j b1 b2 b3 => absurd b3 (by decide)) (fun j r b1 b2 b3 => absurd b3 (by decide)) (fun j2 v2 b1 b2 b3 b4 => ?_) (fun j r b1 b2 b3 => absurd b3 (by decide)) (fun j b1 b2 b3 => absurd b3 (by decide))
    have := one a1 b1 a2 b2
    subst this
    rw [a4] at b4
    have := Option.some.inj b4
    subst this
    exact same _
  · subst a3
    refine ⟨⟨⟨_, rfl⟩, ⟨_, rfl⟩⟩, ?_⟩
    refine k_X11_told (mk_M F R D2 E cu hd o) hME hIE i 3 k (fun b => (no b j a1 a2 (by simp)).elim) (fun j b1 b2 b3 => absurd b3 (by decide)) (fun j r b1 b2 b3 => absurd b3 (by decide)) (fun j v b1 b2 b3 => absurd b3 (by decide)) (fun j2 r2 b1 b2 b3 b4 => ?_) (fun j b1 b2 b3 => absurd b3 (by decide))
    have := one a1 b1 a2 b2
    subst this
    have := fstG_one a4 b4
    subst this
    exact same _
  · subst a3
    refine ⟨⟨⟨_, rfl⟩, ⟨_, rfl⟩⟩, ?_⟩
    refine k_X11_told (mk_M F R D2 E cu hd o) hME hIE i 4 k (fun b => (no b j a1 a2 (by simp)).elim) (fun j b1 b2 b3 => absurd b3 (by decide)) (fun j r b1 b2 b3 => absurd b3 (by decide)) (fun j v b1 b2 b3 => absurd b3 (by decide)) (fun j r b1 b2 b3 => absurd b3 (by decide)) (fun j2 b1 b2 b3 => ?_)
    have := one a1 b1 a2 b2
    subst this
    exact same _
/-- got: what the class finds, v, or -1 where it throws; the reference says the same -/
def sGo (v : Int32) (o' : Nat → Int64) : sa_Q := fun rv hs2 => sBe rv hs2 ∧ ct_X11_thrown 0 0 [x28] hs2 (fun rk hs3 => sInv hs3 ∧ sa_nth hs3 44 = some (.inl (.inr (1, o'))) ∧ ((v = -1 ∧ rk = some (.inl 1)) ∨ (¬ v = -1 ∧ rk = some (.inl 0) ∧ rv = some (.inl v))))
theorem ob_got (h : sInv hs) (i k : Int32) : ∃ (v : Int32) (F : gF) (R D2 : sB_T) (E : gE) (cu hd : gC) (t : gI) (A : gA) (o : Nat → Int64), hs = mkH F R D2 E cu hd t A o ∧ ct_X8_contentsByte 0 0 [.inr (.inl (some 13)), .inl i, .inl k] hs (fun rv hs1 => hs1 = hs ∧ rv = some (.inl v)) ∧ ∀ o', ct_X11_got 0 0 [x28, .inl i, .inl k] (mkH F R D2 E cu hd t A o') (sGo v o') := by
  obtain ⟨F, R, D2, E, cu, hd, t, A, o, N, D, T, l, d, EN, ED, B, U, K, O, rfl, hF, hR, hD, hE, hMF, hMR, hME, hIF, hIE, hIO, hB, hBE, hpl⟩ := h
  have hn := hME.1
  refine ⟨sS_at (sS_row ED (at_ O i i)) k, F, R, D2, E, cu, hd, t, A, o, rfl, kE_contentsByte (mk_E F R D2 cu hd t A o) hE i k ⟨rfl, rfl⟩, fun o' => ?_⟩
  have fin : ∀ (v : Int32) (t' : gI), sME t' A EN ED B U K → sfF t A t' A → sfR t A t' A → i_place t' = i_place t → sInv (mkH F R D2 E cu hd t' A o') := fun v t' c1 c2 c3 c4 => ⟨F, R, D2, E, cu, hd, t', A, o', N, D, T, l, d, EN, ED, B, U, K, O, rfl, hF, hR, hD, hE, sMF_of c2 hMF, sMR_f c3 hMR, c1, hIF, hIE, hIO, hB, hBE, hpl.trans c4.symm⟩
  have one : ∀ {x y : Nat}, x < EN.length → y < EN.length → i = nI x → i = nI y → x = y := fun hx hy e1 e2 => (nI_eq (by omega) (by omega)).mp (e1.symm.trans e2)
  have row : ∀ j, j < EN.length → i = nI j → ∀ r, lstG U K EN.length j r → sS_row ED (at_ O i i) = ED.getD r [] := by
    intro j hj e r hr
    obtain ⟨q, y1, y2, y3⟩ := hIO.2 j hj
    have := lstG_one hj y2 hr
    subst this
    rw [e, at_nI (by omega), y1, Option.getD_some, sS_row_nI (by omega)]
  refine k_X11_got (mk_M F R D2 E cu hd o') hME hIE i k (fun b t' c0 c1 c2 c3 c4 => ?_) (fun j r x v b1 b2 b3 b4 b5 t' c0 c1 c2 c3 c4 => ?_)
  · have hv : sS_at (sS_row ED (at_ O i i)) k = -1 := by
      rcases b with b | ⟨j, r, b1, b2, b3, b4⟩
      · have hout : at_ O i i = i := at_out (by rw [hIO.1]; omega) (by
          rw [hIO.1]
          by_cases h0 : i < 0
          · exact Or.inl h0
          · obtain ⟨j, hj, rfl⟩ := nI_of h0
            refine Or.inr ((nI_leI (by omega) hj).mpr ?_)
            rcases Nat.lt_or_ge j EN.length with z | z
            · exact absurd ⟨j, z, rfl⟩ b
            · exact z)
        rw [hout]
        have hrow : sS_row ED i = [] := by
          unfold sS_row
          split
          · rfl
          · next h0 =>
            obtain ⟨j, hj, rfl⟩ := nI_of h0
            rw [nI_clamp hj, List.getD_eq_getElem?_getD, List.getElem?_eq_none]
            · rfl
            · rw [hME.2.1]
              rcases Nat.lt_or_ge j EN.length with z | z
              · exact absurd ⟨j, z, rfl⟩ b
              · exact z
        rw [hrow]
        unfold sS_at
        split
        · rfl
        · rfl
      · rw [row j b1 b2 r b3]
        unfold sS_at
        split
        · rfl
        · next h0 =>
          obtain ⟨x, hx, rfl⟩ := nI_of h0
          rw [nI_clamp hx, List.getElem?_eq_none]
          · rfl
          · rcases Nat.lt_or_ge x (ED.getD r []).length with z | z
            · exact absurd ⟨x, z, rfl⟩ b4
            · exact z
    exact ⟨⟨⟨_, rfl⟩, ⟨_, rfl⟩⟩, k_X11_thrown (mk_M F R D2 E cu hd o') ⟨fin 0 t' c1 c2 c3 c4, rfl, Or.inl ⟨hv, by rw [c0]⟩⟩⟩
  · have hx := (List.getElem?_eq_some_iff.mp b5).1
    have hx60 := getD_le hIE.2 r
    have hv : sS_at (sS_row ED (at_ O i i)) k = v := by
      rw [row j b1 b2 r b3, b4, sS_at_nI (by omega), b5]; rfl
    have hne : ¬ v = -1 := by
      have hb : isB v := bL_getD hBE r v (List.mem_of_getElem? b5)
      intro c
      rw [c] at hb
      exact absurd hb.1 (by decide)
    rw [hv]
    exact ⟨⟨⟨_, rfl⟩, ⟨_, rfl⟩⟩, k_X11_thrown (mk_M F R D2 E cu hd o') ⟨fin 0 t' c1 c2 c3 c4, rfl, Or.inr ⟨hne, by rw [c0], rfl⟩⟩⟩
end OB2
