/-! WHAT IS GIVEN AT THE START -/
def gv_tm (i : Nat) : Term := ([.string "SmallArchives$Files" 41, .string "SmallArchives$Heads" 11, .string "SmallArchives$Heads" 58, .string "SmallArchives$Heads" 75, .string "SmallArchives$Heads" 67, .string "SmallArchives$Lines" 17, .string "SmallArchives$Lines" 41, .string "SmallArchives" 188] : List Term).getD i (.int 0)
def gv_L : List Cond := flatC (Jvm.Cond.and given_1 narrow_1)
theorem gv_1 : ∀ i : Nat, i < 8 → Cond.exactly (gv_tm i) "java/lang/String" ∈ gv_L := by decide +kernel
theorem gv_2 : ∀ i : Nat, i < 8 → Cond.eq (.field (gv_tm i) "java/lang/String" "coder" "B") (.int 0) ∈ gv_L := by decide +kernel
theorem gv_3 : ∀ i : Nat, i < 8 → Cond.arrayOf (.field (gv_tm i) "java/lang/String" "value" "[B") .byte ∈ gv_L := by decide +kernel
theorem gv_4 : ∀ i : Nat, i < 8 → Cond.eq (.length (.field (gv_tm i) "java/lang/String" "value" "[B")) (.int (Int32.ofNat (sa_lenS.getD i 0))) ∈ gv_L := by decide +kernel
theorem gv_5 : ∀ i : Nat, i < 8 → ∀ j : Nat, j < sa_lenS.getD i 0 → Cond.eq (.elem (.field (gv_tm i) "java/lang/String" "value" "[B") (.int (Int32.ofNat j))) (.int ((sa_bytS.getD i []).getD j 0)) ∈ gv_L := by decide +kernel
theorem gv_6 : ∀ i : Nat, i < 8 → ∀ j : Nat, j < 8 → i ≠ j → (Cond.not (Cond.eq (gv_tm i) (gv_tm j)) ∈ gv_L ∨ Cond.not (Cond.eq (gv_tm j) (gv_tm i)) ∈ gv_L) := by decide +kernel
theorem gv_7 : Cond.eq (.string "SmallArchives$Files" 41) (.string "SmallArchives$Numbers" 21) ∈ gv_L := by decide +kernel
theorem gv_8 : Cond.eq (.static "java/lang/String" "COMPACT_STRINGS" "Z") (.int 1) ∈ gv_L := by decide +kernel
theorem gv_9 : Cond.isRef (.static "jdk/internal/util/Preconditions" "SIOOBE_FORMATTER" "Ljava/util/function/BiFunction;") ∈ gv_L := by decide +kernel
theorem gv_10 : Cond.isRef (.static "java/lang/Throwable" "UNASSIGNED_STACK" "[Ljava/lang/StackTraceElement;") ∈ gv_L := by decide +kernel
theorem gv_11 : Cond.isRef (.static "java/lang/Throwable" "SUPPRESSED_SENTINEL" "Ljava/util/List;") ∈ gv_L := by decide +kernel
theorem gv_len : ∀ i : Nat, i < 8 → sa_lenS.getD i 0 < 2 ^ 31 := by decide +kernel
theorem gv_arr {ty : FieldType} {args : Array Value} {s : State} (h : (Cond.arrayClass ty).before args s = true) : ∃ cA, ArrOfT s cA ty ∧ s.vm.findClass ("[" ++ ty.toString) = some cA := by
  obtain ⟨c, k, comp, h1, h2, h3⟩ := Cond.arrayClass_spec h
  exact ⟨c, fun n z => ⟨fun k h => (by cases h), k, h2, comp, h3⟩, h1⟩
theorem gv_K {s : State} {bs : Nat} (hts : ∀ w ∈ lw_tbl, w.before #[Value.ref bs] s = true) (hgv : (Jvm.Cond.and given_1 narrow_1).before #[Value.ref bs] s = true) :
    ∃ (D : va_G) (cI : ClassId × ClassId) (kS : Nat → Nat), kS 5000 = bs ∧ sa_K sa_EX D cI kS s.heap.size s ∧ sv_K s.heap.size s := by
  have hg : ∀ w ∈ gv_L, w.before #[Value.ref bs] s = true := flat_of_before _ hgv
  have hA : ∀ a : Nat, a < s.heap.size → ¬ (fun q => s.heap.size ≤ q) a := fun a h => Nat.not_le.mpr h
  have ht1 : ∀ w ∈ sa_EX.2.1, w.before #[Value.ref bs] s = true := fun w hw => by
    rw [sa_e1] at hw; unfold sa_tb at hw; exact hts w (List.mem_filter.mp hw).1
  obtain ⟨adK, adV, hS8, hev⟩ := vk_Sof (args := #[Value.ref bs]) (s := s) (N := 8) (tm := gv_tm) (len := sa_lenS) (byt := sa_bytS) (A := fun q => s.heap.size ≤ q) gv_len (fun i hi => hg _ (gv_1 i hi)) (fun i hi => hg _ (gv_2 i hi)) (fun i hi => hg _ (gv_3 i hi)) (fun i hi => hg _ (gv_4 i hi)) (fun i hi j hj => hg _ (gv_5 i hi j hj)) (fun i j hi hj hij => (gv_6 i hi j hj hij).elim (fun h => Or.inl (hg _ h)) (fun h => Or.inr (hg _ h))) hA
  have hZc : sa_Zc s s.heap.size := va_Zof (hts _ w0_lscs) (hts _ w0_iniS) (va_eqi (hg _ gv_8)) hA
  have hZf : ∃ t : Nat, sa_Zf s s.heap.size .null ∨ sa_Zf s s.heap.size (.ref t) := by
    rcases va_Zqof (hts _ w0_lssi) (hts _ w0_iniP) (hg _ gv_9) hA with h | ⟨t, h⟩
    · exact ⟨0, Or.inl h⟩
    · exact ⟨t, Or.inr h⟩
  obtain ⟨t, hZf⟩ := hZf
  obtain ⟨cA1, a1, a2⟩ := gv_arr (hts _ w0_arI)
  obtain ⟨cA2, a3, a4⟩ := gv_arr (hts _ w0_arL)
  obtain ⟨c0, i0, k0⟩ := u_known (C := RX0) (T := TX0) (N := 3) ht1 inX0 (hts _ w0_insX0)
  obtain ⟨c1, i1, k1⟩ := u_known (C := RX1) (T := TX1) (N := 5) ht1 inX1 (hts _ w0_insX1)
  obtain ⟨c2, i2, k2⟩ := u_known (C := RX2) (T := TX2) (N := 6) ht1 inX2 (hts _ w0_insX2)
  obtain ⟨c3, i3, k3⟩ := u_known (C := RX3) (T := TX3) (N := 3) ht1 inX3 (hts _ w0_insX3)
  obtain ⟨c4, i4, k4⟩ := u_known (C := RX5) (T := TX5) (N := 4) ht1 inX5 (hts _ w0_insX5)
  obtain ⟨c5, i5, k5⟩ := u_known (C := RX6) (T := TX6) (N := 0) ht1 inX6 (hts _ w0_insX6)
  obtain ⟨c6, i6, k6⟩ := u_known (C := RX7) (T := TX7) (N := 0) ht1 inX7 (hts _ w0_insX7)
  obtain ⟨c7, i7, k7⟩ := u_known (C := RX9) (T := TX9) (N := 4) ht1 inX9 (hts _ w0_insX9)
  obtain ⟨c8, i8, k8⟩ := u_known (C := RX10) (T := TX10) (N := 8) ht1 inX10 (hts _ w0_insX10)
  obtain ⟨c9, i9, k9⟩ := u_known (C := RX11) (T := TX11) (N := 27) ht1 inX11 (hts _ w0_insX11)
  obtain ⟨kS, e5, e3, eK, eV⟩ : ∃ kS : Nat → Nat, kS 5000 = bs ∧ kS 3000 = t ∧ (∀ i : Nat, i < 8 → kS i = adK i) ∧ ∀ i : Nat, i < 8 → kS (1000 + i) = adV i := by
    refine ⟨fun j => if j = 5000 then bs else if j = 3000 then t else if 1000 ≤ j then adV (j - 1000) else adK j, rfl, rfl, fun i hi => ?_, fun i hi => ?_⟩
    · show (if i = 5000 then bs else if i = 3000 then t else if 1000 ≤ i then adV (i - 1000) else adK i) = adK i
      rw [if_neg (by omega), if_neg (by omega), if_neg (by omega)]
    · show (if 1000 + i = 5000 then bs else if 1000 + i = 3000 then t else if 1000 ≤ 1000 + i then adV (1000 + i - 1000) else adK (1000 + i)) = adV i
      rw [if_neg (by omega), if_neg (by omega), if_pos (by omega), Nat.add_sub_cancel_left]
  refine ⟨(fun k => [c0, c1, c2, c3, c4, c5, c6, c7, c8, c9].getD k c0, fun k => [i0, i1, i2, i3, i4, i5, i6, i7, i8, i9].getD k i0), (cA1, cA2), kS, e5, ⟨⟨?_, ?_⟩, ?_, ⟨?_, ?_⟩, ?_, hZc, ?_⟩, hts _ w0_cast, vx_Zqof (hts _ w0_lsus) (hts _ w0_iniT) (hg _ gv_10) hA, vx_Zqof (hts _ w0_lsss) (hts _ w0_iniT) (hg _ gv_11) hA⟩
  · intro k q hq
    match k, hq with
    | 0, hq => cases hq; exact k0
    | 1, hq => cases hq; exact k1
    | 2, hq => cases hq; exact k2
    | 3, hq => cases hq; exact k3
    | 4, hq => cases hq; exact k4
    | 5, hq => cases hq; exact k5
    | 6, hq => cases hq; exact k6
    | 7, hq => cases hq; exact k7
    | 8, hq => cases hq; exact k8
    | 9, hq => cases hq; exact k9
    | k + 10, hq => cases hq
  · intro k q hq
    match k, hq with
    | 0, hq => cases hq; exact ⟨a1, a2⟩
    | 1, hq => cases hq; exact ⟨a3, a4⟩
    | k + 2, hq => cases hq
  · intro w hw
    have hk := hw
    rw [sa_e2] at hk; unfold sa_nw at hk
    obtain ⟨h1, h2⟩ := List.mem_filter.mp hk
    have h3 := hts w h1
    cases w <;> first | exact absurd h2 Bool.false_ne_true | exact va_Nw.of rfl h3
  · intro i hi
    show _ ∧ _ ∧ va_OF _ _ _ (.ref (kS (1000 + i))) _ _ _ _ ∧ va_T _ (kS (1000 + i)) _ _ _ _ _
    rw [eK i hi, eV i hi]
    exact hS8.1 i hi
  · intro i j hi hj
    rw [eK i hi, eK j hj]
    exact hS8.2 i j hi hj
  · refine sa_lc (vk_R.of (hts _ w0_sr0) ?_) (sa_lc (vk_R.of (hts _ w0_sr1) ?_) (sa_lc (vk_R.of (hts _ w0_sr2) ?_) (sa_lc (vk_R.of (hts _ w0_sr3) ?_) (sa_lc (vk_R.of (hts _ w0_sr4) ?_) (sa_lc (vk_R.of (hts _ w0_sr5) ?_) (sa_lc (vk_R.of (hts _ w0_sr6) ?_) (sa_lc (vk_R.of (hts _ w0_sr7) ?_) (sa_lc (vk_R.of (hts _ w0_sr8) ?_) sa_l0))))))))
    · show _ = some (Value.ref (kS 0)); rw [eK 0 (by omega)]; exact hev 0 (by omega)
    · show _ = some (Value.ref (kS 1)); rw [eK 1 (by omega)]; exact hev 1 (by omega)
    · show _ = some (Value.ref (kS 2)); rw [eK 2 (by omega)]; exact hev 2 (by omega)
    · show _ = some (Value.ref (kS 3)); rw [eK 3 (by omega)]; exact hev 3 (by omega)
    · show _ = some (Value.ref (kS 4)); rw [eK 4 (by omega)]; exact hev 4 (by omega)
    · show _ = some (Value.ref (kS 5)); rw [eK 5 (by omega)]; exact hev 5 (by omega)
    · show _ = some (Value.ref (kS 6)); rw [eK 6 (by omega)]; exact hev 6 (by omega)
    · show _ = some (Value.ref (kS 0)); rw [eK 0 (by omega)]; exact va_eqR (hg _ gv_7) (hev 0 (by omega))
    · show _ = some (Value.ref (kS 7)); rw [eK 7 (by omega)]; exact hev 7 (by omega)
  · rw [e3]; exact hZf
