def tb_X9_init : sa_T := [(0, so_aload 0 1),
  (1, so_obj 4),
  (4, so_aload 0 5),
  (5, so_push (.inl (0)) 6),
  (6, so_iload 1 7),
  (7, so_bin8 (fun x y => if x < y then y else x) 10),
  (10, so_newa 12),
  (12, so_put [7] 1 1 15),
  (15, so_aload 0 16),
  (16, so_push (.inl (0)) 17),
  (17, so_iload 2 18),
  (18, so_bin8 (fun x y => if x < y then y else x) 21),
  (21, so_newa 23),
  (23, so_put [7] 0 1 26),
  (26, so_ret)]
def ct_X9_init : sa_C := sa_ct tb_X9_init 3
set_option maxRecDepth 100000 in
set_option maxHeartbeats 4000000 in
theorem met_X9_init : sa_Met sa_EX yX9_init cX9_init 3 none 1 21 ct_X9_init := sa_met sa_EX_ok (by decide +kernel) ⟨ss_aload_n rfl dX9_init_0 rfl,
  ss_obj dX9_init_1 wt_1_44 wt_1_28 wt_1_29 (by decide) (by decide) rfl,
  ss_aload_n rfl dX9_init_4 rfl,
  ss_iconst dX9_init_5 (by decide) rfl,
  ss_iload_n rfl dX9_init_6 rfl,
  ss_max dX9_init_7 wt_1_45 wt_1_46 wt_1_5 wt_1_47 (by decide) (by decide) rfl,
  ss_newa dX9_init_10 wt_1_61 rfl,
  ss_put dX9_init_12 (sa_lc ⟨⟨_, _, _, rfl, by decide, inX9, wt_1_49⟩, ⟨_, _, _, _, rfl, tyX9_ok, nmX9⟩, ⟨_, _, _, _, rfl, tyX9_ok 1 (by decide), Or.inr ⟨_, rfl⟩⟩, fun q h => by cases h; exact Or.inr ⟨rfl, rfl, rfl⟩⟩ sa_l0) rfl,
  ss_aload_n rfl dX9_init_15 rfl,
  ss_iconst dX9_init_16 (by decide) rfl,
  ss_iload_n rfl dX9_init_17 rfl,
  ss_max dX9_init_18 wt_1_45 wt_1_46 wt_1_5 wt_1_47 (by decide) (by decide) rfl,
  ss_newa dX9_init_21 wt_1_61 rfl,
  ss_put dX9_init_23 (sa_lc ⟨⟨_, _, _, rfl, by decide, inX9, wt_1_48⟩, ⟨_, _, _, _, rfl, tyX9_ok, nmX9⟩, ⟨_, _, _, _, rfl, tyX9_ok 0 (by decide), Or.inr ⟨_, rfl⟩⟩, fun q h => by cases h; exact Or.inr ⟨rfl, rfl, rfl⟩⟩ sa_l0) rfl,
  ss_ret dX9_init_26 rfl trivial,
  trivial⟩
set_option maxRecDepth 100000 in
theorem tm_X9_init : sa_tm tb_X9_init := ⟨sm_aload, sm_obj, sm_aload, sm_push, sm_iload, sm_bin8, sm_newa, sm_put, sm_aload, sm_push, sm_iload, sm_bin8, sm_newa, sm_put, sm_ret, trivial⟩
theorem mo_X9_init : sa_mc ct_X9_init := sa_mct tm_X9_init
theorem cal_X9_init (fr lr : Nat) (h1 : 1 + 1 ≤ fr) (h2 : 8 + (3 + 11) + 21 ≤ lr) : sa_cal sa_EX yX9_init cX9_init 3 none 1 21 ct_X9_init 2 3 fr lr := ⟨met_X9_init, wt_1_43, wt_1_4, ⟨by decide +kernel, by decide +kernel, by decide +kernel⟩, by decide, h1, h2⟩
def tb_X8_init : sa_T := [(0, so_aload 0 1),
  (1, so_obj 4),
  (4, so_aload 0 5),
  (5, so_new 7 4 [.inr (.inl none), .inr (.inl none), .inl 0, .inl 0] 8),
  (8, so_dup 9),
  (9, so_iload 1 10),
  (10, so_iload 1 11),
  (11, so_push (.inl (20)) 13),
  (13, so_bin (fun x y => x * y) 14),
  (14, so_init ct_X9_init 2 2 2646 17),
  (17, so_put [2, 3] 0 1 20),
  (20, so_aload 0 21),
  (21, so_new 7 4 [.inr (.inl none), .inr (.inl none), .inl 0, .inl 0] 24),
  (24, so_dup 25),
  (25, so_iload 1 26),
  (26, so_iload 2 27),
  (27, so_init ct_X9_init 2 2 2646 30),
  (30, so_put [2, 3] 1 1 33),
  (33, so_ret)]
def ct_X8_init : sa_C := sa_ct tb_X8_init 3
set_option maxRecDepth 100000 in
set_option maxHeartbeats 4000000 in
theorem met_X8_init : sa_Met sa_EX yX8_init cX8_init 3 none 2 43 ct_X8_init := sa_met sa_EX_ok (by decide +kernel) ⟨ss_aload_n rfl dX8_init_0 rfl,
  ss_obj dX8_init_1 wt_1_38 wt_1_28 wt_1_29 (by decide) (by decide) rfl,
  ss_aload_n rfl dX8_init_4 rfl,
  ss_new (C := RX9) (T := TX9) dX8_init_5 rfl inX9 tyX9 tyX9_ok wt_1_39 wt_1_40 wt_1_4 (sa_dfX9) rfl,
  ss_dup dX8_init_8 rfl,
  ss_iload_n rfl dX8_init_9 rfl,
  ss_iload_n rfl dX8_init_10 rfl,
  ss_bipush dX8_init_11 (by decide) rfl,
  ss_imul dX8_init_13 rfl,
  ss_init dX8_init_14 (cal_X9_init _ _ (by decide) (by decide)) wt_1_41 wt_1_42 rfl rfl,
  ss_put dX8_init_17 (sa_lc ⟨⟨_, _, _, rfl, by decide, inX2, wt_1_63⟩, ⟨_, _, _, _, rfl, tyX2_ok, nmX2⟩, ⟨_, _, _, _, rfl, tyX2_ok 0 (by decide), Or.inl ⟨_, rfl⟩⟩, fun q h => by cases h; exact Or.inr ⟨rfl, rfl, rfl⟩⟩ (sa_lc ⟨⟨_, _, _, rfl, by decide, inX3, wt_1_63⟩, ⟨_, _, _, _, rfl, tyX3_ok, nmX3⟩, ⟨_, _, _, _, rfl, tyX3_ok 0 (by decide), Or.inl ⟨_, rfl⟩⟩, fun q h => by cases h; exact Or.inr ⟨rfl, rfl, rfl⟩⟩ sa_l0)) rfl,
  ss_aload_n rfl dX8_init_20 rfl,
  ss_new (C := RX9) (T := TX9) dX8_init_21 rfl inX9 tyX9 tyX9_ok wt_1_39 wt_1_40 wt_1_4 (sa_dfX9) rfl,
  ss_dup dX8_init_24 rfl,
  ss_iload_n rfl dX8_init_25 rfl,
  ss_iload_n rfl dX8_init_26 rfl,
  ss_init dX8_init_27 (cal_X9_init _ _ (by decide) (by decide)) wt_1_41 wt_1_42 rfl rfl,
  ss_put dX8_init_30 (sa_lc ⟨⟨_, _, _, rfl, by decide, inX2, wt_1_64⟩, ⟨_, _, _, _, rfl, tyX2_ok, nmX2⟩, ⟨_, _, _, _, rfl, tyX2_ok 1 (by decide), Or.inl ⟨_, rfl⟩⟩, fun q h => by cases h; exact Or.inr ⟨rfl, rfl, rfl⟩⟩ (sa_lc ⟨⟨_, _, _, rfl, by decide, inX3, wt_1_64⟩, ⟨_, _, _, _, rfl, tyX3_ok, nmX3⟩, ⟨_, _, _, _, rfl, tyX3_ok 1 (by decide), Or.inl ⟨_, rfl⟩⟩, fun q h => by cases h; exact Or.inr ⟨rfl, rfl, rfl⟩⟩ sa_l0)) rfl,
  ss_ret dX8_init_33 rfl trivial,
  trivial⟩
set_option maxRecDepth 100000 in
theorem tm_X8_init : sa_tm tb_X8_init := ⟨sm_aload, sm_obj, sm_aload, sm_new, sm_dup, sm_iload, sm_iload, sm_push, sm_bin, (sm_init mo_X9_init), sm_put, sm_aload, sm_new, sm_dup, sm_iload, sm_iload, (sm_init mo_X9_init), sm_put, sm_ret, trivial⟩
theorem mo_X8_init : sa_mc ct_X8_init := sa_mct tm_X8_init
theorem cal_X8_init (fr lr : Nat) (h1 : 2 + 1 ≤ fr) (h2 : 8 + (3 + 11) + 43 ≤ lr) : sa_cal sa_EX yX8_init cX8_init 3 none 2 43 ct_X8_init 2 3 fr lr := ⟨met_X8_init, wt_1_37, wt_1_2, ⟨by decide +kernel, by decide +kernel, by decide +kernel⟩, by decide, h1, h2⟩
def tb_X2_init : sa_T := [(0, so_aload 0 1),
  (1, so_push (.inl (126)) 3),
  (3, so_push (.inl (1500)) 6),
  (6, so_init ct_X8_init 2 6 5300 9),
  (9, so_aload 0 10),
  (10, so_push (.inl (126)) 12),
  (12, so_newa 14),
  (14, so_put [2] 2 1 17),
  (17, so_aload 0 18),
  (18, so_push (.inl (126)) 20),
  (20, so_newa 22),
  (22, so_put [2] 3 1 25),
  (25, so_aload 0 26),
  (26, so_push (.inl (126)) 28),
  (28, so_newa 30),
  (30, so_put [2] 4 1 33),
  (33, so_aload 0 34),
  (34, so_push (.inl (126)) 36),
  (36, so_newa 38),
  (38, so_put [2] 5 1 41),
  (41, so_ret)]
def ct_X2_init : sa_C := sa_ct tb_X2_init 1
set_option maxRecDepth 100000 in
set_option maxHeartbeats 4000000 in
theorem met_X2_init : sa_Met sa_EX yX2_init cX2_init 1 none 3 65 ct_X2_init := sa_met sa_EX_ok (by decide +kernel) ⟨ss_aload_n rfl dX2_init_0 rfl,
  ss_bipush dX2_init_1 (by decide) rfl,
  ss_sipush dX2_init_3 (by decide) rfl,
  ss_init dX2_init_6 (cal_X8_init _ _ (by decide) (by decide)) wt_1_94 wt_1_36 rfl rfl,
  ss_aload_n rfl dX2_init_9 rfl,
  ss_bipush dX2_init_10 (by decide) rfl,
  ss_newa dX2_init_12 wt_1_61 rfl,
  ss_put dX2_init_14 (sa_lc ⟨⟨_, _, _, rfl, by decide, inX2, wt_1_95⟩, ⟨_, _, _, _, rfl, tyX2_ok, nmX2⟩, ⟨_, _, _, _, rfl, tyX2_ok 2 (by decide), Or.inr ⟨_, rfl⟩⟩, fun q h => by cases h; exact Or.inr ⟨rfl, rfl, rfl⟩⟩ sa_l0) rfl,
  ss_aload_n rfl dX2_init_17 rfl,
  ss_bipush dX2_init_18 (by decide) rfl,
  ss_newa dX2_init_20 wt_1_61 rfl,
  ss_put dX2_init_22 (sa_lc ⟨⟨_, _, _, rfl, by decide, inX2, wt_1_96⟩, ⟨_, _, _, _, rfl, tyX2_ok, nmX2⟩, ⟨_, _, _, _, rfl, tyX2_ok 3 (by decide), Or.inr ⟨_, rfl⟩⟩, fun q h => by cases h; exact Or.inr ⟨rfl, rfl, rfl⟩⟩ sa_l0) rfl,
  ss_aload_n rfl dX2_init_25 rfl,
  ss_bipush dX2_init_26 (by decide) rfl,
  ss_newa dX2_init_28 wt_1_61 rfl,
  ss_put dX2_init_30 (sa_lc ⟨⟨_, _, _, rfl, by decide, inX2, wt_1_97⟩, ⟨_, _, _, _, rfl, tyX2_ok, nmX2⟩, ⟨_, _, _, _, rfl, tyX2_ok 4 (by decide), Or.inr ⟨_, rfl⟩⟩, fun q h => by cases h; exact Or.inr ⟨rfl, rfl, rfl⟩⟩ sa_l0) rfl,
  ss_aload_n rfl dX2_init_33 rfl,
  ss_bipush dX2_init_34 (by decide) rfl,
  ss_newa dX2_init_36 wt_1_61 rfl,
  ss_put dX2_init_38 (sa_lc ⟨⟨_, _, _, rfl, by decide, inX2, wt_1_98⟩, ⟨_, _, _, _, rfl, tyX2_ok, nmX2⟩, ⟨_, _, _, _, rfl, tyX2_ok 5 (by decide), Or.inr ⟨_, rfl⟩⟩, fun q h => by cases h; exact Or.inr ⟨rfl, rfl, rfl⟩⟩ sa_l0) rfl,
  ss_ret dX2_init_41 rfl trivial,
  trivial⟩
set_option maxRecDepth 100000 in
theorem tm_X2_init : sa_tm tb_X2_init := ⟨sm_aload, sm_push, sm_push, (sm_init mo_X8_init), sm_aload, sm_push, sm_newa, sm_put, sm_aload, sm_push, sm_newa, sm_put, sm_aload, sm_push, sm_newa, sm_put, sm_aload, sm_push, sm_newa, sm_put, sm_ret, trivial⟩
theorem mo_X2_init : sa_mc ct_X2_init := sa_mct tm_X2_init
theorem cal_X2_init (fr lr : Nat) (h1 : 3 + 1 ≤ fr) (h2 : 8 + (1 + 11) + 65 ≤ lr) : sa_cal sa_EX yX2_init cX2_init 1 none 3 65 ct_X2_init 0 1 fr lr := ⟨met_X2_init, wt_1_93, wt_1_7, ⟨by decide +kernel, by decide +kernel, by decide +kernel⟩, by decide, h1, h2⟩
def tb_X9_begin : sa_T := [(0, so_aload 0 1),
  (1, so_get [7] 3 4),
  (4, so_aload 0 5),
  (5, so_get [7] 1 8),
  (8, so_alen 9),
  (9, so_cmp (fun x y => y ≤ x) 35 12),
  (12, so_aload 0 13),
  (13, so_get [7] 1 16),
  (16, so_aload 0 17),
  (17, so_get [7] 3 20),
  (20, so_aload 0 21),
  (21, so_get [7] 2 24),
  (24, so_iast 25),
  (25, so_aload 0 26),
  (26, so_dup 27),
  (27, so_get [7] 3 30),
  (30, so_push (.inl (1)) 31),
  (31, so_bin (fun x y => x + y) 32),
  (32, so_put [7] 3 0 35),
  (35, so_ret)]
def ct_X9_begin : sa_C := sa_ct tb_X9_begin 1
set_option maxRecDepth 100000 in
set_option maxHeartbeats 4000000 in
theorem met_X9_begin : sa_Met sa_EX yX9_begin cX9_begin 1 none 0 0 ct_X9_begin := sa_met sa_EX_ok (by decide +kernel) ⟨ss_aload_n rfl dX9_begin_0 rfl,
  ss_get dX9_begin_1 (sa_lc ⟨_, _, _, rfl, by decide, inX9, wt_1_51⟩ sa_l0) rfl,
  ss_aload_n rfl dX9_begin_4 rfl,
  ss_get dX9_begin_5 (sa_lc ⟨_, _, _, rfl, by decide, inX9, wt_1_49⟩ sa_l0) rfl,
  ss_alen dX9_begin_8 rfl,
  ss_icmp_ge (tgt := 35) dX9_begin_9 (by decide) rfl,
  ss_aload_n rfl dX9_begin_12 rfl,
  ss_get dX9_begin_13 (sa_lc ⟨_, _, _, rfl, by decide, inX9, wt_1_49⟩ sa_l0) rfl,
  ss_aload_n rfl dX9_begin_16 rfl,
  ss_get dX9_begin_17 (sa_lc ⟨_, _, _, rfl, by decide, inX9, wt_1_51⟩ sa_l0) rfl,
  ss_aload_n rfl dX9_begin_20 rfl,
  ss_get dX9_begin_21 (sa_lc ⟨_, _, _, rfl, by decide, inX9, wt_1_50⟩ sa_l0) rfl,
  ss_iast dX9_begin_24 rfl,
  ss_aload_n rfl dX9_begin_25 rfl,
  ss_dup dX9_begin_26 rfl,
  ss_get dX9_begin_27 (sa_lc ⟨_, _, _, rfl, by decide, inX9, wt_1_51⟩ sa_l0) rfl,
  ss_iconst dX9_begin_30 (by decide) rfl,
  ss_iadd dX9_begin_31 rfl,
  ss_put dX9_begin_32 (sa_lc ⟨⟨_, _, _, rfl, by decide, inX9, wt_1_51⟩, ⟨_, _, _, _, rfl, tyX9_ok, nmX9⟩, ⟨_, _, _, rfl, tyX9_ok 3 (by decide)⟩, fun q h => by cases h; exact Or.inl rfl⟩ sa_l0) rfl,
  ss_ret dX9_begin_35 rfl trivial,
  trivial⟩
set_option maxRecDepth 100000 in
theorem tm_X9_begin : sa_tm tb_X9_begin := ⟨sm_aload, sm_get, sm_aload, sm_get, sm_alen, sm_cmp, sm_aload, sm_get, sm_aload, sm_get, sm_aload, sm_get, sm_iast, sm_aload, sm_dup, sm_get, sm_push, sm_bin, sm_put, sm_ret, trivial⟩
theorem mo_X9_begin : sa_mc ct_X9_begin := sa_mct tm_X9_begin
theorem cal_X9_begin (fr lr : Nat) (h1 : 0 + 1 ≤ fr) (h2 : 8 + (1 + 11) + 0 ≤ lr) : sa_cal sa_EX yX9_begin cX9_begin 1 none 0 0 ct_X9_begin 0 1 fr lr := ⟨met_X9_begin, wt_2_1, wt_1_4, ⟨by decide +kernel, by decide +kernel, by decide +kernel⟩, by decide, h1, h2⟩
def tb_X8_addThing : sa_T := [(0, so_aload 0 1),
  (1, so_get [2, 3] 0 4),
  (4, so_virt [(7, ct_X9_begin)] 0 0 0 7),
  (7, so_aload 0 8),
  (8, so_get [2, 3] 1 11),
  (11, so_virt [(7, ct_X9_begin)] 0 0 0 14),
  (14, so_ret)]
def ct_X8_addThing : sa_C := sa_ct tb_X8_addThing 1
set_option maxRecDepth 100000 in
set_option maxHeartbeats 4000000 in
theorem met_X8_addThing : sa_Met sa_EX yX8_addThing cX8_addThing 1 none 1 20 ct_X8_addThing := sa_met sa_EX_ok (by decide +kernel) ⟨ss_aload_n rfl dX8_addThing_0 rfl,
  ss_get dX8_addThing_1 (sa_lc ⟨_, _, _, rfl, by decide, inX2, wt_1_63⟩ (sa_lc ⟨_, _, _, rfl, by decide, inX3, wt_1_63⟩ sa_l0)) rfl,
  ss_virt dX8_addThing_4 (sa_lc ⟨_, _, _, yX9_begin, _, _, _, _, _, rfl, cal_X9_begin _ _ (by decide) (by decide), wt_1_239, Or.inl ⟨wt_1_238, wt_2_0⟩⟩ sa_l0) rfl,
  ss_aload_n rfl dX8_addThing_7 rfl,
  ss_get dX8_addThing_8 (sa_lc ⟨_, _, _, rfl, by decide, inX2, wt_1_64⟩ (sa_lc ⟨_, _, _, rfl, by decide, inX3, wt_1_64⟩ sa_l0)) rfl,
  ss_virt dX8_addThing_11 (sa_lc ⟨_, _, _, yX9_begin, _, _, _, _, _, rfl, cal_X9_begin _ _ (by decide) (by decide), wt_1_239, Or.inl ⟨wt_1_238, wt_2_0⟩⟩ sa_l0) rfl,
  ss_ret dX8_addThing_14 rfl trivial,
  trivial⟩
set_option maxRecDepth 100000 in
theorem tm_X8_addThing : sa_tm tb_X8_addThing := ⟨sm_aload, sm_get, (sm_virt (sa_lc mo_X9_begin sa_l0)), sm_aload, sm_get, (sm_virt (sa_lc mo_X9_begin sa_l0)), sm_ret, trivial⟩
theorem mo_X8_addThing : sa_mc ct_X8_addThing := sa_mct tm_X8_addThing
theorem cal_X8_addThing (fr lr : Nat) (h1 : 1 + 1 ≤ fr) (h2 : 8 + (1 + 11) + 20 ≤ lr) : sa_cal sa_EX yX8_addThing cX8_addThing 1 none 1 20 ct_X8_addThing 0 1 fr lr := ⟨met_X8_addThing, wt_1_237, wt_1_2, ⟨by decide +kernel, by decide +kernel, by decide +kernel⟩, by decide, h1, h2⟩
def tb_X8_last : sa_T := [(0, so_aload 0 1),
  (1, so_get [2, 3] 0 4),
  (4, so_virt [(7, ct_X9_count)] 0 0 0 7),
  (7, so_push (.inl (1)) 8),
  (8, so_bin (fun x y => x - y) 9),
  (9, so_iret)]
def ct_X8_last : sa_C := sa_ct tb_X8_last 1
set_option maxRecDepth 100000 in
set_option maxHeartbeats 4000000 in
theorem met_X8_last : sa_Met sa_EX yX8_last cX8_last 1 (some Jvm.ClassFile.FieldType.int) 1 20 ct_X8_last := sa_met sa_EX_ok (by decide +kernel) ⟨ss_aload_n rfl dX8_last_0 rfl,
  ss_get dX8_last_1 (sa_lc ⟨_, _, _, rfl, by decide, inX2, wt_1_63⟩ (sa_lc ⟨_, _, _, rfl, by decide, inX3, wt_1_63⟩ sa_l0)) rfl,
  ss_virt dX8_last_4 (sa_lc ⟨_, _, _, yX9_count, _, _, _, _, _, rfl, cal_X9_count _ _ (by decide) (by decide), wt_1_208, Or.inl ⟨wt_1_207, wt_1_209⟩⟩ sa_l0) rfl,
  ss_iconst dX8_last_7 (by decide) rfl,
  ss_isub dX8_last_8 rfl,
  ss_iret dX8_last_9 rfl,
  trivial⟩
set_option maxRecDepth 100000 in
theorem tm_X8_last : sa_tm tb_X8_last := ⟨sm_aload, sm_get, (sm_virt (sa_lc mo_X9_count sa_l0)), sm_push, sm_bin, sm_iret, trivial⟩
theorem mo_X8_last : sa_mc ct_X8_last := sa_mct tm_X8_last
theorem cal_X8_last (fr lr : Nat) (h1 : 1 + 1 ≤ fr) (h2 : 8 + (1 + 11) + 20 ≤ lr) : sa_cal sa_EX yX8_last cX8_last 1 (some Jvm.ClassFile.FieldType.int) 1 20 ct_X8_last 0 1 fr lr := ⟨met_X8_last, wt_1_216, wt_1_2, ⟨by decide +kernel, by decide +kernel, by decide +kernel⟩, by decide, h1, h2⟩
def tb_X2_setNumber : sa_T := [(0, so_aload 0 1),
  (1, so_virt [(2, ct_X8_last)] 0 0 0 4),
  (4, so_istore 3 5),
  (5, so_iload 3 6),
  (6, so_if (fun x => x < 0) 41 9),
  (9, so_iload 3 10),
  (10, so_aload 0 11),
  (11, so_get [2] 3 14),
  (14, so_alen 15),
  (15, so_cmp (fun x y => y ≤ x) 41 18),
  (18, so_iload 3 19),
  (19, so_aload 0 20),
  (20, so_get [2] 4 23),
  (23, so_alen 24),
  (24, so_cmp (fun x y => y ≤ x) 41 27),
  (27, so_aload 0 28),
  (28, so_get [2] 3 31),
  (31, so_iload 3 32),
  (32, so_iload 1 33),
  (33, so_iast 34),
  (34, so_aload 0 35),
  (35, so_get [2] 4 38),
  (38, so_iload 3 39),
  (39, so_iload 2 40),
  (40, so_iast 41),
  (41, so_ret)]
def ct_X2_setNumber : sa_C := sa_ct tb_X2_setNumber 4
set_option maxRecDepth 100000 in
set_option maxHeartbeats 4000000 in
theorem met_X2_setNumber : sa_Met sa_EX yX2_setNumber cX2_setNumber 4 none 2 40 ct_X2_setNumber := sa_met sa_EX_ok (by decide +kernel) ⟨ss_aload_n rfl dX2_setNumber_0 rfl,
  ss_virt dX2_setNumber_1 (sa_lc ⟨_, _, _, yX8_last, _, _, _, _, _, rfl, cal_X8_last _ _ (by decide) (by decide), wt_1_215, Or.inr ⟨⟨RX2, "last", "()I"⟩, RX8, wt_3_178, wt_3_179, wt_3_180, wn_1_213, ⟨by decide, by decide⟩, by decide +kernel⟩⟩ sa_l0) rfl,
  ss_istore_n rfl dX2_setNumber_4 (by decide) rfl,
  ss_iload_n rfl dX2_setNumber_5 rfl,
  ss_if_lt (tgt := 41) dX2_setNumber_6 (by decide) rfl,
  ss_iload_n rfl dX2_setNumber_9 rfl,
  ss_aload_n rfl dX2_setNumber_10 rfl,
  ss_get dX2_setNumber_11 (sa_lc ⟨_, _, _, rfl, by decide, inX2, wt_1_96⟩ sa_l0) rfl,
  ss_alen dX2_setNumber_14 rfl,
  ss_icmp_ge (tgt := 41) dX2_setNumber_15 (by decide) rfl,
  ss_iload_n rfl dX2_setNumber_18 rfl,
  ss_aload_n rfl dX2_setNumber_19 rfl,
  ss_get dX2_setNumber_20 (sa_lc ⟨_, _, _, rfl, by decide, inX2, wt_1_97⟩ sa_l0) rfl,
  ss_alen dX2_setNumber_23 rfl,
  ss_icmp_ge (tgt := 41) dX2_setNumber_24 (by decide) rfl,
  ss_aload_n rfl dX2_setNumber_27 rfl,
  ss_get dX2_setNumber_28 (sa_lc ⟨_, _, _, rfl, by decide, inX2, wt_1_96⟩ sa_l0) rfl,
  ss_iload_n rfl dX2_setNumber_31 rfl,
  ss_iload_n rfl dX2_setNumber_32 rfl,
  ss_iast dX2_setNumber_33 rfl,
  ss_aload_n rfl dX2_setNumber_34 rfl,
  ss_get dX2_setNumber_35 (sa_lc ⟨_, _, _, rfl, by decide, inX2, wt_1_97⟩ sa_l0) rfl,
  ss_iload_n rfl dX2_setNumber_38 rfl,
  ss_iload_n rfl dX2_setNumber_39 rfl,
  ss_iast dX2_setNumber_40 rfl,
  ss_ret dX2_setNumber_41 rfl trivial,
  trivial⟩
set_option maxRecDepth 100000 in
theorem tm_X2_setNumber : sa_tm tb_X2_setNumber := ⟨sm_aload, (sm_virt (sa_lc mo_X8_last sa_l0)), sm_istore, sm_iload, sm_if, sm_iload, sm_aload, sm_get, sm_alen, sm_cmp, sm_iload, sm_aload, sm_get, sm_alen, sm_cmp, sm_aload, sm_get, sm_iload, sm_iload, sm_iast, sm_aload, sm_get, sm_iload, sm_iload, sm_iast, sm_ret, trivial⟩
theorem mo_X2_setNumber : sa_mc ct_X2_setNumber := sa_mct tm_X2_setNumber
theorem cal_X2_setNumber (fr lr : Nat) (h1 : 2 + 1 ≤ fr) (h2 : 8 + (4 + 11) + 40 ≤ lr) : sa_cal sa_EX yX2_setNumber cX2_setNumber 4 none 2 40 ct_X2_setNumber 2 3 fr lr := ⟨met_X2_setNumber, wt_3_184, wt_1_7, ⟨by decide +kernel, by decide +kernel, by decide +kernel⟩, by decide, h1, h2⟩
def tb_X2_setHolder : sa_T := [(0, so_iload 1 1),
  (1, so_if (fun x => x < 0) 20 4),
  (4, so_iload 1 5),
  (5, so_aload 0 6),
  (6, so_get [2] 5 9),
  (9, so_alen 10),
  (10, so_cmp (fun x y => y ≤ x) 20 13),
  (13, so_aload 0 14),
  (14, so_get [2] 5 17),
  (17, so_iload 1 18),
  (18, so_iload 2 19),
  (19, so_iast 20),
  (20, so_ret)]
def ct_X2_setHolder : sa_C := sa_ct tb_X2_setHolder 3
set_option maxRecDepth 100000 in
set_option maxHeartbeats 4000000 in
theorem met_X2_setHolder : sa_Met sa_EX yX2_setHolder cX2_setHolder 3 none 0 0 ct_X2_setHolder := sa_met sa_EX_ok (by decide +kernel) ⟨ss_iload_n rfl dX2_setHolder_0 rfl,
  ss_if_lt (tgt := 20) dX2_setHolder_1 (by decide) rfl,
  ss_iload_n rfl dX2_setHolder_4 rfl,
  ss_aload_n rfl dX2_setHolder_5 rfl,
  ss_get dX2_setHolder_6 (sa_lc ⟨_, _, _, rfl, by decide, inX2, wt_1_98⟩ sa_l0) rfl,
  ss_alen dX2_setHolder_9 rfl,
  ss_icmp_ge (tgt := 20) dX2_setHolder_10 (by decide) rfl,
  ss_aload_n rfl dX2_setHolder_13 rfl,
  ss_get dX2_setHolder_14 (sa_lc ⟨_, _, _, rfl, by decide, inX2, wt_1_98⟩ sa_l0) rfl,
  ss_iload_n rfl dX2_setHolder_17 rfl,
  ss_iload_n rfl dX2_setHolder_18 rfl,
  ss_iast dX2_setHolder_19 rfl,
  ss_ret dX2_setHolder_20 rfl trivial,
  trivial⟩
set_option maxRecDepth 100000 in
theorem tm_X2_setHolder : sa_tm tb_X2_setHolder := ⟨sm_iload, sm_if, sm_iload, sm_aload, sm_get, sm_alen, sm_cmp, sm_aload, sm_get, sm_iload, sm_iload, sm_iast, sm_ret, trivial⟩
theorem mo_X2_setHolder : sa_mc ct_X2_setHolder := sa_mct tm_X2_setHolder
theorem cal_X2_setHolder (fr lr : Nat) (h1 : 0 + 1 ≤ fr) (h2 : 8 + (3 + 11) + 0 ≤ lr) : sa_cal sa_EX yX2_setHolder cX2_setHolder 3 none 0 0 ct_X2_setHolder 2 3 fr lr := ⟨met_X2_setHolder, wt_3_188, wt_1_7, ⟨by decide +kernel, by decide +kernel, by decide +kernel⟩, by decide, h1, h2⟩
def tb_X2_begin : sa_T := [(0, so_aload 0 1),
  (1, so_virt [(2, ct_X8_addThing)] 0 0 0 4),
  (4, so_aload 0 5),
  (5, so_virt [(2, ct_X8_last)] 0 0 0 8),
  (8, so_istore 2 9),
  (9, so_iload 2 10),
  (10, so_if (fun x => x < 0) 29 13),
  (13, so_iload 2 14),
  (14, so_aload 0 15),
  (15, so_get [2] 2 18),
  (18, so_alen 19),
  (19, so_cmp (fun x y => y ≤ x) 29 22),
  (22, so_aload 0 23),
  (23, so_get [2] 2 26),
  (26, so_iload 2 27),
  (27, so_iload 1 28),
  (28, so_iast 29),
  (29, so_aload 0 30),
  (30, so_push (.inl (0)) 31),
  (31, so_push (.inl (1)) 32),
  (32, so_virt [(2, ct_X2_setNumber)] 2 0 0 35),
  (35, so_aload 0 36),
  (36, so_iload 2 37),
  (37, so_iload 2 38),
  (38, so_virt [(2, ct_X2_setHolder)] 2 0 0 41),
  (41, so_ret)]
def ct_X2_begin : sa_C := sa_ct tb_X2_begin 3
set_option maxRecDepth 100000 in
set_option maxHeartbeats 4000000 in
theorem met_X2_begin : sa_Met sa_EX yX2_begin cX2_begin 3 none 3 63 ct_X2_begin := sa_met sa_EX_ok (by decide +kernel) ⟨ss_aload_n rfl dX2_begin_0 rfl,
  ss_virt dX2_begin_1 (sa_lc ⟨_, _, _, yX8_addThing, _, _, _, _, _, rfl, cal_X8_addThing _ _ (by decide) (by decide), wt_1_236, Or.inr ⟨⟨RX2, "addThing", "()V"⟩, RX8, wt_3_175, wt_3_176, wt_3_177, wn_1_234, ⟨by decide, by decide⟩, by decide +kernel⟩⟩ sa_l0) rfl,
  ss_aload_n rfl dX2_begin_4 rfl,
  ss_virt dX2_begin_5 (sa_lc ⟨_, _, _, yX8_last, _, _, _, _, _, rfl, cal_X8_last _ _ (by decide) (by decide), wt_1_215, Or.inr ⟨⟨RX2, "last", "()I"⟩, RX8, wt_3_178, wt_3_179, wt_3_180, wn_1_213, ⟨by decide, by decide⟩, by decide +kernel⟩⟩ sa_l0) rfl,
  ss_istore_n rfl dX2_begin_8 (by decide) rfl,
  ss_iload_n rfl dX2_begin_9 rfl,
  ss_if_lt (tgt := 29) dX2_begin_10 (by decide) rfl,
  ss_iload_n rfl dX2_begin_13 rfl,
  ss_aload_n rfl dX2_begin_14 rfl,
  ss_get dX2_begin_15 (sa_lc ⟨_, _, _, rfl, by decide, inX2, wt_1_95⟩ sa_l0) rfl,
  ss_alen dX2_begin_18 rfl,
  ss_icmp_ge (tgt := 29) dX2_begin_19 (by decide) rfl,
  ss_aload_n rfl dX2_begin_22 rfl,
  ss_get dX2_begin_23 (sa_lc ⟨_, _, _, rfl, by decide, inX2, wt_1_95⟩ sa_l0) rfl,
  ss_iload_n rfl dX2_begin_26 rfl,
  ss_iload_n rfl dX2_begin_27 rfl,
  ss_iast dX2_begin_28 rfl,
  ss_aload_n rfl dX2_begin_29 rfl,
  ss_iconst dX2_begin_30 (by decide) rfl,
  ss_iconst dX2_begin_31 (by decide) rfl,
  ss_virt dX2_begin_32 (sa_lc ⟨_, _, _, yX2_setNumber, _, _, _, _, _, rfl, cal_X2_setNumber _ _ (by decide) (by decide), wt_3_182, Or.inl ⟨wt_3_181, wt_3_183⟩⟩ sa_l0) rfl,
  ss_aload_n rfl dX2_begin_35 rfl,
  ss_iload_n rfl dX2_begin_36 rfl,
  ss_iload_n rfl dX2_begin_37 rfl,
  ss_virt dX2_begin_38 (sa_lc ⟨_, _, _, yX2_setHolder, _, _, _, _, _, rfl, cal_X2_setHolder _ _ (by decide) (by decide), wt_3_187, Or.inl ⟨wt_3_185, wp_2⟩⟩ sa_l0) rfl,
  ss_ret dX2_begin_41 rfl trivial,
  trivial⟩
set_option maxRecDepth 100000 in
theorem tm_X2_begin : sa_tm tb_X2_begin := ⟨sm_aload, (sm_virt (sa_lc mo_X8_addThing sa_l0)), sm_aload, (sm_virt (sa_lc mo_X8_last sa_l0)), sm_istore, sm_iload, sm_if, sm_iload, sm_aload, sm_get, sm_alen, sm_cmp, sm_aload, sm_get, sm_iload, sm_iload, sm_iast, sm_aload, sm_push, sm_push, (sm_virt (sa_lc mo_X2_setNumber sa_l0)), sm_aload, sm_iload, sm_iload, (sm_virt (sa_lc mo_X2_setHolder sa_l0)), sm_ret, trivial⟩
theorem mo_X2_begin : sa_mc ct_X2_begin := sa_mct tm_X2_begin
theorem cal_X2_begin (fr lr : Nat) (h1 : 3 + 1 ≤ fr) (h2 : 8 + (3 + 11) + 63 ≤ lr) : sa_cal sa_EX yX2_begin cX2_begin 3 none 3 63 ct_X2_begin 1 2 fr lr := ⟨met_X2_begin, wt_3_174, wt_1_7, ⟨by decide +kernel, by decide +kernel, by decide +kernel⟩, by decide, h1, h2⟩
def tb_X2_beginOf : sa_T := [(0, so_aload 0 1),
  (1, so_iload 1 2),
  (2, so_virt [(2, ct_X8_has)] 1 0 0 5),
  (5, so_if (fun x => x = 0) 26 8),
  (8, so_iload 1 9),
  (9, so_aload 0 10),
  (10, so_get [2] 2 13),
  (13, so_alen 14),
  (14, so_cmp (fun x y => y ≤ x) 26 17),
  (17, so_aload 0 18),
  (18, so_get [2] 2 21),
  (21, so_iload 1 22),
  (22, so_iald 23),
  (23, so_goto 27),
  (26, so_push (.inl (-1)) 27),
  (27, so_iret)]
def ct_X2_beginOf : sa_C := sa_ct tb_X2_beginOf 2
set_option maxRecDepth 100000 in
set_option maxHeartbeats 4000000 in
theorem met_X2_beginOf : sa_Met sa_EX yX2_beginOf cX2_beginOf 2 (some Jvm.ClassFile.FieldType.int) 2 41 ct_X2_beginOf := sa_met sa_EX_ok (by decide +kernel) ⟨ss_aload_n rfl dX2_beginOf_0 rfl,
  ss_iload_n rfl dX2_beginOf_1 rfl,
  ss_virt dX2_beginOf_2 (sa_lc ⟨_, _, _, yX8_has, _, _, _, _, _, rfl, cal_X8_has _ _ (by decide) (by decide), wt_2_15, Or.inr ⟨⟨RX2, "has", "(I)Z"⟩, RX8, wt_2_59, wt_2_60, wt_2_61, wn_2_13, ⟨by decide, by decide⟩, by decide +kernel⟩⟩ sa_l0) rfl,
  ss_if_eq (tgt := 26) dX2_beginOf_5 (by decide) rfl,
  ss_iload_n rfl dX2_beginOf_8 rfl,
  ss_aload_n rfl dX2_beginOf_9 rfl,
  ss_get dX2_beginOf_10 (sa_lc ⟨_, _, _, rfl, by decide, inX2, wt_1_95⟩ sa_l0) rfl,
  ss_alen dX2_beginOf_13 rfl,
  ss_icmp_ge (tgt := 26) dX2_beginOf_14 (by decide) rfl,
  ss_aload_n rfl dX2_beginOf_17 rfl,
  ss_get dX2_beginOf_18 (sa_lc ⟨_, _, _, rfl, by decide, inX2, wt_1_95⟩ sa_l0) rfl,
  ss_iload_n rfl dX2_beginOf_21 rfl,
  ss_iald dX2_beginOf_22 rfl,
  ss_goto (tgt := 27) dX2_beginOf_23 (by decide),
  ss_iconst dX2_beginOf_26 (by decide) rfl,
  ss_iret dX2_beginOf_27 rfl,
  trivial⟩
set_option maxRecDepth 100000 in
theorem tm_X2_beginOf : sa_tm tb_X2_beginOf := ⟨sm_aload, sm_iload, (sm_virt (sa_lc mo_X8_has sa_l0)), sm_if, sm_iload, sm_aload, sm_get, sm_alen, sm_cmp, sm_aload, sm_get, sm_iload, sm_iald, sm_goto, sm_push, sm_iret, trivial⟩
theorem mo_X2_beginOf : sa_mc ct_X2_beginOf := sa_mct tm_X2_beginOf
theorem cal_X2_beginOf (fr lr : Nat) (h1 : 2 + 1 ≤ fr) (h2 : 8 + (2 + 11) + 41 ≤ lr) : sa_cal sa_EX yX2_beginOf cX2_beginOf 2 (some Jvm.ClassFile.FieldType.int) 2 41 ct_X2_beginOf 1 2 fr lr := ⟨met_X2_beginOf, wt_4_150, wt_1_7, ⟨by decide +kernel, by decide +kernel, by decide +kernel⟩, by decide, h1, h2⟩
def tb_X2_numberAt : sa_T := [(0, so_aload 0 1),
  (1, so_iload 1 2),
  (2, so_virt [(2, ct_X8_has)] 1 0 0 5),
  (5, so_if (fun x => x = 0) 26 8),
  (8, so_iload 1 9),
  (9, so_aload 0 10),
  (10, so_get [2] 3 13),
  (13, so_alen 14),
  (14, so_cmp (fun x y => y ≤ x) 26 17),
  (17, so_aload 0 18),
  (18, so_get [2] 3 21),
  (21, so_iload 1 22),
  (22, so_iald 23),
  (23, so_goto 27),
  (26, so_push (.inl (0)) 27),
  (27, so_iret)]
def ct_X2_numberAt : sa_C := sa_ct tb_X2_numberAt 2
set_option maxRecDepth 100000 in
set_option maxHeartbeats 4000000 in
theorem met_X2_numberAt : sa_Met sa_EX yX2_numberAt cX2_numberAt 2 (some Jvm.ClassFile.FieldType.int) 2 41 ct_X2_numberAt := sa_met sa_EX_ok (by decide +kernel) ⟨ss_aload_n rfl dX2_numberAt_0 rfl,
  ss_iload_n rfl dX2_numberAt_1 rfl,
  ss_virt dX2_numberAt_2 (sa_lc ⟨_, _, _, yX8_has, _, _, _, _, _, rfl, cal_X8_has _ _ (by decide) (by decide), wt_2_15, Or.inr ⟨⟨RX2, "has", "(I)Z"⟩, RX8, wt_2_59, wt_2_60, wt_2_61, wn_2_13, ⟨by decide, by decide⟩, by decide +kernel⟩⟩ sa_l0) rfl,
  ss_if_eq (tgt := 26) dX2_numberAt_5 (by decide) rfl,
  ss_iload_n rfl dX2_numberAt_8 rfl,
  ss_aload_n rfl dX2_numberAt_9 rfl,
  ss_get dX2_numberAt_10 (sa_lc ⟨_, _, _, rfl, by decide, inX2, wt_1_96⟩ sa_l0) rfl,
  ss_alen dX2_numberAt_13 rfl,
  ss_icmp_ge (tgt := 26) dX2_numberAt_14 (by decide) rfl,
  ss_aload_n rfl dX2_numberAt_17 rfl,
  ss_get dX2_numberAt_18 (sa_lc ⟨_, _, _, rfl, by decide, inX2, wt_1_96⟩ sa_l0) rfl,
  ss_iload_n rfl dX2_numberAt_21 rfl,
  ss_iald dX2_numberAt_22 rfl,
  ss_goto (tgt := 27) dX2_numberAt_23 (by decide),
  ss_iconst dX2_numberAt_26 (by decide) rfl,
  ss_iret dX2_numberAt_27 rfl,
  trivial⟩
set_option maxRecDepth 100000 in
theorem tm_X2_numberAt : sa_tm tb_X2_numberAt := ⟨sm_aload, sm_iload, (sm_virt (sa_lc mo_X8_has sa_l0)), sm_if, sm_iload, sm_aload, sm_get, sm_alen, sm_cmp, sm_aload, sm_get, sm_iload, sm_iald, sm_goto, sm_push, sm_iret, trivial⟩
theorem mo_X2_numberAt : sa_mc ct_X2_numberAt := sa_mct tm_X2_numberAt
theorem cal_X2_numberAt (fr lr : Nat) (h1 : 2 + 1 ≤ fr) (h2 : 8 + (2 + 11) + 41 ≤ lr) : sa_cal sa_EX yX2_numberAt cX2_numberAt 2 (some Jvm.ClassFile.FieldType.int) 2 41 ct_X2_numberAt 1 2 fr lr := ⟨met_X2_numberAt, wt_4_127, wt_1_7, ⟨by decide +kernel, by decide +kernel, by decide +kernel⟩, by decide, h1, h2⟩
def tb_X2_linksAt : sa_T := [(0, so_aload 0 1),
  (1, so_iload 1 2),
  (2, so_virt [(2, ct_X8_has)] 1 0 0 5),
  (5, so_if (fun x => x = 0) 26 8),
  (8, so_iload 1 9),
  (9, so_aload 0 10),
  (10, so_get [2] 4 13),
  (13, so_alen 14),
  (14, so_cmp (fun x y => y ≤ x) 26 17),
  (17, so_aload 0 18),
  (18, so_get [2] 4 21),
  (21, so_iload 1 22),
  (22, so_iald 23),
  (23, so_goto 27),
  (26, so_push (.inl (1)) 27),
  (27, so_iret)]
def ct_X2_linksAt : sa_C := sa_ct tb_X2_linksAt 2
set_option maxRecDepth 100000 in
set_option maxHeartbeats 4000000 in
theorem met_X2_linksAt : sa_Met sa_EX yX2_linksAt cX2_linksAt 2 (some Jvm.ClassFile.FieldType.int) 2 41 ct_X2_linksAt := sa_met sa_EX_ok (by decide +kernel) ⟨ss_aload_n rfl dX2_linksAt_0 rfl,
  ss_iload_n rfl dX2_linksAt_1 rfl,
  ss_virt dX2_linksAt_2 (sa_lc ⟨_, _, _, yX8_has, _, _, _, _, _, rfl, cal_X8_has _ _ (by decide) (by decide), wt_2_15, Or.inr ⟨⟨RX2, "has", "(I)Z"⟩, RX8, wt_2_59, wt_2_60, wt_2_61, wn_2_13, ⟨by decide, by decide⟩, by decide +kernel⟩⟩ sa_l0) rfl,
  ss_if_eq (tgt := 26) dX2_linksAt_5 (by decide) rfl,
  ss_iload_n rfl dX2_linksAt_8 rfl,
  ss_aload_n rfl dX2_linksAt_9 rfl,
  ss_get dX2_linksAt_10 (sa_lc ⟨_, _, _, rfl, by decide, inX2, wt_1_97⟩ sa_l0) rfl,
  ss_alen dX2_linksAt_13 rfl,
  ss_icmp_ge (tgt := 26) dX2_linksAt_14 (by decide) rfl,
  ss_aload_n rfl dX2_linksAt_17 rfl,
  ss_get dX2_linksAt_18 (sa_lc ⟨_, _, _, rfl, by decide, inX2, wt_1_97⟩ sa_l0) rfl,
  ss_iload_n rfl dX2_linksAt_21 rfl,
  ss_iald dX2_linksAt_22 rfl,
  ss_goto (tgt := 27) dX2_linksAt_23 (by decide),
  ss_iconst dX2_linksAt_26 (by decide) rfl,
  ss_iret dX2_linksAt_27 rfl,
  trivial⟩
set_option maxRecDepth 100000 in
theorem tm_X2_linksAt : sa_tm tb_X2_linksAt := ⟨sm_aload, sm_iload, (sm_virt (sa_lc mo_X8_has sa_l0)), sm_if, sm_iload, sm_aload, sm_get, sm_alen, sm_cmp, sm_aload, sm_get, sm_iload, sm_iald, sm_goto, sm_push, sm_iret, trivial⟩
theorem mo_X2_linksAt : sa_mc ct_X2_linksAt := sa_mct tm_X2_linksAt
theorem cal_X2_linksAt (fr lr : Nat) (h1 : 2 + 1 ≤ fr) (h2 : 8 + (2 + 11) + 41 ≤ lr) : sa_cal sa_EX yX2_linksAt cX2_linksAt 2 (some Jvm.ClassFile.FieldType.int) 2 41 ct_X2_linksAt 1 2 fr lr := ⟨met_X2_linksAt, wt_4_115, wt_1_7, ⟨by decide +kernel, by decide +kernel, by decide +kernel⟩, by decide, h1, h2⟩
def tb_X2_areLinked : sa_T := [(0, so_aload 0 1),
  (1, so_iload 1 2),
  (2, so_virt [(2, ct_X2_linksAt)] 1 0 0 5),
  (5, so_push (.inl (1)) 6),
  (6, so_cmp (fun x y => x ≤ y) 35 9),
  (9, so_aload 0 10),
  (10, so_iload 2 11),
  (11, so_virt [(2, ct_X2_linksAt)] 1 0 0 14),
  (14, so_push (.inl (1)) 15),
  (15, so_cmp (fun x y => x ≤ y) 35 18),
  (18, so_aload 0 19),
  (19, so_iload 1 20),
  (20, so_virt [(2, ct_X2_numberAt)] 1 0 0 23),
  (23, so_aload 0 24),
  (24, so_iload 2 25),
  (25, so_virt [(2, ct_X2_numberAt)] 1 0 0 28),
  (28, so_cmp (fun x y => x = y) 31 35),
  (31, so_push (.inl (1)) 32),
  (32, so_goto 36),
  (35, so_push (.inl (0)) 36),
  (36, so_zret)]
def ct_X2_areLinked : sa_C := sa_ct tb_X2_areLinked 3
set_option maxRecDepth 100000 in
set_option maxHeartbeats 4000000 in
theorem met_X2_areLinked : sa_Met sa_EX yX2_areLinked cX2_areLinked 3 (some Jvm.ClassFile.FieldType.boolean) 3 62 ct_X2_areLinked := sa_met sa_EX_ok (by decide +kernel) ⟨ss_aload_n rfl dX2_areLinked_0 rfl,
  ss_iload_n rfl dX2_areLinked_1 rfl,
  ss_virt dX2_areLinked_2 (sa_lc ⟨_, _, _, yX2_linksAt, _, _, _, _, _, rfl, cal_X2_linksAt _ _ (by decide) (by decide), wt_4_114, Or.inl ⟨wt_4_112, wp_9⟩⟩ sa_l0) rfl,
  ss_iconst dX2_areLinked_5 (by decide) rfl,
  ss_icmp_le (tgt := 35) dX2_areLinked_6 (by decide) rfl,
  ss_aload_n rfl dX2_areLinked_9 rfl,
  ss_iload_n rfl dX2_areLinked_10 rfl,
  ss_virt dX2_areLinked_11 (sa_lc ⟨_, _, _, yX2_linksAt, _, _, _, _, _, rfl, cal_X2_linksAt _ _ (by decide) (by decide), wt_4_114, Or.inl ⟨wt_4_112, wp_9⟩⟩ sa_l0) rfl,
  ss_iconst dX2_areLinked_14 (by decide) rfl,
  ss_icmp_le (tgt := 35) dX2_areLinked_15 (by decide) rfl,
  ss_aload_n rfl dX2_areLinked_18 rfl,
  ss_iload_n rfl dX2_areLinked_19 rfl,
  ss_virt dX2_areLinked_20 (sa_lc ⟨_, _, _, yX2_numberAt, _, _, _, _, _, rfl, cal_X2_numberAt _ _ (by decide) (by decide), wt_4_126, Or.inl ⟨wt_4_124, wp_12⟩⟩ sa_l0) rfl,
  ss_aload_n rfl dX2_areLinked_23 rfl,
  ss_iload_n rfl dX2_areLinked_24 rfl,
  ss_virt dX2_areLinked_25 (sa_lc ⟨_, _, _, yX2_numberAt, _, _, _, _, _, rfl, cal_X2_numberAt _ _ (by decide) (by decide), wt_4_126, Or.inl ⟨wt_4_124, wp_12⟩⟩ sa_l0) rfl,
  ss_icmp_ne (tgt := 35) dX2_areLinked_28 (by decide) rfl,
  ss_iconst dX2_areLinked_31 (by decide) rfl,
  ss_goto (tgt := 36) dX2_areLinked_32 (by decide),
  ss_iconst dX2_areLinked_35 (by decide) rfl,
  ss_zret dX2_areLinked_36 rfl,
  trivial⟩
set_option maxRecDepth 100000 in
theorem tm_X2_areLinked : sa_tm tb_X2_areLinked := ⟨sm_aload, sm_iload, (sm_virt (sa_lc mo_X2_linksAt sa_l0)), sm_push, sm_cmp, sm_aload, sm_iload, (sm_virt (sa_lc mo_X2_linksAt sa_l0)), sm_push, sm_cmp, sm_aload, sm_iload, (sm_virt (sa_lc mo_X2_numberAt sa_l0)), sm_aload, sm_iload, (sm_virt (sa_lc mo_X2_numberAt sa_l0)), sm_cmp, sm_push, sm_goto, sm_push, sm_zret, trivial⟩
theorem mo_X2_areLinked : sa_mc ct_X2_areLinked := sa_mct tm_X2_areLinked
theorem cal_X2_areLinked (fr lr : Nat) (h1 : 3 + 1 ≤ fr) (h2 : 8 + (3 + 11) + 62 ≤ lr) : sa_cal sa_EX yX2_areLinked cX2_areLinked 3 (some Jvm.ClassFile.FieldType.boolean) 3 62 ct_X2_areLinked 2 3 fr lr := ⟨met_X2_areLinked, wt_4_123, wt_1_7, ⟨by decide +kernel, by decide +kernel, by decide +kernel⟩, by decide, h1, h2⟩
def tb_X8_count : sa_T := [(0, so_aload 0 1),
  (1, so_get [2, 3] 0 4),
  (4, so_virt [(7, ct_X9_count)] 0 0 0 7),
  (7, so_iret)]
def ct_X8_count : sa_C := sa_ct tb_X8_count 1
set_option maxRecDepth 100000 in
set_option maxHeartbeats 4000000 in
theorem met_X8_count : sa_Met sa_EX yX8_count cX8_count 1 (some Jvm.ClassFile.FieldType.int) 1 20 ct_X8_count := sa_met sa_EX_ok (by decide +kernel) ⟨ss_aload_n rfl dX8_count_0 rfl,
  ss_get dX8_count_1 (sa_lc ⟨_, _, _, rfl, by decide, inX2, wt_1_63⟩ (sa_lc ⟨_, _, _, rfl, by decide, inX3, wt_1_63⟩ sa_l0)) rfl,
  ss_virt dX8_count_4 (sa_lc ⟨_, _, _, yX9_count, _, _, _, _, _, rfl, cal_X9_count _ _ (by decide) (by decide), wt_1_208, Or.inl ⟨wt_1_207, wt_1_209⟩⟩ sa_l0) rfl,
  ss_iret dX8_count_7 rfl,
  trivial⟩
set_option maxRecDepth 100000 in
theorem tm_X8_count : sa_tm tb_X8_count := ⟨sm_aload, sm_get, (sm_virt (sa_lc mo_X9_count sa_l0)), sm_iret, trivial⟩
theorem mo_X8_count : sa_mc ct_X8_count := sa_mct tm_X8_count
theorem cal_X8_count (fr lr : Nat) (h1 : 1 + 1 ≤ fr) (h2 : 8 + (1 + 11) + 20 ≤ lr) : sa_cal sa_EX yX8_count cX8_count 1 (some Jvm.ClassFile.FieldType.int) 1 20 ct_X8_count 0 1 fr lr := ⟨met_X8_count, wt_1_206, wt_1_2, ⟨by decide +kernel, by decide +kernel, by decide +kernel⟩, by decide, h1, h2⟩
def tb_X2_lastOfGroup : sa_T := [(0, so_aload 0 1),
  (1, so_virt [(2, ct_X8_last)] 0 0 0 4),
  (4, so_istore 2 5),
  (5, so_iload 2 6),
  (6, so_iload 1 7),
  (7, so_cmp (fun x y => x ≤ y) 27 10),
  (10, so_aload 0 11),
  (11, so_iload 1 12),
  (12, so_iload 2 13),
  (13, so_virt [(2, ct_X2_areLinked)] 2 0 0 16),
  (16, so_if (fun x => x = 0) 21 19),
  (19, so_iload 2 20),
  (20, so_iret),
  (21, so_iinc 2 (-1) 24),
  (24, so_goto 5),
  (27, so_iload 1 28),
  (28, so_iret)]
def ct_X2_lastOfGroup : sa_C := sa_ct tb_X2_lastOfGroup 3
set_option maxRecDepth 100000 in
set_option maxHeartbeats 4000000 in
theorem met_X2_lastOfGroup : sa_Met sa_EX yX2_lastOfGroup cX2_lastOfGroup 3 (some Jvm.ClassFile.FieldType.int) 4 84 ct_X2_lastOfGroup := sa_met sa_EX_ok (by decide +kernel) ⟨ss_aload_n rfl dX2_lastOfGroup_0 rfl,
  ss_virt dX2_lastOfGroup_1 (sa_lc ⟨_, _, _, yX8_last, _, _, _, _, _, rfl, cal_X8_last _ _ (by decide) (by decide), wt_1_215, Or.inr ⟨⟨RX2, "last", "()I"⟩, RX8, wt_3_178, wt_3_179, wt_3_180, wn_1_213, ⟨by decide, by decide⟩, by decide +kernel⟩⟩ sa_l0) rfl,
  ss_istore_n rfl dX2_lastOfGroup_4 (by decide) rfl,
  ss_iload_n rfl dX2_lastOfGroup_5 rfl,
  ss_iload_n rfl dX2_lastOfGroup_6 rfl,
  ss_icmp_le (tgt := 27) dX2_lastOfGroup_7 (by decide) rfl,
  ss_aload_n rfl dX2_lastOfGroup_10 rfl,
  ss_iload_n rfl dX2_lastOfGroup_11 rfl,
  ss_iload_n rfl dX2_lastOfGroup_12 rfl,
  ss_virt dX2_lastOfGroup_13 (sa_lc ⟨_, _, _, yX2_areLinked, _, _, _, _, _, rfl, cal_X2_areLinked _ _ (by decide) (by decide), wt_4_122, Or.inl ⟨wt_4_120, wp_11⟩⟩ sa_l0) rfl,
  ss_if_eq (tgt := 21) dX2_lastOfGroup_16 (by decide) rfl,
  ss_iload_n rfl dX2_lastOfGroup_19 rfl,
  ss_iret dX2_lastOfGroup_20 rfl,
  ss_iinc dX2_lastOfGroup_21 (by decide) (by decide) rfl,
  ss_goto (tgt := 5) dX2_lastOfGroup_24 (by decide),
  ss_iload_n rfl dX2_lastOfGroup_27 rfl,
  ss_iret dX2_lastOfGroup_28 rfl,
  trivial⟩
set_option maxRecDepth 100000 in
theorem tm_X2_lastOfGroup : sa_tm tb_X2_lastOfGroup := ⟨sm_aload, (sm_virt (sa_lc mo_X8_last sa_l0)), sm_istore, sm_iload, sm_iload, sm_cmp, sm_aload, sm_iload, sm_iload, (sm_virt (sa_lc mo_X2_areLinked sa_l0)), sm_if, sm_iload, sm_iret, sm_iinc, sm_goto, sm_iload, sm_iret, trivial⟩
theorem mo_X2_lastOfGroup : sa_mc ct_X2_lastOfGroup := sa_mct tm_X2_lastOfGroup
theorem cal_X2_lastOfGroup (fr lr : Nat) (h1 : 4 + 1 ≤ fr) (h2 : 8 + (3 + 11) + 84 ≤ lr) : sa_cal sa_EX yX2_lastOfGroup cX2_lastOfGroup 3 (some Jvm.ClassFile.FieldType.int) 4 84 ct_X2_lastOfGroup 1 2 fr lr := ⟨met_X2_lastOfGroup, wt_4_119, wt_1_7, ⟨by decide +kernel, by decide +kernel, by decide +kernel⟩, by decide, h1, h2⟩
def tb_X2_shareContents : sa_T := [(0, so_push (.inl (0)) 1),
  (1, so_istore 1 2),
  (2, so_iload 1 3),
  (3, so_aload 0 4),
  (4, so_virt [(2, ct_X8_count)] 0 0 0 7),
  (7, so_cmp (fun x y => y ≤ x) 35 10),
  (10, so_aload 0 11),
  (11, so_iload 1 12),
  (12, so_virt [(2, ct_X2_linksAt)] 1 0 0 15),
  (15, so_push (.inl (1)) 16),
  (16, so_cmp (fun x y => x ≤ y) 29 19),
  (19, so_aload 0 20),
  (20, so_iload 1 21),
  (21, so_aload 0 22),
  (22, so_iload 1 23),
  (23, so_virt [(2, ct_X2_lastOfGroup)] 1 0 0 26),
  (26, so_virt [(2, ct_X2_setHolder)] 2 0 0 29),
  (29, so_iinc 1 (1) 32),
  (32, so_goto 2),
  (35, so_ret)]
def ct_X2_shareContents : sa_C := sa_ct tb_X2_shareContents 2
set_option maxRecDepth 100000 in
set_option maxHeartbeats 4000000 in
theorem met_X2_shareContents : sa_Met sa_EX yX2_shareContents cX2_shareContents 2 none 5 106 ct_X2_shareContents := sa_met sa_EX_ok (by decide +kernel) ⟨ss_iconst dX2_shareContents_0 (by decide) rfl,
  ss_istore_n rfl dX2_shareContents_1 (by decide) rfl,
  ss_iload_n rfl dX2_shareContents_2 rfl,
  ss_aload_n rfl dX2_shareContents_3 rfl,
  ss_virt dX2_shareContents_4 (sa_lc ⟨_, _, _, yX8_count, _, _, _, _, _, rfl, cal_X8_count _ _ (by decide) (by decide), wt_1_205, Or.inr ⟨⟨RX2, "count", "()I"⟩, RX8, wt_4_109, wt_4_110, wt_4_111, wn_1_203, ⟨by decide, by decide⟩, by decide +kernel⟩⟩ sa_l0) rfl,
  ss_icmp_ge (tgt := 35) dX2_shareContents_7 (by decide) rfl,
  ss_aload_n rfl dX2_shareContents_10 rfl,
  ss_iload_n rfl dX2_shareContents_11 rfl,
  ss_virt dX2_shareContents_12 (sa_lc ⟨_, _, _, yX2_linksAt, _, _, _, _, _, rfl, cal_X2_linksAt _ _ (by decide) (by decide), wt_4_114, Or.inl ⟨wt_4_112, wp_9⟩⟩ sa_l0) rfl,
  ss_iconst dX2_shareContents_15 (by decide) rfl,
  ss_icmp_le (tgt := 29) dX2_shareContents_16 (by decide) rfl,
  ss_aload_n rfl dX2_shareContents_19 rfl,
  ss_iload_n rfl dX2_shareContents_20 rfl,
  ss_aload_n rfl dX2_shareContents_21 rfl,
  ss_iload_n rfl dX2_shareContents_22 rfl,
  ss_virt dX2_shareContents_23 (sa_lc ⟨_, _, _, yX2_lastOfGroup, _, _, _, _, _, rfl, cal_X2_lastOfGroup _ _ (by decide) (by decide), wt_4_118, Or.inl ⟨wt_4_116, wp_10⟩⟩ sa_l0) rfl,
  ss_virt dX2_shareContents_26 (sa_lc ⟨_, _, _, yX2_setHolder, _, _, _, _, _, rfl, cal_X2_setHolder _ _ (by decide) (by decide), wt_3_187, Or.inl ⟨wt_3_185, wp_2⟩⟩ sa_l0) rfl,
  ss_iinc dX2_shareContents_29 (by decide) (by decide) rfl,
  ss_goto (tgt := 2) dX2_shareContents_32 (by decide),
  ss_ret dX2_shareContents_35 rfl trivial,
  trivial⟩
set_option maxRecDepth 100000 in
theorem tm_X2_shareContents : sa_tm tb_X2_shareContents := ⟨sm_push, sm_istore, sm_iload, sm_aload, (sm_virt (sa_lc mo_X8_count sa_l0)), sm_cmp, sm_aload, sm_iload, (sm_virt (sa_lc mo_X2_linksAt sa_l0)), sm_push, sm_cmp, sm_aload, sm_iload, sm_aload, sm_iload, (sm_virt (sa_lc mo_X2_lastOfGroup sa_l0)), (sm_virt (sa_lc mo_X2_setHolder sa_l0)), sm_iinc, sm_goto, sm_ret, trivial⟩
theorem mo_X2_shareContents : sa_mc ct_X2_shareContents := sa_mct tm_X2_shareContents
theorem cal_X2_shareContents (fr lr : Nat) (h1 : 5 + 1 ≤ fr) (h2 : 8 + (2 + 11) + 106 ≤ lr) : sa_cal sa_EX yX2_shareContents cX2_shareContents 2 none 5 106 ct_X2_shareContents 0 1 fr lr := ⟨met_X2_shareContents, wt_4_108, wt_1_7, ⟨by decide +kernel, by decide +kernel, by decide +kernel⟩, by decide, h1, h2⟩
def tb_X2_firstOfGroup : sa_T := [(0, so_push (.inl (0)) 1),
  (1, so_istore 2 2),
  (2, so_iload 2 3),
  (3, so_iload 1 4),
  (4, so_cmp (fun x y => y ≤ x) 32 7),
  (7, so_iload 2 8),
  (8, so_aload 0 9),
  (9, so_virt [(2, ct_X8_count)] 0 0 0 12),
  (12, so_cmp (fun x y => y ≤ x) 32 15),
  (15, so_aload 0 16),
  (16, so_iload 1 17),
  (17, so_iload 2 18),
  (18, so_virt [(2, ct_X2_areLinked)] 2 0 0 21),
  (21, so_if (fun x => x = 0) 26 24),
  (24, so_iload 2 25),
  (25, so_iret),
  (26, so_iinc 2 (1) 29),
  (29, so_goto 2),
  (32, so_iload 1 33),
  (33, so_iret)]
def ct_X2_firstOfGroup : sa_C := sa_ct tb_X2_firstOfGroup 3
set_option maxRecDepth 100000 in
set_option maxHeartbeats 4000000 in
theorem met_X2_firstOfGroup : sa_Met sa_EX yX2_firstOfGroup cX2_firstOfGroup 3 (some Jvm.ClassFile.FieldType.int) 4 84 ct_X2_firstOfGroup := sa_met sa_EX_ok (by decide +kernel) ⟨ss_iconst dX2_firstOfGroup_0 (by decide) rfl,
  ss_istore_n rfl dX2_firstOfGroup_1 (by decide) rfl,
  ss_iload_n rfl dX2_firstOfGroup_2 rfl,
  ss_iload_n rfl dX2_firstOfGroup_3 rfl,
  ss_icmp_ge (tgt := 32) dX2_firstOfGroup_4 (by decide) rfl,
  ss_iload_n rfl dX2_firstOfGroup_7 rfl,
  ss_aload_n rfl dX2_firstOfGroup_8 rfl,
  ss_virt dX2_firstOfGroup_9 (sa_lc ⟨_, _, _, yX8_count, _, _, _, _, _, rfl, cal_X8_count _ _ (by decide) (by decide), wt_1_205, Or.inr ⟨⟨RX2, "count", "()I"⟩, RX8, wt_4_109, wt_4_110, wt_4_111, wn_1_203, ⟨by decide, by decide⟩, by decide +kernel⟩⟩ sa_l0) rfl,
  ss_icmp_ge (tgt := 32) dX2_firstOfGroup_12 (by decide) rfl,
  ss_aload_n rfl dX2_firstOfGroup_15 rfl,
  ss_iload_n rfl dX2_firstOfGroup_16 rfl,
  ss_iload_n rfl dX2_firstOfGroup_17 rfl,
  ss_virt dX2_firstOfGroup_18 (sa_lc ⟨_, _, _, yX2_areLinked, _, _, _, _, _, rfl, cal_X2_areLinked _ _ (by decide) (by decide), wt_4_122, Or.inl ⟨wt_4_120, wp_11⟩⟩ sa_l0) rfl,
  ss_if_eq (tgt := 26) dX2_firstOfGroup_21 (by decide) rfl,
  ss_iload_n rfl dX2_firstOfGroup_24 rfl,
  ss_iret dX2_firstOfGroup_25 rfl,
  ss_iinc dX2_firstOfGroup_26 (by decide) (by decide) rfl,
  ss_goto (tgt := 2) dX2_firstOfGroup_29 (by decide),
  ss_iload_n rfl dX2_firstOfGroup_32 rfl,
  ss_iret dX2_firstOfGroup_33 rfl,
  trivial⟩
set_option maxRecDepth 100000 in
theorem tm_X2_firstOfGroup : sa_tm tb_X2_firstOfGroup := ⟨sm_push, sm_istore, sm_iload, sm_iload, sm_cmp, sm_iload, sm_aload, (sm_virt (sa_lc mo_X8_count sa_l0)), sm_cmp, sm_aload, sm_iload, sm_iload, (sm_virt (sa_lc mo_X2_areLinked sa_l0)), sm_if, sm_iload, sm_iret, sm_iinc, sm_goto, sm_iload, sm_iret, trivial⟩
theorem mo_X2_firstOfGroup : sa_mc ct_X2_firstOfGroup := sa_mct tm_X2_firstOfGroup
theorem cal_X2_firstOfGroup (fr lr : Nat) (h1 : 4 + 1 ≤ fr) (h2 : 8 + (3 + 11) + 84 ≤ lr) : sa_cal sa_EX yX2_firstOfGroup cX2_firstOfGroup 3 (some Jvm.ClassFile.FieldType.int) 4 84 ct_X2_firstOfGroup 1 2 fr lr := ⟨met_X2_firstOfGroup, wt_4_182, wt_1_7, ⟨by decide +kernel, by decide +kernel, by decide +kernel⟩, by decide, h1, h2⟩
def tb_X2_countAlike : sa_T := [(0, so_push (.inl (0)) 1),
  (1, so_istore 2 2),
  (2, so_push (.inl (0)) 3),
  (3, so_istore 3 4),
  (4, so_iload 3 5),
  (5, so_aload 0 6),
  (6, so_virt [(2, ct_X8_count)] 0 0 0 9),
  (9, so_cmp (fun x y => y ≤ x) 47 12),
  (12, so_aload 0 13),
  (13, so_iload 3 14),
  (14, so_virt [(2, ct_X2_numberAt)] 1 0 0 17),
  (17, so_aload 0 18),
  (18, so_iload 1 19),
  (19, so_virt [(2, ct_X2_numberAt)] 1 0 0 22),
  (22, so_cmp (fun x y => x = y) 25 41),
  (25, so_aload 0 26),
  (26, so_iload 3 27),
  (27, so_virt [(2, ct_X2_linksAt)] 1 0 0 30),
  (30, so_aload 0 31),
  (31, so_iload 1 32),
  (32, so_virt [(2, ct_X2_linksAt)] 1 0 0 35),
  (35, so_cmp (fun x y => x = y) 38 41),
  (38, so_iinc 2 (1) 41),
  (41, so_iinc 3 (1) 44),
  (44, so_goto 4),
  (47, so_iload 2 48),
  (48, so_iret)]
def ct_X2_countAlike : sa_C := sa_ct tb_X2_countAlike 4
set_option maxRecDepth 100000 in
set_option maxHeartbeats 4000000 in
theorem met_X2_countAlike : sa_Met sa_EX yX2_countAlike cX2_countAlike 4 (some Jvm.ClassFile.FieldType.int) 3 62 ct_X2_countAlike := sa_met sa_EX_ok (by decide +kernel) ⟨ss_iconst dX2_countAlike_0 (by decide) rfl,
  ss_istore_n rfl dX2_countAlike_1 (by decide) rfl,
  ss_iconst dX2_countAlike_2 (by decide) rfl,
  ss_istore_n rfl dX2_countAlike_3 (by decide) rfl,
  ss_iload_n rfl dX2_countAlike_4 rfl,
  ss_aload_n rfl dX2_countAlike_5 rfl,
  ss_virt dX2_countAlike_6 (sa_lc ⟨_, _, _, yX8_count, _, _, _, _, _, rfl, cal_X8_count _ _ (by decide) (by decide), wt_1_205, Or.inr ⟨⟨RX2, "count", "()I"⟩, RX8, wt_4_109, wt_4_110, wt_4_111, wn_1_203, ⟨by decide, by decide⟩, by decide +kernel⟩⟩ sa_l0) rfl,
  ss_icmp_ge (tgt := 47) dX2_countAlike_9 (by decide) rfl,
  ss_aload_n rfl dX2_countAlike_12 rfl,
  ss_iload_n rfl dX2_countAlike_13 rfl,
  ss_virt dX2_countAlike_14 (sa_lc ⟨_, _, _, yX2_numberAt, _, _, _, _, _, rfl, cal_X2_numberAt _ _ (by decide) (by decide), wt_4_126, Or.inl ⟨wt_4_124, wp_12⟩⟩ sa_l0) rfl,
  ss_aload_n rfl dX2_countAlike_17 rfl,
  ss_iload_n rfl dX2_countAlike_18 rfl,
  ss_virt dX2_countAlike_19 (sa_lc ⟨_, _, _, yX2_numberAt, _, _, _, _, _, rfl, cal_X2_numberAt _ _ (by decide) (by decide), wt_4_126, Or.inl ⟨wt_4_124, wp_12⟩⟩ sa_l0) rfl,
  ss_icmp_ne (tgt := 41) dX2_countAlike_22 (by decide) rfl,
  ss_aload_n rfl dX2_countAlike_25 rfl,
  ss_iload_n rfl dX2_countAlike_26 rfl,
  ss_virt dX2_countAlike_27 (sa_lc ⟨_, _, _, yX2_linksAt, _, _, _, _, _, rfl, cal_X2_linksAt _ _ (by decide) (by decide), wt_4_114, Or.inl ⟨wt_4_112, wp_9⟩⟩ sa_l0) rfl,
  ss_aload_n rfl dX2_countAlike_30 rfl,
  ss_iload_n rfl dX2_countAlike_31 rfl,
  ss_virt dX2_countAlike_32 (sa_lc ⟨_, _, _, yX2_linksAt, _, _, _, _, _, rfl, cal_X2_linksAt _ _ (by decide) (by decide), wt_4_114, Or.inl ⟨wt_4_112, wp_9⟩⟩ sa_l0) rfl,
  ss_icmp_ne (tgt := 41) dX2_countAlike_35 (by decide) rfl,
  ss_iinc dX2_countAlike_38 (by decide) (by decide) rfl,
  ss_iinc dX2_countAlike_41 (by decide) (by decide) rfl,
  ss_goto (tgt := 4) dX2_countAlike_44 (by decide),
  ss_iload_n rfl dX2_countAlike_47 rfl,
  ss_iret dX2_countAlike_48 rfl,
  trivial⟩
set_option maxRecDepth 100000 in
theorem tm_X2_countAlike : sa_tm tb_X2_countAlike := ⟨sm_push, sm_istore, sm_push, sm_istore, sm_iload, sm_aload, (sm_virt (sa_lc mo_X8_count sa_l0)), sm_cmp, sm_aload, sm_iload, (sm_virt (sa_lc mo_X2_numberAt sa_l0)), sm_aload, sm_iload, (sm_virt (sa_lc mo_X2_numberAt sa_l0)), sm_cmp, sm_aload, sm_iload, (sm_virt (sa_lc mo_X2_linksAt sa_l0)), sm_aload, sm_iload, (sm_virt (sa_lc mo_X2_linksAt sa_l0)), sm_cmp, sm_iinc, sm_iinc, sm_goto, sm_iload, sm_iret, trivial⟩
theorem mo_X2_countAlike : sa_mc ct_X2_countAlike := sa_mct tm_X2_countAlike
theorem cal_X2_countAlike (fr lr : Nat) (h1 : 3 + 1 ≤ fr) (h2 : 8 + (4 + 11) + 62 ≤ lr) : sa_cal sa_EX yX2_countAlike cX2_countAlike 4 (some Jvm.ClassFile.FieldType.int) 3 62 ct_X2_countAlike 1 2 fr lr := ⟨met_X2_countAlike, wt_4_146, wt_1_7, ⟨by decide +kernel, by decide +kernel, by decide +kernel⟩, by decide, h1, h2⟩
def tb_X2_firstLost : sa_T := [(0, so_push (.inl (0)) 1),
  (1, so_istore 1 2),
  (2, so_iload 1 3),
  (3, so_aload 0 4),
  (4, so_virt [(2, ct_X8_count)] 0 0 0 7),
  (7, so_cmp (fun x y => y ≤ x) 40 10),
  (10, so_aload 0 11),
  (11, so_iload 1 12),
  (12, so_virt [(2, ct_X2_linksAt)] 1 0 0 15),
  (15, so_push (.inl (1)) 16),
  (16, so_cmp (fun x y => x ≤ y) 34 19),
  (19, so_aload 0 20),
  (20, so_iload 1 21),
  (21, so_virt [(2, ct_X2_countAlike)] 1 0 0 24),
  (24, so_aload 0 25),
  (25, so_iload 1 26),
  (26, so_virt [(2, ct_X2_linksAt)] 1 0 0 29),
  (29, so_cmp (fun x y => x = y) 34 32),
  (32, so_iload 1 33),
  (33, so_iret),
  (34, so_iinc 1 (1) 37),
  (37, so_goto 2),
  (40, so_push (.inl (-1)) 41),
  (41, so_iret)]
def ct_X2_firstLost : sa_C := sa_ct tb_X2_firstLost 2
set_option maxRecDepth 100000 in
set_option maxHeartbeats 4000000 in
theorem met_X2_firstLost : sa_Met sa_EX yX2_firstLost cX2_firstLost 2 (some Jvm.ClassFile.FieldType.int) 4 85 ct_X2_firstLost := sa_met sa_EX_ok (by decide +kernel) ⟨ss_iconst dX2_firstLost_0 (by decide) rfl,
  ss_istore_n rfl dX2_firstLost_1 (by decide) rfl,
  ss_iload_n rfl dX2_firstLost_2 rfl,
  ss_aload_n rfl dX2_firstLost_3 rfl,
  ss_virt dX2_firstLost_4 (sa_lc ⟨_, _, _, yX8_count, _, _, _, _, _, rfl, cal_X8_count _ _ (by decide) (by decide), wt_1_205, Or.inr ⟨⟨RX2, "count", "()I"⟩, RX8, wt_4_109, wt_4_110, wt_4_111, wn_1_203, ⟨by decide, by decide⟩, by decide +kernel⟩⟩ sa_l0) rfl,
  ss_icmp_ge (tgt := 40) dX2_firstLost_7 (by decide) rfl,
  ss_aload_n rfl dX2_firstLost_10 rfl,
  ss_iload_n rfl dX2_firstLost_11 rfl,
  ss_virt dX2_firstLost_12 (sa_lc ⟨_, _, _, yX2_linksAt, _, _, _, _, _, rfl, cal_X2_linksAt _ _ (by decide) (by decide), wt_4_114, Or.inl ⟨wt_4_112, wp_9⟩⟩ sa_l0) rfl,
  ss_iconst dX2_firstLost_15 (by decide) rfl,
  ss_icmp_le (tgt := 34) dX2_firstLost_16 (by decide) rfl,
  ss_aload_n rfl dX2_firstLost_19 rfl,
  ss_iload_n rfl dX2_firstLost_20 rfl,
  ss_virt dX2_firstLost_21 (sa_lc ⟨_, _, _, yX2_countAlike, _, _, _, _, _, rfl, cal_X2_countAlike _ _ (by decide) (by decide), wt_4_145, Or.inl ⟨wt_4_143, wp_13⟩⟩ sa_l0) rfl,
  ss_aload_n rfl dX2_firstLost_24 rfl,
  ss_iload_n rfl dX2_firstLost_25 rfl,
  ss_virt dX2_firstLost_26 (sa_lc ⟨_, _, _, yX2_linksAt, _, _, _, _, _, rfl, cal_X2_linksAt _ _ (by decide) (by decide), wt_4_114, Or.inl ⟨wt_4_112, wp_9⟩⟩ sa_l0) rfl,
  ss_icmp_eq (tgt := 34) dX2_firstLost_29 (by decide) rfl,
  ss_iload_n rfl dX2_firstLost_32 rfl,
  ss_iret dX2_firstLost_33 rfl,
  ss_iinc dX2_firstLost_34 (by decide) (by decide) rfl,
  ss_goto (tgt := 2) dX2_firstLost_37 (by decide),
  ss_iconst dX2_firstLost_40 (by decide) rfl,
  ss_iret dX2_firstLost_41 rfl,
  trivial⟩
set_option maxRecDepth 100000 in
theorem tm_X2_firstLost : sa_tm tb_X2_firstLost := ⟨sm_push, sm_istore, sm_iload, sm_aload, (sm_virt (sa_lc mo_X8_count sa_l0)), sm_cmp, sm_aload, sm_iload, (sm_virt (sa_lc mo_X2_linksAt sa_l0)), sm_push, sm_cmp, sm_aload, sm_iload, (sm_virt (sa_lc mo_X2_countAlike sa_l0)), sm_aload, sm_iload, (sm_virt (sa_lc mo_X2_linksAt sa_l0)), sm_cmp, sm_iload, sm_iret, sm_iinc, sm_goto, sm_push, sm_iret, trivial⟩
theorem mo_X2_firstLost : sa_mc ct_X2_firstLost := sa_mct tm_X2_firstLost
theorem cal_X2_firstLost (fr lr : Nat) (h1 : 4 + 1 ≤ fr) (h2 : 8 + (2 + 11) + 85 ≤ lr) : sa_cal sa_EX yX2_firstLost cX2_firstLost 2 (some Jvm.ClassFile.FieldType.int) 4 85 ct_X2_firstLost 0 1 fr lr := ⟨met_X2_firstLost, wt_4_142, wt_1_7, ⟨by decide +kernel, by decide +kernel, by decide +kernel⟩, by decide, h1, h2⟩
def tb_X3_init : sa_T := [(0, so_aload 0 1),
  (1, so_push (.inl (12)) 3),
  (3, so_push (.inl (720)) 6),
  (6, so_init ct_X8_init 2 6 5300 9),
  (9, so_aload 0 10),
  (10, so_push (.inl (12)) 12),
  (12, so_newa 14),
  (14, so_put [3] 2 1 17),
  (17, so_ret)]
def ct_X3_init : sa_C := sa_ct tb_X3_init 1
set_option maxRecDepth 100000 in
set_option maxHeartbeats 4000000 in
theorem met_X3_init : sa_Met sa_EX yX3_init cX3_init 1 none 3 65 ct_X3_init := sa_met sa_EX_ok (by decide +kernel) ⟨ss_aload_n rfl dX3_init_0 rfl,
  ss_bipush dX3_init_1 (by decide) rfl,
  ss_sipush dX3_init_3 (by decide) rfl,
  ss_init dX3_init_6 (cal_X8_init _ _ (by decide) (by decide)) wt_1_35 wt_1_36 rfl rfl,
  ss_aload_n rfl dX3_init_9 rfl,
  ss_bipush dX3_init_10 (by decide) rfl,
  ss_newa dX3_init_12 wt_1_61 rfl,
  ss_put dX3_init_14 (sa_lc ⟨⟨_, _, _, rfl, by decide, inX3, wt_1_62⟩, ⟨_, _, _, _, rfl, tyX3_ok, nmX3⟩, ⟨_, _, _, _, rfl, tyX3_ok 2 (by decide), Or.inr ⟨_, rfl⟩⟩, fun q h => by cases h; exact Or.inr ⟨rfl, rfl, rfl⟩⟩ sa_l0) rfl,
  ss_ret dX3_init_17 rfl trivial,
  trivial⟩
set_option maxRecDepth 100000 in
theorem tm_X3_init : sa_tm tb_X3_init := ⟨sm_aload, sm_push, sm_push, (sm_init mo_X8_init), sm_aload, sm_push, sm_newa, sm_put, sm_ret, trivial⟩
theorem mo_X3_init : sa_mc ct_X3_init := sa_mct tm_X3_init
theorem cal_X3_init (fr lr : Nat) (h1 : 3 + 1 ≤ fr) (h2 : 8 + (1 + 11) + 65 ≤ lr) : sa_cal sa_EX yX3_init cX3_init 1 none 3 65 ct_X3_init 0 1 fr lr := ⟨met_X3_init, wt_1_34, wt_1_3, ⟨by decide +kernel, by decide +kernel, by decide +kernel⟩, by decide, h1, h2⟩
def tb_X3_setTarget : sa_T := [(0, so_aload 0 1),
  (1, so_virt [(3, ct_X8_last)] 0 0 0 4),
  (4, so_istore 2 5),
  (5, so_iload 2 6),
  (6, so_if (fun x => x < 0) 25 9),
  (9, so_iload 2 10),
  (10, so_aload 0 11),
  (11, so_get [3] 2 14),
  (14, so_alen 15),
  (15, so_cmp (fun x y => y ≤ x) 25 18),
  (18, so_aload 0 19),
  (19, so_get [3] 2 22),
  (22, so_iload 2 23),
  (23, so_iload 1 24),
  (24, so_iast 25),
  (25, so_ret)]
def ct_X3_setTarget : sa_C := sa_ct tb_X3_setTarget 3
set_option maxRecDepth 100000 in
set_option maxHeartbeats 4000000 in
theorem met_X3_setTarget : sa_Met sa_EX yX3_setTarget cX3_setTarget 3 none 2 40 ct_X3_setTarget := sa_met sa_EX_ok (by decide +kernel) ⟨ss_aload_n rfl dX3_setTarget_0 rfl,
  ss_virt dX3_setTarget_1 (sa_lc ⟨_, _, _, yX8_last, _, _, _, _, _, rfl, cal_X8_last _ _ (by decide) (by decide), wt_1_215, Or.inr ⟨⟨RX3, "last", "()I"⟩, RX8, wt_1_211, wt_1_212, wt_1_214, wn_1_213, ⟨by decide, by decide⟩, by decide +kernel⟩⟩ sa_l0) rfl,
  ss_istore_n rfl dX3_setTarget_4 (by decide) rfl,
  ss_iload_n rfl dX3_setTarget_5 rfl,
  ss_if_lt (tgt := 25) dX3_setTarget_6 (by decide) rfl,
  ss_iload_n rfl dX3_setTarget_9 rfl,
  ss_aload_n rfl dX3_setTarget_10 rfl,
  ss_get dX3_setTarget_11 (sa_lc ⟨_, _, _, rfl, by decide, inX3, wt_1_62⟩ sa_l0) rfl,
  ss_alen dX3_setTarget_14 rfl,
  ss_icmp_ge (tgt := 25) dX3_setTarget_15 (by decide) rfl,
  ss_aload_n rfl dX3_setTarget_18 rfl,
  ss_get dX3_setTarget_19 (sa_lc ⟨_, _, _, rfl, by decide, inX3, wt_1_62⟩ sa_l0) rfl,
  ss_iload_n rfl dX3_setTarget_22 rfl,
  ss_iload_n rfl dX3_setTarget_23 rfl,
  ss_iast dX3_setTarget_24 rfl,
  ss_ret dX3_setTarget_25 rfl trivial,
  trivial⟩
set_option maxRecDepth 100000 in
theorem tm_X3_setTarget : sa_tm tb_X3_setTarget := ⟨sm_aload, (sm_virt (sa_lc mo_X8_last sa_l0)), sm_istore, sm_iload, sm_if, sm_iload, sm_aload, sm_get, sm_alen, sm_cmp, sm_aload, sm_get, sm_iload, sm_iload, sm_iast, sm_ret, trivial⟩
theorem mo_X3_setTarget : sa_mc ct_X3_setTarget := sa_mct tm_X3_setTarget
theorem cal_X3_setTarget (fr lr : Nat) (h1 : 2 + 1 ≤ fr) (h2 : 8 + (3 + 11) + 40 ≤ lr) : sa_cal sa_EX yX3_setTarget cX3_setTarget 3 none 2 40 ct_X3_setTarget 1 2 fr lr := ⟨met_X3_setTarget, wt_2_5, wt_1_3, ⟨by decide +kernel, by decide +kernel, by decide +kernel⟩, by decide, h1, h2⟩
def tb_X3_begin : sa_T := [(0, so_aload 0 1),
  (1, so_virt [(3, ct_X8_addThing)] 0 0 0 4),
  (4, so_aload 0 5),
  (5, so_push (.inl (-1)) 6),
  (6, so_virt [(3, ct_X3_setTarget)] 1 0 0 9),
  (9, so_ret)]
def ct_X3_begin : sa_C := sa_ct tb_X3_begin 1
set_option maxRecDepth 100000 in
set_option maxHeartbeats 4000000 in
theorem met_X3_begin : sa_Met sa_EX yX3_begin cX3_begin 1 none 3 62 ct_X3_begin := sa_met sa_EX_ok (by decide +kernel) ⟨ss_aload_n rfl dX3_begin_0 rfl,
  ss_virt dX3_begin_1 (sa_lc ⟨_, _, _, yX8_addThing, _, _, _, _, _, rfl, cal_X8_addThing _ _ (by decide) (by decide), wt_1_236, Or.inr ⟨⟨RX3, "addThing", "()V"⟩, RX8, wt_1_232, wt_1_233, wt_1_235, wn_1_234, ⟨by decide, by decide⟩, by decide +kernel⟩⟩ sa_l0) rfl,
  ss_aload_n rfl dX3_begin_4 rfl,
  ss_iconst dX3_begin_5 (by decide) rfl,
  ss_virt dX3_begin_6 (sa_lc ⟨_, _, _, yX3_setTarget, _, _, _, _, _, rfl, cal_X3_setTarget _ _ (by decide) (by decide), wt_2_4, Or.inl ⟨wt_2_2, wp_0⟩⟩ sa_l0) rfl,
  ss_ret dX3_begin_9 rfl trivial,
  trivial⟩
set_option maxRecDepth 100000 in
theorem tm_X3_begin : sa_tm tb_X3_begin := ⟨sm_aload, (sm_virt (sa_lc mo_X8_addThing sa_l0)), sm_aload, sm_push, (sm_virt (sa_lc mo_X3_setTarget sa_l0)), sm_ret, trivial⟩
theorem mo_X3_begin : sa_mc ct_X3_begin := sa_mct tm_X3_begin
theorem cal_X3_begin (fr lr : Nat) (h1 : 3 + 1 ≤ fr) (h2 : 8 + (1 + 11) + 62 ≤ lr) : sa_cal sa_EX yX3_begin cX3_begin 1 none 3 62 ct_X3_begin 0 1 fr lr := ⟨met_X3_begin, wt_1_231, wt_1_3, ⟨by decide +kernel, by decide +kernel, by decide +kernel⟩, by decide, h1, h2⟩
def tb_X3_linkLast : sa_T := [(0, so_aload 0 1),
  (1, so_iload 1 2),
  (2, so_virt [(3, ct_X3_setTarget)] 1 0 0 5),
  (5, so_ret)]
def ct_X3_linkLast : sa_C := sa_ct tb_X3_linkLast 2
set_option maxRecDepth 100000 in
set_option maxHeartbeats 4000000 in
theorem met_X3_linkLast : sa_Met sa_EX yX3_linkLast cX3_linkLast 2 none 3 62 ct_X3_linkLast := sa_met sa_EX_ok (by decide +kernel) ⟨ss_aload_n rfl dX3_linkLast_0 rfl,
  ss_iload_n rfl dX3_linkLast_1 rfl,
  ss_virt dX3_linkLast_2 (sa_lc ⟨_, _, _, yX3_setTarget, _, _, _, _, _, rfl, cal_X3_setTarget _ _ (by decide) (by decide), wt_2_4, Or.inl ⟨wt_2_2, wp_0⟩⟩ sa_l0) rfl,
  ss_ret dX3_linkLast_5 rfl trivial,
  trivial⟩
set_option maxRecDepth 100000 in
theorem tm_X3_linkLast : sa_tm tb_X3_linkLast := ⟨sm_aload, sm_iload, (sm_virt (sa_lc mo_X3_setTarget sa_l0)), sm_ret, trivial⟩
theorem mo_X3_linkLast : sa_mc ct_X3_linkLast := sa_mct tm_X3_linkLast
theorem cal_X3_linkLast (fr lr : Nat) (h1 : 3 + 1 ≤ fr) (h2 : 8 + (2 + 11) + 62 ≤ lr) : sa_cal sa_EX yX3_linkLast cX3_linkLast 2 none 3 62 ct_X3_linkLast 1 2 fr lr := ⟨met_X3_linkLast, wt_2_76, wt_1_3, ⟨by decide +kernel, by decide +kernel, by decide +kernel⟩, by decide, h1, h2⟩
def tb_X3_isLink : sa_T := [(0, so_aload 0 1),
  (1, so_iload 1 2),
  (2, so_virt [(3, ct_X3_holder)] 1 0 0 5),
  (5, so_iload 1 6),
  (6, so_cmp (fun x y => x = y) 13 9),
  (9, so_push (.inl (1)) 10),
  (10, so_goto 14),
  (13, so_push (.inl (0)) 14),
  (14, so_zret)]
def ct_X3_isLink : sa_C := sa_ct tb_X3_isLink 2
set_option maxRecDepth 100000 in
set_option maxHeartbeats 4000000 in
theorem met_X3_isLink : sa_Met sa_EX yX3_isLink cX3_isLink 2 (some Jvm.ClassFile.FieldType.boolean) 3 62 ct_X3_isLink := sa_met sa_EX_ok (by decide +kernel) ⟨ss_aload_n rfl dX3_isLink_0 rfl,
  ss_iload_n rfl dX3_isLink_1 rfl,
  ss_virt dX3_isLink_2 (sa_lc ⟨_, _, _, yX3_holder, _, _, _, _, _, rfl, cal_X3_holder _ _ (by decide) (by decide), wt_2_43, Or.inl ⟨wt_2_42, wt_2_44⟩⟩ sa_l0) rfl,
  ss_iload_n rfl dX3_isLink_5 rfl,
  ss_icmp_eq (tgt := 13) dX3_isLink_6 (by decide) rfl,
  ss_iconst dX3_isLink_9 (by decide) rfl,
  ss_goto (tgt := 14) dX3_isLink_10 (by decide),
  ss_iconst dX3_isLink_13 (by decide) rfl,
  ss_zret dX3_isLink_14 rfl,
  trivial⟩
set_option maxRecDepth 100000 in
theorem tm_X3_isLink : sa_tm tb_X3_isLink := ⟨sm_aload, sm_iload, (sm_virt (sa_lc mo_X3_holder sa_l0)), sm_iload, sm_cmp, sm_push, sm_goto, sm_push, sm_zret, trivial⟩
theorem mo_X3_isLink : sa_mc ct_X3_isLink := sa_mct tm_X3_isLink
theorem cal_X3_isLink (fr lr : Nat) (h1 : 3 + 1 ≤ fr) (h2 : 8 + (2 + 11) + 62 ≤ lr) : sa_cal sa_EX yX3_isLink cX3_isLink 2 (some Jvm.ClassFile.FieldType.boolean) 3 62 ct_X3_isLink 1 2 fr lr := ⟨met_X3_isLink, wt_2_41, wt_1_3, ⟨by decide +kernel, by decide +kernel, by decide +kernel⟩, by decide, h1, h2⟩
def tb_X3_endsUnnamed : sa_T := [(0, so_aload 0 1),
  (1, so_virt [(3, ct_X8_count)] 0 0 0 4),
  (4, so_if (fun x => x ≤ 0) 22 7),
  (7, so_aload 0 8),
  (8, so_aload 0 9),
  (9, so_virt [(3, ct_X8_last)] 0 0 0 12),
  (12, so_virt [(3, ct_X8_nameLength)] 1 0 0 15),
  (15, so_if (fun x => x = 0) 18 22),
  (18, so_push (.inl (1)) 19),
  (19, so_goto 23),
  (22, so_push (.inl (0)) 23),
  (23, so_zret)]
def ct_X3_endsUnnamed : sa_C := sa_ct tb_X3_endsUnnamed 1
set_option maxRecDepth 100000 in
set_option maxHeartbeats 4000000 in
theorem met_X3_endsUnnamed : sa_Met sa_EX yX3_endsUnnamed cX3_endsUnnamed 1 (some Jvm.ClassFile.FieldType.boolean) 2 43 ct_X3_endsUnnamed := sa_met sa_EX_ok (by decide +kernel) ⟨ss_aload_n rfl dX3_endsUnnamed_0 rfl,
  ss_virt dX3_endsUnnamed_1 (sa_lc ⟨_, _, _, yX8_count, _, _, _, _, _, rfl, cal_X8_count _ _ (by decide) (by decide), wt_1_205, Or.inr ⟨⟨RX3, "count", "()I"⟩, RX8, wt_1_201, wt_1_202, wt_1_204, wn_1_203, ⟨by decide, by decide⟩, by decide +kernel⟩⟩ sa_l0) rfl,
  ss_if_le (tgt := 22) dX3_endsUnnamed_4 (by decide) rfl,
  ss_aload_n rfl dX3_endsUnnamed_7 rfl,
  ss_aload_n rfl dX3_endsUnnamed_8 rfl,
  ss_virt dX3_endsUnnamed_9 (sa_lc ⟨_, _, _, yX8_last, _, _, _, _, _, rfl, cal_X8_last _ _ (by decide) (by decide), wt_1_215, Or.inr ⟨⟨RX3, "last", "()I"⟩, RX8, wt_1_211, wt_1_212, wt_1_214, wn_1_213, ⟨by decide, by decide⟩, by decide +kernel⟩⟩ sa_l0) rfl,
  ss_virt dX3_endsUnnamed_12 (sa_lc ⟨_, _, _, yX8_nameLength, _, _, _, _, _, rfl, cal_X8_nameLength _ _ (by decide) (by decide), wt_1_221, Or.inr ⟨⟨RX3, "nameLength", "(I)I"⟩, RX8, wt_1_217, wt_1_218, wt_1_220, wn_1_219, ⟨by decide, by decide⟩, by decide +kernel⟩⟩ sa_l0) rfl,
  ss_if_ne (tgt := 22) dX3_endsUnnamed_15 (by decide) rfl,
  ss_iconst dX3_endsUnnamed_18 (by decide) rfl,
  ss_goto (tgt := 23) dX3_endsUnnamed_19 (by decide),
  ss_iconst dX3_endsUnnamed_22 (by decide) rfl,
  ss_zret dX3_endsUnnamed_23 rfl,
  trivial⟩
set_option maxRecDepth 100000 in
theorem tm_X3_endsUnnamed : sa_tm tb_X3_endsUnnamed := ⟨sm_aload, (sm_virt (sa_lc mo_X8_count sa_l0)), sm_if, sm_aload, sm_aload, (sm_virt (sa_lc mo_X8_last sa_l0)), (sm_virt (sa_lc mo_X8_nameLength sa_l0)), sm_if, sm_push, sm_goto, sm_push, sm_zret, trivial⟩
theorem mo_X3_endsUnnamed : sa_mc ct_X3_endsUnnamed := sa_mct tm_X3_endsUnnamed
theorem cal_X3_endsUnnamed (fr lr : Nat) (h1 : 2 + 1 ≤ fr) (h2 : 8 + (1 + 11) + 43 ≤ lr) : sa_cal sa_EX yX3_endsUnnamed cX3_endsUnnamed 1 (some Jvm.ClassFile.FieldType.boolean) 2 43 ct_X3_endsUnnamed 0 1 fr lr := ⟨met_X3_endsUnnamed, wt_1_200, wt_1_3, ⟨by decide +kernel, by decide +kernel, by decide +kernel⟩, by decide, h1, h2⟩
def tb_X8_isNamed : sa_T := [(0, so_aload 0 1),
  (1, so_get [2, 3] 0 4),
  (4, so_iload 1 5),
  (5, so_virt [(7, ct_X9_length)] 1 0 0 8),
  (8, so_aload 2 9),
  (9, so_svirt sa_EX.2.2.2.1.1 ct_J0_length_8abf5 0 12),
  (12, so_cmp (fun x y => x = y) 17 15),
  (15, so_push (.inl (0)) 16),
  (16, so_zret),
  (17, so_push (.inl (0)) 18),
  (18, so_istore 3 19),
  (19, so_iload 3 20),
  (20, so_aload 2 21),
  (21, so_svirt sa_EX.2.2.2.1.1 ct_J0_length_8abf5 0 24),
  (24, so_cmp (fun x y => y ≤ x) 52 27),
  (27, so_aload 0 28),
  (28, so_get [2, 3] 0 31),
  (31, so_iload 1 32),
  (32, so_iload 3 33),
  (33, so_virt [(7, ct_X9_at)] 2 0 0 36),
  (36, so_aload 2 37),
  (37, so_iload 3 38),
  (38, so_svirt sa_EX.2.2.2.1.1 ct_J0_charAt_5068e 1 41),
  (41, so_cmp (fun x y => x = y) 46 44),
  (44, so_push (.inl (0)) 45),
  (45, so_zret),
  (46, so_iinc 3 (1) 49),
  (49, so_goto 19),
  (52, so_push (.inl (1)) 53),
  (53, so_zret)]
def ct_X8_isNamed : sa_C := sa_ct tb_X8_isNamed 4
set_option maxRecDepth 100000 in
set_option maxHeartbeats 4000000 in
theorem met_X8_isNamed : sa_Met sa_EX yX8_isNamed cX8_isNamed 4 (some Jvm.ClassFile.FieldType.boolean) 4 85 ct_X8_isNamed := sa_met sa_EX_ok (by decide +kernel) ⟨ss_aload_n rfl dX8_isNamed_0 rfl,
  ss_get dX8_isNamed_1 (sa_lc ⟨_, _, _, rfl, by decide, inX2, wt_1_63⟩ (sa_lc ⟨_, _, _, rfl, by decide, inX3, wt_1_63⟩ sa_l0)) rfl,
  ss_iload_n rfl dX8_isNamed_4 rfl,
  ss_virt dX8_isNamed_5 (sa_lc ⟨_, _, _, yX9_length, _, _, _, _, _, rfl, cal_X9_length _ _ (by decide) (by decide), wt_1_224, Or.inl ⟨wt_1_223, wt_1_225⟩⟩ sa_l0) rfl,
  ss_aload_n rfl dX8_isNamed_8 rfl,
  ss_svirt dX8_isNamed_9 (cal_J0_length_8abf5 _ _ (by decide) (by decide)) wt_2_109 wt_2_111 wt_2_110 rfl,
  ss_icmp_eq (tgt := 17) dX8_isNamed_12 (by decide) rfl,
  ss_iconst dX8_isNamed_15 (by decide) rfl,
  ss_zret dX8_isNamed_16 rfl,
  ss_iconst dX8_isNamed_17 (by decide) rfl,
  ss_istore_n rfl dX8_isNamed_18 (by decide) rfl,
  ss_iload_n rfl dX8_isNamed_19 rfl,
  ss_aload_n rfl dX8_isNamed_20 rfl,
  ss_svirt dX8_isNamed_21 (cal_J0_length_8abf5 _ _ (by decide) (by decide)) wt_2_109 wt_2_111 wt_2_110 rfl,
  ss_icmp_ge (tgt := 52) dX8_isNamed_24 (by decide) rfl,
  ss_aload_n rfl dX8_isNamed_27 rfl,
  ss_get dX8_isNamed_28 (sa_lc ⟨_, _, _, rfl, by decide, inX2, wt_1_63⟩ (sa_lc ⟨_, _, _, rfl, by decide, inX3, wt_1_63⟩ sa_l0)) rfl,
  ss_iload_n rfl dX8_isNamed_31 rfl,
  ss_iload_n rfl dX8_isNamed_32 rfl,
  ss_virt dX8_isNamed_33 (sa_lc ⟨_, _, _, yX9_at, _, _, _, _, _, rfl, cal_X9_at _ _ (by decide) (by decide), wt_2_120, Or.inl ⟨wt_2_119, wt_2_121⟩⟩ sa_l0) rfl,
  ss_aload_n rfl dX8_isNamed_36 rfl,
  ss_iload_n rfl dX8_isNamed_37 rfl,
  ss_svirt dX8_isNamed_38 (cal_J0_charAt_5068e _ _ (by decide) (by decide)) wt_2_124 wt_2_126 wt_2_125 rfl,
  ss_icmp_eq (tgt := 46) dX8_isNamed_41 (by decide) rfl,
  ss_iconst dX8_isNamed_44 (by decide) rfl,
  ss_zret dX8_isNamed_45 rfl,
  ss_iinc dX8_isNamed_46 (by decide) (by decide) rfl,
  ss_goto (tgt := 19) dX8_isNamed_49 (by decide),
  ss_iconst dX8_isNamed_52 (by decide) rfl,
  ss_zret dX8_isNamed_53 rfl,
  trivial⟩
set_option maxRecDepth 100000 in
theorem tm_X8_isNamed : sa_tm tb_X8_isNamed := ⟨sm_aload, sm_get, sm_iload, (sm_virt (sa_lc mo_X9_length sa_l0)), sm_aload, (sm_svirt mo_J0_length_8abf5), sm_cmp, sm_push, sm_zret, sm_push, sm_istore, sm_iload, sm_aload, (sm_svirt mo_J0_length_8abf5), sm_cmp, sm_aload, sm_get, sm_iload, sm_iload, (sm_virt (sa_lc mo_X9_at sa_l0)), sm_aload, sm_iload, (sm_svirt mo_J0_charAt_5068e), sm_cmp, sm_push, sm_zret, sm_iinc, sm_goto, sm_push, sm_zret, trivial⟩
theorem mo_X8_isNamed : sa_mc ct_X8_isNamed := sa_mct tm_X8_isNamed
theorem cal_X8_isNamed (fr lr : Nat) (h1 : 4 + 1 ≤ fr) (h2 : 8 + (4 + 11) + 85 ≤ lr) : sa_cal sa_EX yX8_isNamed cX8_isNamed 4 (some Jvm.ClassFile.FieldType.boolean) 4 85 ct_X8_isNamed 2 3 fr lr := ⟨met_X8_isNamed, wt_2_108, wt_1_2, ⟨by decide +kernel, by decide +kernel, by decide +kernel⟩, by decide, h1, h2⟩
def tb_X3_hasTrailer : sa_T := [(0, so_push (.inl (0)) 1),
  (1, so_istore 1 2),
  (2, so_iload 1 3),
  (3, so_aload 0 4),
  (4, so_virt [(3, ct_X8_count)] 0 0 0 7),
  (7, so_cmp (fun x y => y ≤ x) 28 10),
  (10, so_aload 0 11),
  (11, so_iload 1 12),
  (12, so_push (.inr (.inr 0)) 14),
  (14, so_virt [(3, ct_X8_isNamed)] 2 0 0 17),
  (17, so_if (fun x => x = 0) 22 20),
  (20, so_push (.inl (1)) 21),
  (21, so_zret),
  (22, so_iinc 1 (1) 25),
  (25, so_goto 2),
  (28, so_push (.inl (0)) 29),
  (29, so_zret)]
def ct_X3_hasTrailer : sa_C := sa_ct tb_X3_hasTrailer 2
set_option maxRecDepth 100000 in
set_option maxHeartbeats 4000000 in
theorem met_X3_hasTrailer : sa_Met sa_EX yX3_hasTrailer cX3_hasTrailer 2 (some Jvm.ClassFile.FieldType.boolean) 5 108 ct_X3_hasTrailer := sa_met sa_EX_ok (by decide +kernel) ⟨ss_iconst dX3_hasTrailer_0 (by decide) rfl,
  ss_istore_n rfl dX3_hasTrailer_1 (by decide) rfl,
  ss_iload_n rfl dX3_hasTrailer_2 rfl,
  ss_aload_n rfl dX3_hasTrailer_3 rfl,
  ss_virt dX3_hasTrailer_4 (sa_lc ⟨_, _, _, yX8_count, _, _, _, _, _, rfl, cal_X8_count _ _ (by decide) (by decide), wt_1_205, Or.inr ⟨⟨RX3, "count", "()I"⟩, RX8, wt_1_201, wt_1_202, wt_1_204, wn_1_203, ⟨by decide, by decide⟩, by decide +kernel⟩⟩ sa_l0) rfl,
  ss_icmp_ge (tgt := 28) dX3_hasTrailer_7 (by decide) rfl,
  ss_aload_n rfl dX3_hasTrailer_10 rfl,
  ss_iload_n rfl dX3_hasTrailer_11 rfl,
  ss_ldcS dX3_hasTrailer_12 ws_0 rfl,
  ss_virt dX3_hasTrailer_14 (sa_lc ⟨_, _, _, yX8_isNamed, _, _, _, _, _, rfl, cal_X8_isNamed _ _ (by decide) (by decide), wt_2_107, Or.inr ⟨⟨RX3, "isNamed", "(ILjava/lang/String;)Z"⟩, RX8, wt_2_103, wt_2_104, wt_2_106, wn_2_105, ⟨by decide, by decide⟩, by decide +kernel⟩⟩ sa_l0) rfl,
  ss_if_eq (tgt := 22) dX3_hasTrailer_17 (by decide) rfl,
  ss_iconst dX3_hasTrailer_20 (by decide) rfl,
  ss_zret dX3_hasTrailer_21 rfl,
  ss_iinc dX3_hasTrailer_22 (by decide) (by decide) rfl,
  ss_goto (tgt := 2) dX3_hasTrailer_25 (by decide),
  ss_iconst dX3_hasTrailer_28 (by decide) rfl,
  ss_zret dX3_hasTrailer_29 rfl,
  trivial⟩
set_option maxRecDepth 100000 in
theorem tm_X3_hasTrailer : sa_tm tb_X3_hasTrailer := ⟨sm_push, sm_istore, sm_iload, sm_aload, (sm_virt (sa_lc mo_X8_count sa_l0)), sm_cmp, sm_aload, sm_iload, sm_push, (sm_virt (sa_lc mo_X8_isNamed sa_l0)), sm_if, sm_push, sm_zret, sm_iinc, sm_goto, sm_push, sm_zret, trivial⟩
theorem mo_X3_hasTrailer : sa_mc ct_X3_hasTrailer := sa_mct tm_X3_hasTrailer
theorem cal_X3_hasTrailer (fr lr : Nat) (h1 : 5 + 1 ≤ fr) (h2 : 8 + (2 + 11) + 108 ≤ lr) : sa_cal sa_EX yX3_hasTrailer cX3_hasTrailer 2 (some Jvm.ClassFile.FieldType.boolean) 5 108 ct_X3_hasTrailer 0 1 fr lr := ⟨met_X3_hasTrailer, wt_2_101, wt_1_3, ⟨by decide +kernel, by decide +kernel, by decide +kernel⟩, by decide, h1, h2⟩
def tb_X3_numberOf : sa_T := [(0, so_push (.inl (1)) 1),
  (1, so_istore 2 2),
  (2, so_push (.inl (0)) 3),
  (3, so_istore 3 4),
  (4, so_iload 3 5),
  (5, so_aload 0 6),
  (6, so_iload 1 7),
  (7, so_virt [(3, ct_X3_holder)] 1 0 0 10),
  (10, so_cmp (fun x y => y ≤ x) 30 13),
  (13, so_aload 0 14),
  (14, so_iload 3 15),
  (15, so_virt [(3, ct_X3_isLink)] 1 0 0 18),
  (18, so_if (fun x => x = 0) 21 24),
  (21, so_iinc 2 (1) 24),
  (24, so_iinc 3 (1) 27),
  (27, so_goto 4),
  (30, so_iload 2 31),
  (31, so_iret)]
def ct_X3_numberOf : sa_C := sa_ct tb_X3_numberOf 4
set_option maxRecDepth 100000 in
set_option maxHeartbeats 4000000 in
theorem met_X3_numberOf : sa_Met sa_EX yX3_numberOf cX3_numberOf 4 (some Jvm.ClassFile.FieldType.int) 4 83 ct_X3_numberOf := sa_met sa_EX_ok (by decide +kernel) ⟨ss_iconst dX3_numberOf_0 (by decide) rfl,
  ss_istore_n rfl dX3_numberOf_1 (by decide) rfl,
  ss_iconst dX3_numberOf_2 (by decide) rfl,
  ss_istore_n rfl dX3_numberOf_3 (by decide) rfl,
  ss_iload_n rfl dX3_numberOf_4 rfl,
  ss_aload_n rfl dX3_numberOf_5 rfl,
  ss_iload_n rfl dX3_numberOf_6 rfl,
  ss_virt dX3_numberOf_7 (sa_lc ⟨_, _, _, yX3_holder, _, _, _, _, _, rfl, cal_X3_holder _ _ (by decide) (by decide), wt_2_43, Or.inl ⟨wt_2_42, wt_2_44⟩⟩ sa_l0) rfl,
  ss_icmp_ge (tgt := 30) dX3_numberOf_10 (by decide) rfl,
  ss_aload_n rfl dX3_numberOf_13 rfl,
  ss_iload_n rfl dX3_numberOf_14 rfl,
  ss_virt dX3_numberOf_15 (sa_lc ⟨_, _, _, yX3_isLink, _, _, _, _, _, rfl, cal_X3_isLink _ _ (by decide) (by decide), wt_2_39, Or.inl ⟨wt_3_53, wt_2_40⟩⟩ sa_l0) rfl,
  ss_if_ne (tgt := 24) dX3_numberOf_18 (by decide) rfl,
  ss_iinc dX3_numberOf_21 (by decide) (by decide) rfl,
  ss_iinc dX3_numberOf_24 (by decide) (by decide) rfl,
  ss_goto (tgt := 4) dX3_numberOf_27 (by decide),
  ss_iload_n rfl dX3_numberOf_30 rfl,
  ss_iret dX3_numberOf_31 rfl,
  trivial⟩
set_option maxRecDepth 100000 in
theorem tm_X3_numberOf : sa_tm tb_X3_numberOf := ⟨sm_push, sm_istore, sm_push, sm_istore, sm_iload, sm_aload, sm_iload, (sm_virt (sa_lc mo_X3_holder sa_l0)), sm_cmp, sm_aload, sm_iload, (sm_virt (sa_lc mo_X3_isLink sa_l0)), sm_if, sm_iinc, sm_iinc, sm_goto, sm_iload, sm_iret, trivial⟩
theorem mo_X3_numberOf : sa_mc ct_X3_numberOf := sa_mct tm_X3_numberOf
theorem cal_X3_numberOf (fr lr : Nat) (h1 : 4 + 1 ≤ fr) (h2 : 8 + (4 + 11) + 83 ≤ lr) : sa_cal sa_EX yX3_numberOf cX3_numberOf 4 (some Jvm.ClassFile.FieldType.int) 4 83 ct_X3_numberOf 1 2 fr lr := ⟨met_X3_numberOf, wt_3_52, wt_1_3, ⟨by decide +kernel, by decide +kernel, by decide +kernel⟩, by decide, h1, h2⟩
def tb_X3_linksOf : sa_T := [(0, so_push (.inl (0)) 1),
  (1, so_istore 2 2),
  (2, so_push (.inl (0)) 3),
  (3, so_istore 3 4),
  (4, so_iload 3 5),
  (5, so_aload 0 6),
  (6, so_virt [(3, ct_X8_count)] 0 0 0 9),
  (9, so_cmp (fun x y => y ≤ x) 34 12),
  (12, so_aload 0 13),
  (13, so_iload 3 14),
  (14, so_virt [(3, ct_X3_holder)] 1 0 0 17),
  (17, so_aload 0 18),
  (18, so_iload 1 19),
  (19, so_virt [(3, ct_X3_holder)] 1 0 0 22),
  (22, so_cmp (fun x y => x = y) 25 28),
  (25, so_iinc 2 (1) 28),
  (28, so_iinc 3 (1) 31),
  (31, so_goto 4),
  (34, so_iload 2 35),
  (35, so_iret)]
def ct_X3_linksOf : sa_C := sa_ct tb_X3_linksOf 4
set_option maxRecDepth 100000 in
set_option maxHeartbeats 4000000 in
theorem met_X3_linksOf : sa_Met sa_EX yX3_linksOf cX3_linksOf 4 (some Jvm.ClassFile.FieldType.int) 3 62 ct_X3_linksOf := sa_met sa_EX_ok (by decide +kernel) ⟨ss_iconst dX3_linksOf_0 (by decide) rfl,
  ss_istore_n rfl dX3_linksOf_1 (by decide) rfl,
  ss_iconst dX3_linksOf_2 (by decide) rfl,
  ss_istore_n rfl dX3_linksOf_3 (by decide) rfl,
  ss_iload_n rfl dX3_linksOf_4 rfl,
  ss_aload_n rfl dX3_linksOf_5 rfl,
  ss_virt dX3_linksOf_6 (sa_lc ⟨_, _, _, yX8_count, _, _, _, _, _, rfl, cal_X8_count _ _ (by decide) (by decide), wt_1_205, Or.inr ⟨⟨RX3, "count", "()I"⟩, RX8, wt_1_201, wt_1_202, wt_1_204, wn_1_203, ⟨by decide, by decide⟩, by decide +kernel⟩⟩ sa_l0) rfl,
  ss_icmp_ge (tgt := 34) dX3_linksOf_9 (by decide) rfl,
  ss_aload_n rfl dX3_linksOf_12 rfl,
  ss_iload_n rfl dX3_linksOf_13 rfl,
  ss_virt dX3_linksOf_14 (sa_lc ⟨_, _, _, yX3_holder, _, _, _, _, _, rfl, cal_X3_holder _ _ (by decide) (by decide), wt_2_43, Or.inl ⟨wt_2_42, wt_2_44⟩⟩ sa_l0) rfl,
  ss_aload_n rfl dX3_linksOf_17 rfl,
  ss_iload_n rfl dX3_linksOf_18 rfl,
  ss_virt dX3_linksOf_19 (sa_lc ⟨_, _, _, yX3_holder, _, _, _, _, _, rfl, cal_X3_holder _ _ (by decide) (by decide), wt_2_43, Or.inl ⟨wt_2_42, wt_2_44⟩⟩ sa_l0) rfl,
  ss_icmp_ne (tgt := 28) dX3_linksOf_22 (by decide) rfl,
  ss_iinc dX3_linksOf_25 (by decide) (by decide) rfl,
  ss_iinc dX3_linksOf_28 (by decide) (by decide) rfl,
  ss_goto (tgt := 4) dX3_linksOf_31 (by decide),
  ss_iload_n rfl dX3_linksOf_34 rfl,
  ss_iret dX3_linksOf_35 rfl,
  trivial⟩
set_option maxRecDepth 100000 in
theorem tm_X3_linksOf : sa_tm tb_X3_linksOf := ⟨sm_push, sm_istore, sm_push, sm_istore, sm_iload, sm_aload, (sm_virt (sa_lc mo_X8_count sa_l0)), sm_cmp, sm_aload, sm_iload, (sm_virt (sa_lc mo_X3_holder sa_l0)), sm_aload, sm_iload, (sm_virt (sa_lc mo_X3_holder sa_l0)), sm_cmp, sm_iinc, sm_iinc, sm_goto, sm_iload, sm_iret, trivial⟩
theorem mo_X3_linksOf : sa_mc ct_X3_linksOf := sa_mct tm_X3_linksOf
theorem cal_X3_linksOf (fr lr : Nat) (h1 : 3 + 1 ≤ fr) (h2 : 8 + (4 + 11) + 62 ≤ lr) : sa_cal sa_EX yX3_linksOf cX3_linksOf 4 (some Jvm.ClassFile.FieldType.int) 3 62 ct_X3_linksOf 1 2 fr lr := ⟨met_X3_linksOf, wt_3_57, wt_1_3, ⟨by decide +kernel, by decide +kernel, by decide +kernel⟩, by decide, h1, h2⟩
def tb_X3_isLastOfGroup : sa_T := [(0, so_iload 1 1),
  (1, so_push (.inl (1)) 2),
  (2, so_bin (fun x y => x + y) 3),
  (3, so_istore 2 4),
  (4, so_iload 2 5),
  (5, so_aload 0 6),
  (6, so_virt [(3, ct_X8_count)] 0 0 0 9),
  (9, so_cmp (fun x y => y ≤ x) 33 12),
  (12, so_aload 0 13),
  (13, so_iload 2 14),
  (14, so_virt [(3, ct_X3_holder)] 1 0 0 17),
  (17, so_aload 0 18),
  (18, so_iload 1 19),
  (19, so_virt [(3, ct_X3_holder)] 1 0 0 22),
  (22, so_cmp (fun x y => x = y) 25 27),
  (25, so_push (.inl (0)) 26),
  (26, so_zret),
  (27, so_iinc 2 (1) 30),
  (30, so_goto 4),
  (33, so_push (.inl (1)) 34),
  (34, so_zret)]
def ct_X3_isLastOfGroup : sa_C := sa_ct tb_X3_isLastOfGroup 3
set_option maxRecDepth 100000 in
set_option maxHeartbeats 4000000 in
theorem met_X3_isLastOfGroup : sa_Met sa_EX yX3_isLastOfGroup cX3_isLastOfGroup 3 (some Jvm.ClassFile.FieldType.boolean) 3 62 ct_X3_isLastOfGroup := sa_met sa_EX_ok (by decide +kernel) ⟨ss_iload_n rfl dX3_isLastOfGroup_0 rfl,
  ss_iconst dX3_isLastOfGroup_1 (by decide) rfl,
  ss_iadd dX3_isLastOfGroup_2 rfl,
  ss_istore_n rfl dX3_isLastOfGroup_3 (by decide) rfl,
  ss_iload_n rfl dX3_isLastOfGroup_4 rfl,
  ss_aload_n rfl dX3_isLastOfGroup_5 rfl,
  ss_virt dX3_isLastOfGroup_6 (sa_lc ⟨_, _, _, yX8_count, _, _, _, _, _, rfl, cal_X8_count _ _ (by decide) (by decide), wt_1_205, Or.inr ⟨⟨RX3, "count", "()I"⟩, RX8, wt_1_201, wt_1_202, wt_1_204, wn_1_203, ⟨by decide, by decide⟩, by decide +kernel⟩⟩ sa_l0) rfl,
  ss_icmp_ge (tgt := 33) dX3_isLastOfGroup_9 (by decide) rfl,
  ss_aload_n rfl dX3_isLastOfGroup_12 rfl,
  ss_iload_n rfl dX3_isLastOfGroup_13 rfl,
  ss_virt dX3_isLastOfGroup_14 (sa_lc ⟨_, _, _, yX3_holder, _, _, _, _, _, rfl, cal_X3_holder _ _ (by decide) (by decide), wt_2_43, Or.inl ⟨wt_2_42, wt_2_44⟩⟩ sa_l0) rfl,
  ss_aload_n rfl dX3_isLastOfGroup_17 rfl,
  ss_iload_n rfl dX3_isLastOfGroup_18 rfl,
  ss_virt dX3_isLastOfGroup_19 (sa_lc ⟨_, _, _, yX3_holder, _, _, _, _, _, rfl, cal_X3_holder _ _ (by decide) (by decide), wt_2_43, Or.inl ⟨wt_2_42, wt_2_44⟩⟩ sa_l0) rfl,
  ss_icmp_ne (tgt := 27) dX3_isLastOfGroup_22 (by decide) rfl,
  ss_iconst dX3_isLastOfGroup_25 (by decide) rfl,
  ss_zret dX3_isLastOfGroup_26 rfl,
  ss_iinc dX3_isLastOfGroup_27 (by decide) (by decide) rfl,
  ss_goto (tgt := 4) dX3_isLastOfGroup_30 (by decide),
  ss_iconst dX3_isLastOfGroup_33 (by decide) rfl,
  ss_zret dX3_isLastOfGroup_34 rfl,
  trivial⟩
set_option maxRecDepth 100000 in
theorem tm_X3_isLastOfGroup : sa_tm tb_X3_isLastOfGroup := ⟨sm_iload, sm_push, sm_bin, sm_istore, sm_iload, sm_aload, (sm_virt (sa_lc mo_X8_count sa_l0)), sm_cmp, sm_aload, sm_iload, (sm_virt (sa_lc mo_X3_holder sa_l0)), sm_aload, sm_iload, (sm_virt (sa_lc mo_X3_holder sa_l0)), sm_cmp, sm_push, sm_zret, sm_iinc, sm_goto, sm_push, sm_zret, trivial⟩
theorem mo_X3_isLastOfGroup : sa_mc ct_X3_isLastOfGroup := sa_mct tm_X3_isLastOfGroup
theorem cal_X3_isLastOfGroup (fr lr : Nat) (h1 : 3 + 1 ≤ fr) (h2 : 8 + (3 + 11) + 62 ≤ lr) : sa_cal sa_EX yX3_isLastOfGroup cX3_isLastOfGroup 3 (some Jvm.ClassFile.FieldType.boolean) 3 62 ct_X3_isLastOfGroup 1 2 fr lr := ⟨met_X3_isLastOfGroup, wt_3_40, wt_1_3, ⟨by decide +kernel, by decide +kernel, by decide +kernel⟩, by decide, h1, h2⟩
def tb_X4_init : sa_T := [(0, so_aload 0 1),
  (1, so_obj 4),
  (4, so_ret)]
def ct_X4_init : sa_C := sa_ct tb_X4_init 1
set_option maxRecDepth 100000 in
set_option maxHeartbeats 4000000 in
theorem met_X4_init : sa_Met sa_EX yX4_init cX4_init 1 none 1 20 ct_X4_init := sa_met sa_EX_ok (by decide +kernel) ⟨ss_aload_n rfl dX4_init_0 rfl,
  ss_obj dX4_init_1 wt_1_140 wt_1_28 wt_1_29 (by decide) (by decide) rfl,
  ss_ret dX4_init_4 rfl trivial,
  trivial⟩
set_option maxRecDepth 100000 in
theorem tm_X4_init : sa_tm tb_X4_init := ⟨sm_aload, sm_obj, sm_ret, trivial⟩
theorem mo_X4_init : sa_mc ct_X4_init := sa_mct tm_X4_init
theorem cal_X4_init (fr lr : Nat) (h1 : 1 + 1 ≤ fr) (h2 : 8 + (1 + 11) + 20 ≤ lr) : sa_cal sa_EX yX4_init cX4_init 1 none 1 20 ct_X4_init 0 1 fr lr := ⟨met_X4_init, wt_1_139, wt_1_9, ⟨by decide +kernel, by decide +kernel, by decide +kernel⟩, by decide, h1, h2⟩
def tb_X5_init : sa_T := [(0, so_aload 0 1),
  (1, so_init ct_X4_init 0 0 0 4),
  (4, so_ret)]
def ct_X5_init : sa_C := sa_ct tb_X5_init 1
set_option maxRecDepth 100000 in
set_option maxHeartbeats 4000000 in
theorem met_X5_init : sa_Met sa_EX yX5_init cX5_init 1 none 2 40 ct_X5_init := sa_met sa_EX_ok (by decide +kernel) ⟨ss_aload_n rfl dX5_init_0 rfl,
  ss_initN dX5_init_1 (cal_X4_init _ _ (by decide) (by decide)) wn_1_137 wt_1_138 rfl rfl,
  ss_ret dX5_init_4 rfl trivial,
  trivial⟩
set_option maxRecDepth 100000 in
theorem tm_X5_init : sa_tm tb_X5_init := ⟨sm_aload, (sm_init mo_X4_init), sm_ret, trivial⟩
theorem mo_X5_init : sa_mc ct_X5_init := sa_mct tm_X5_init
theorem cal_X5_init (fr lr : Nat) (h1 : 2 + 1 ≤ fr) (h2 : 8 + (1 + 11) + 40 ≤ lr) : sa_cal sa_EX yX5_init cX5_init 1 none 2 40 ct_X5_init 0 1 fr lr := ⟨met_X5_init, wt_1_136, wt_1_10, ⟨by decide +kernel, by decide +kernel, by decide +kernel⟩, by decide, h1, h2⟩
def tb_X5_tablePart : sa_T := [(0, so_aload 0 1),
  (1, so_iload 1 2),
  (2, so_virt [(3, ct_X8_nameLength)] 1 0 0 5),
  (5, so_istore 2 6),
  (6, so_iload 2 7),
  (7, so_push (.inl (7)) 9),
  (9, so_cmp (fun x y => x ≤ y) 18 12),
  (12, so_iload 2 13),
  (13, so_push (.inl (2)) 14),
  (14, so_bin (fun x y => x + y) 15),
  (15, so_goto 19),
  (18, so_push (.inl (0)) 19),
  (19, so_iret)]
def ct_X5_tablePart : sa_C := sa_ct tb_X5_tablePart 3
set_option maxRecDepth 100000 in
set_option maxHeartbeats 4000000 in
theorem met_X5_tablePart : sa_Met sa_EX yX5_tablePart cX5_tablePart 3 (some Jvm.ClassFile.FieldType.int) 2 43 ct_X5_tablePart := sa_met sa_EX_ok (by decide +kernel) ⟨ss_aload_n rfl dX5_tablePart_0 rfl,
  ss_iload_n rfl dX5_tablePart_1 rfl,
  ss_virt dX5_tablePart_2 (sa_lc ⟨_, _, _, yX8_nameLength, _, _, _, _, _, rfl, cal_X8_nameLength _ _ (by decide) (by decide), wt_1_221, Or.inr ⟨⟨RX3, "nameLength", "(I)I"⟩, RX8, wt_2_194, wt_1_218, wt_1_220, wn_1_219, ⟨by decide, by decide⟩, by decide +kernel⟩⟩ sa_l0) rfl,
  ss_istore_n rfl dX5_tablePart_5 (by decide) rfl,
  ss_iload_n rfl dX5_tablePart_6 rfl,
  ss_bipush dX5_tablePart_7 (by decide) rfl,
  ss_icmp_le (tgt := 18) dX5_tablePart_9 (by decide) rfl,
  ss_iload_n rfl dX5_tablePart_12 rfl,
  ss_iconst dX5_tablePart_13 (by decide) rfl,
  ss_iadd dX5_tablePart_14 rfl,
  ss_goto (tgt := 19) dX5_tablePart_15 (by decide),
  ss_iconst dX5_tablePart_18 (by decide) rfl,
  ss_iret dX5_tablePart_19 rfl,
  trivial⟩
set_option maxRecDepth 100000 in
theorem tm_X5_tablePart : sa_tm tb_X5_tablePart := ⟨sm_aload, sm_iload, (sm_virt (sa_lc mo_X8_nameLength sa_l0)), sm_istore, sm_iload, sm_push, sm_cmp, sm_iload, sm_push, sm_bin, sm_goto, sm_push, sm_iret, trivial⟩
theorem mo_X5_tablePart : sa_mc ct_X5_tablePart := sa_mct tm_X5_tablePart
theorem cal_X5_tablePart (fr lr : Nat) (h1 : 2 + 1 ≤ fr) (h2 : 8 + (3 + 11) + 43 ≤ lr) : sa_cal sa_EX yX5_tablePart cX5_tablePart 3 (some Jvm.ClassFile.FieldType.int) 2 43 ct_X5_tablePart 2 2 fr lr := ⟨met_X5_tablePart, wt_2_193, wt_1_10, ⟨by decide +kernel, by decide +kernel, by decide +kernel⟩, by decide, h1, h2⟩
def tb_X5_packSize : sa_T := [(0, so_aload 1 1),
  (1, so_virt [(0, ct_X0_size)] 0 0 0 4),
  (4, so_push (.inl (12)) 6),
  (6, so_bin (fun x y => x + y) 7),
  (7, so_push (.inl (8)) 9),
  (9, so_bin (fun x y => x - y) 10),
  (10, so_istore 2 11),
  (11, so_aload 1 12),
  (12, so_iload 0 13),
  (13, so_virt [(0, ct_X0_addFigures)] 1 0 0 16),
  (16, so_aload 1 17),
  (17, so_iload 2 18),
  (18, so_virt [(0, ct_X0_addBlanksTo)] 1 0 0 21),
  (21, so_aload 1 22),
  (22, so_push (.inr (.inr 3)) 24),
  (24, so_virt [(0, ct_X0_addText)] 1 0 0 27),
  (27, so_ret)]
def ct_X5_packSize : sa_C := sa_ct tb_X5_packSize 3
set_option maxRecDepth 100000 in
set_option maxHeartbeats 4000000 in
theorem met_X5_packSize : sa_Met sa_EX yX5_packSize cX5_packSize 3 none 5 107 ct_X5_packSize := sa_met sa_EX_ok (by decide +kernel) ⟨ss_aload_n rfl dX5_packSize_0 rfl,
  ss_virt dX5_packSize_1 (sa_lc ⟨_, _, _, yX0_size, _, _, _, _, _, rfl, cal_X0_size _ _ (by decide) (by decide), wt_2_196, Or.inl ⟨wt_2_195, wt_2_197⟩⟩ sa_l0) rfl,
  ss_bipush dX5_packSize_4 (by decide) rfl,
  ss_iadd dX5_packSize_6 rfl,
  ss_bipush dX5_packSize_7 (by decide) rfl,
  ss_isub dX5_packSize_9 rfl,
  ss_istore_n rfl dX5_packSize_10 (by decide) rfl,
  ss_aload_n rfl dX5_packSize_11 rfl,
  ss_iload_n rfl dX5_packSize_12 rfl,
  ss_virt dX5_packSize_13 (sa_lc ⟨_, _, _, yX0_addFigures, _, _, _, _, _, rfl, cal_X0_addFigures _ _ (by decide) (by decide), wt_2_208, Or.inl ⟨wt_2_207, wt_2_209⟩⟩ sa_l0) rfl,
  ss_aload_n rfl dX5_packSize_16 rfl,
  ss_iload_n rfl dX5_packSize_17 rfl,
  ss_virt dX5_packSize_18 (sa_lc ⟨_, _, _, yX0_addBlanksTo, _, _, _, _, _, rfl, cal_X0_addBlanksTo _ _ (by decide) (by decide), wt_2_201, Or.inl ⟨wt_2_200, wt_2_202⟩⟩ sa_l0) rfl,
  ss_aload_n rfl dX5_packSize_21 rfl,
  ss_ldcS dX5_packSize_22 ws_3 rfl,
  ss_virt dX5_packSize_24 (sa_lc ⟨_, _, _, yX0_addText, _, _, _, _, _, rfl, cal_X0_addText _ _ (by decide) (by decide), wt_2_178, Or.inl ⟨wt_2_177, wt_2_179⟩⟩ sa_l0) rfl,
  ss_ret dX5_packSize_27 rfl trivial,
  trivial⟩
set_option maxRecDepth 100000 in
theorem tm_X5_packSize : sa_tm tb_X5_packSize := ⟨sm_aload, (sm_virt (sa_lc mo_X0_size sa_l0)), sm_push, sm_bin, sm_push, sm_bin, sm_istore, sm_aload, sm_iload, (sm_virt (sa_lc mo_X0_addFigures sa_l0)), sm_aload, sm_iload, (sm_virt (sa_lc mo_X0_addBlanksTo sa_l0)), sm_aload, sm_push, (sm_virt (sa_lc mo_X0_addText sa_l0)), sm_ret, trivial⟩
theorem mo_X5_packSize : sa_mc ct_X5_packSize := sa_mct tm_X5_packSize
theorem cal_X5_packSize (fr lr : Nat) (h1 : 5 + 1 ≤ fr) (h2 : 8 + (3 + 11) + 107 ≤ lr) : sa_cal sa_EX yX5_packSize cX5_packSize 3 none 5 107 ct_X5_packSize 2 2 fr lr := ⟨met_X5_packSize, wt_2_206, wt_1_10, ⟨by decide +kernel, by decide +kernel, by decide +kernel⟩, by decide, h1, h2⟩
def tb_X10_isOdd : sa_T := [(0, so_iload 0 1),
  (1, so_push (.inl (1)) 2),
  (2, so_bin (fun x y => x &&& y) 3),
  (3, so_if (fun x => x = 0) 10 6),
  (6, so_push (.inl (1)) 7),
  (7, so_goto 11),
  (10, so_push (.inl (0)) 11),
  (11, so_zret)]
def ct_X10_isOdd : sa_C := sa_ct tb_X10_isOdd 1
set_option maxRecDepth 100000 in
set_option maxHeartbeats 4000000 in
theorem met_X10_isOdd : sa_Met sa_EX yX10_isOdd cX10_isOdd 1 (some Jvm.ClassFile.FieldType.boolean) 0 0 ct_X10_isOdd := sa_met sa_EX_ok (by decide +kernel) ⟨ss_iload_n rfl dX10_isOdd_0 rfl,
  ss_iconst dX10_isOdd_1 (by decide) rfl,
  ss_iand dX10_isOdd_2 rfl,
  ss_if_eq (tgt := 10) dX10_isOdd_3 (by decide) rfl,
  ss_iconst dX10_isOdd_6 (by decide) rfl,
  ss_goto (tgt := 11) dX10_isOdd_7 (by decide),
  ss_iconst dX10_isOdd_10 (by decide) rfl,
  ss_zret dX10_isOdd_11 rfl,
  trivial⟩
set_option maxRecDepth 100000 in
theorem tm_X10_isOdd : sa_tm tb_X10_isOdd := ⟨sm_iload, sm_push, sm_bin, sm_if, sm_push, sm_goto, sm_push, sm_zret, trivial⟩
theorem mo_X10_isOdd : sa_mc ct_X10_isOdd := sa_mct tm_X10_isOdd
theorem cal_X10_isOdd (fr lr : Nat) (h1 : 0 + 1 ≤ fr) (h2 : 8 + (1 + 11) + 0 ≤ lr) : sa_cal sa_EX yX10_isOdd cX10_isOdd 1 (some Jvm.ClassFile.FieldType.boolean) 0 0 ct_X10_isOdd 1 1 fr lr := ⟨met_X10_isOdd, wt_2_229, wt_1_1, ⟨by decide +kernel, by decide +kernel, by decide +kernel⟩, by decide, h1, h2⟩
def tb_X5_packPad : sa_T := [(0, so_iload 0 1),
  (1, so_stat ct_X10_isOdd 1 0 0 4),
  (4, so_if (fun x => x = 0) 13 7),
  (7, so_aload 1 8),
  (8, so_push (.inl (10)) 10),
  (10, so_virt [(0, ct_X0_add)] 1 0 0 13),
  (13, so_ret)]
def ct_X5_packPad : sa_C := sa_ct tb_X5_packPad 2
set_option maxRecDepth 100000 in
set_option maxHeartbeats 4000000 in
theorem met_X5_packPad : sa_Met sa_EX yX5_packPad cX5_packPad 2 none 1 21 ct_X5_packPad := sa_met sa_EX_ok (by decide +kernel) ⟨ss_iload_n rfl dX5_packPad_0 rfl,
  ss_statN dX5_packPad_1 (cal_X10_isOdd _ _ (by decide) (by decide)) wn_2_227 wt_2_228 rfl,
  ss_if_eq (tgt := 13) dX5_packPad_4 (by decide) rfl,
  ss_aload_n rfl dX5_packPad_7 rfl,
  ss_bipush dX5_packPad_8 (by decide) rfl,
  ss_virt dX5_packPad_10 (sa_lc ⟨_, _, _, yX0_add, _, _, _, _, _, rfl, cal_X0_add _ _ (by decide) (by decide), wt_2_184, Or.inl ⟨wt_2_230, wt_2_185⟩⟩ sa_l0) rfl,
  ss_ret dX5_packPad_13 rfl trivial,
  trivial⟩
set_option maxRecDepth 100000 in
theorem tm_X5_packPad : sa_tm tb_X5_packPad := ⟨sm_iload, (sm_stat mo_X10_isOdd), sm_if, sm_aload, sm_push, (sm_virt (sa_lc mo_X0_add sa_l0)), sm_ret, trivial⟩
theorem mo_X5_packPad : sa_mc ct_X5_packPad := sa_mct tm_X5_packPad
theorem cal_X5_packPad (fr lr : Nat) (h1 : 1 + 1 ≤ fr) (h2 : 8 + (2 + 11) + 21 ≤ lr) : sa_cal sa_EX yX5_packPad cX5_packPad 2 none 1 21 ct_X5_packPad 2 2 fr lr := ⟨met_X5_packPad, wt_2_226, wt_1_10, ⟨by decide +kernel, by decide +kernel, by decide +kernel⟩, by decide, h1, h2⟩
def tb_X5_packTable : sa_T := [(0, so_push (.inl (0)) 1),
  (1, so_istore 2 2),
  (2, so_push (.inl (0)) 3),
  (3, so_istore 3 4),
  (4, so_iload 3 5),
  (5, so_aload 0 6),
  (6, so_virt [(3, ct_X8_count)] 0 0 0 9),
  (9, so_cmp (fun x y => y ≤ x) 26 12),
  (12, so_iload 2 13),
  (13, so_aload 0 14),
  (14, so_iload 3 15),
  (15, so_stat ct_X5_tablePart 2 0 0 18),
  (18, so_bin (fun x y => x + y) 19),
  (19, so_istore 2 20),
  (20, so_iinc 3 (1) 23),
  (23, so_goto 4),
  (26, so_iload 2 27),
  (27, so_if (fun x => x = 0) 30 31),
  (30, so_ret),
  (31, so_aload 1 32),
  (32, so_virt [(0, ct_X0_size)] 0 0 0 35),
  (35, so_istore 3 36),
  (36, so_aload 1 37),
  (37, so_push (.inr (.inr 2)) 39),
  (39, so_virt [(0, ct_X0_addText)] 1 0 0 42),
  (42, so_aload 1 43),
  (43, so_iload 3 44),
  (44, so_push (.inl (8)) 46),
  (46, so_bin (fun x y => x + y) 47),
  (47, so_virt [(0, ct_X0_addBlanksTo)] 1 0 0 50),
  (50, so_iload 2 51),
  (51, so_aload 1 52),
  (52, so_stat ct_X5_packSize 2 0 0 55),
  (55, so_push (.inl (0)) 56),
  (56, so_istore 4 58),
  (58, so_iload 4 60),
  (60, so_aload 0 61),
  (61, so_virt [(3, ct_X8_count)] 0 0 0 64),
  (64, so_cmp (fun x y => y ≤ x) 95 67),
  (67, so_aload 0 68),
  (68, so_iload 4 70),
  (70, so_stat ct_X5_tablePart 2 0 0 73),
  (73, so_if (fun x => x ≤ 0) 89 76),
  (76, so_aload 1 77),
  (77, so_aload 0 78),
  (78, so_iload 4 80),
  (80, so_virt [(0, ct_X0_addName)] 2 0 0 83),
  (83, so_aload 1 84),
  (84, so_push (.inr (.inr 4)) 86),
  (86, so_virt [(0, ct_X0_addText)] 1 0 0 89),
  (89, so_iinc 4 (1) 92),
  (92, so_goto 58),
  (95, so_iload 2 96),
  (96, so_aload 1 97),
  (97, so_stat ct_X5_packPad 2 0 0 100),
  (100, so_ret)]
def ct_X5_packTable : sa_C := sa_ct tb_X5_packTable 5
set_option maxRecDepth 100000 in
set_option maxHeartbeats 4000000 in
theorem met_X5_packTable : sa_Met sa_EX yX5_packTable cX5_packTable 5 none 6 129 ct_X5_packTable := sa_met sa_EX_ok (by decide +kernel) ⟨ss_iconst dX5_packTable_0 (by decide) rfl,
  ss_istore_n rfl dX5_packTable_1 (by decide) rfl,
  ss_iconst dX5_packTable_2 (by decide) rfl,
  ss_istore_n rfl dX5_packTable_3 (by decide) rfl,
  ss_iload_n rfl dX5_packTable_4 rfl,
  ss_aload_n rfl dX5_packTable_5 rfl,
  ss_virt dX5_packTable_6 (sa_lc ⟨_, _, _, yX8_count, _, _, _, _, _, rfl, cal_X8_count _ _ (by decide) (by decide), wt_1_205, Or.inr ⟨⟨RX3, "count", "()I"⟩, RX8, wt_2_190, wt_1_202, wt_1_204, wn_1_203, ⟨by decide, by decide⟩, by decide +kernel⟩⟩ sa_l0) rfl,
  ss_icmp_ge (tgt := 26) dX5_packTable_9 (by decide) rfl,
  ss_iload_n rfl dX5_packTable_12 rfl,
  ss_aload_n rfl dX5_packTable_13 rfl,
  ss_iload_n rfl dX5_packTable_14 rfl,
  ss_stat dX5_packTable_15 (cal_X5_tablePart _ _ (by decide) (by decide)) wt_2_191 wt_2_192 rfl,
  ss_iadd dX5_packTable_18 rfl,
  ss_istore_n rfl dX5_packTable_19 (by decide) rfl,
  ss_iinc dX5_packTable_20 (by decide) (by decide) rfl,
  ss_goto (tgt := 4) dX5_packTable_23 (by decide),
  ss_iload_n rfl dX5_packTable_26 rfl,
  ss_if_ne (tgt := 31) dX5_packTable_27 (by decide) rfl,
  ss_ret dX5_packTable_30 rfl trivial,
  ss_aload_n rfl dX5_packTable_31 rfl,
  ss_virt dX5_packTable_32 (sa_lc ⟨_, _, _, yX0_size, _, _, _, _, _, rfl, cal_X0_size _ _ (by decide) (by decide), wt_2_196, Or.inl ⟨wt_2_195, wt_2_197⟩⟩ sa_l0) rfl,
  ss_istore_n rfl dX5_packTable_35 (by decide) rfl,
  ss_aload_n rfl dX5_packTable_36 rfl,
  ss_ldcS dX5_packTable_37 ws_2 rfl,
  ss_virt dX5_packTable_39 (sa_lc ⟨_, _, _, yX0_addText, _, _, _, _, _, rfl, cal_X0_addText _ _ (by decide) (by decide), wt_2_178, Or.inl ⟨wt_2_177, wt_2_179⟩⟩ sa_l0) rfl,
  ss_aload_n rfl dX5_packTable_42 rfl,
  ss_iload_n rfl dX5_packTable_43 rfl,
  ss_bipush dX5_packTable_44 (by decide) rfl,
  ss_iadd dX5_packTable_46 rfl,
  ss_virt dX5_packTable_47 (sa_lc ⟨_, _, _, yX0_addBlanksTo, _, _, _, _, _, rfl, cal_X0_addBlanksTo _ _ (by decide) (by decide), wt_2_201, Or.inl ⟨wt_2_200, wt_2_202⟩⟩ sa_l0) rfl,
  ss_iload_n rfl dX5_packTable_50 rfl,
  ss_aload_n rfl dX5_packTable_51 rfl,
  ss_stat dX5_packTable_52 (cal_X5_packSize _ _ (by decide) (by decide)) wt_2_204 wt_2_205 rfl,
  ss_iconst dX5_packTable_55 (by decide) rfl,
  ss_istore dX5_packTable_56 (by decide) rfl,
  ss_iload dX5_packTable_58 rfl,
  ss_aload_n rfl dX5_packTable_60 rfl,
  ss_virt dX5_packTable_61 (sa_lc ⟨_, _, _, yX8_count, _, _, _, _, _, rfl, cal_X8_count _ _ (by decide) (by decide), wt_1_205, Or.inr ⟨⟨RX3, "count", "()I"⟩, RX8, wt_2_190, wt_1_202, wt_1_204, wn_1_203, ⟨by decide, by decide⟩, by decide +kernel⟩⟩ sa_l0) rfl,
  ss_icmp_ge (tgt := 95) dX5_packTable_64 (by decide) rfl,
  ss_aload_n rfl dX5_packTable_67 rfl,
  ss_iload dX5_packTable_68 rfl,
  ss_stat dX5_packTable_70 (cal_X5_tablePart _ _ (by decide) (by decide)) wt_2_191 wt_2_192 rfl,
  ss_if_le (tgt := 89) dX5_packTable_73 (by decide) rfl,
  ss_aload_n rfl dX5_packTable_76 rfl,
  ss_aload_n rfl dX5_packTable_77 rfl,
  ss_iload dX5_packTable_78 rfl,
  ss_virt dX5_packTable_80 (sa_lc ⟨_, _, _, yX0_addName, _, _, _, _, _, rfl, cal_X0_addName _ _ (by decide) (by decide), wt_2_213, Or.inl ⟨wt_2_212, wt_2_214⟩⟩ sa_l0) rfl,
  ss_aload_n rfl dX5_packTable_83 rfl,
  ss_ldcS dX5_packTable_84 ws_4 rfl,
  ss_virt dX5_packTable_86 (sa_lc ⟨_, _, _, yX0_addText, _, _, _, _, _, rfl, cal_X0_addText _ _ (by decide) (by decide), wt_2_178, Or.inl ⟨wt_2_177, wt_2_179⟩⟩ sa_l0) rfl,
  ss_iinc dX5_packTable_89 (by decide) (by decide) rfl,
  ss_goto (tgt := 58) dX5_packTable_92 (by decide),
  ss_iload_n rfl dX5_packTable_95 rfl,
  ss_aload_n rfl dX5_packTable_96 rfl,
  ss_stat dX5_packTable_97 (cal_X5_packPad _ _ (by decide) (by decide)) wt_2_224 wt_2_225 rfl,
  ss_ret dX5_packTable_100 rfl trivial,
  trivial⟩
set_option maxRecDepth 100000 in
theorem tm_X5_packTable : sa_tm tb_X5_packTable := ⟨sm_push, sm_istore, sm_push, sm_istore, sm_iload, sm_aload, (sm_virt (sa_lc mo_X8_count sa_l0)), sm_cmp, sm_iload, sm_aload, sm_iload, (sm_stat mo_X5_tablePart), sm_bin, sm_istore, sm_iinc, sm_goto, sm_iload, sm_if, sm_ret, sm_aload, (sm_virt (sa_lc mo_X0_size sa_l0)), sm_istore, sm_aload, sm_push, (sm_virt (sa_lc mo_X0_addText sa_l0)), sm_aload, sm_iload, sm_push, sm_bin, (sm_virt (sa_lc mo_X0_addBlanksTo sa_l0)), sm_iload, sm_aload, (sm_stat mo_X5_packSize), sm_push, sm_istore, sm_iload, sm_aload, (sm_virt (sa_lc mo_X8_count sa_l0)), sm_cmp, sm_aload, sm_iload, (sm_stat mo_X5_tablePart), sm_if, sm_aload, sm_aload, sm_iload, (sm_virt (sa_lc mo_X0_addName sa_l0)), sm_aload, sm_push, (sm_virt (sa_lc mo_X0_addText sa_l0)), sm_iinc, sm_goto, sm_iload, sm_aload, (sm_stat mo_X5_packPad), sm_ret, trivial⟩
theorem mo_X5_packTable : sa_mc ct_X5_packTable := sa_mct tm_X5_packTable
theorem cal_X5_packTable (fr lr : Nat) (h1 : 6 + 1 ≤ fr) (h2 : 8 + (5 + 11) + 129 ≤ lr) : sa_cal sa_EX yX5_packTable cX5_packTable 5 none 6 129 ct_X5_packTable 2 2 fr lr := ⟨met_X5_packTable, wt_2_189, wt_1_10, ⟨by decide +kernel, by decide +kernel, by decide +kernel⟩, by decide, h1, h2⟩
def tb_X5_packName : sa_T := [(0, so_aload 3 1),
  (1, so_virt [(0, ct_X0_size)] 0 0 0 4),
  (4, so_istore 4 6),
  (6, so_aload 0 7),
  (7, so_iload 1 8),
  (8, so_stat ct_X5_tablePart 2 0 0 11),
  (11, so_if (fun x => x ≤ 0) 28 14),
  (14, so_aload 3 15),
  (15, so_push (.inl (47)) 17),
  (17, so_virt [(0, ct_X0_add)] 1 0 0 20),
  (20, so_aload 3 21),
  (21, so_iload 2 22),
  (22, so_virt [(0, ct_X0_addFigures)] 1 0 0 25),
  (25, so_goto 40),
  (28, so_aload 3 29),
  (29, so_aload 0 30),
  (30, so_iload 1 31),
  (31, so_virt [(0, ct_X0_addName)] 2 0 0 34),
  (34, so_aload 3 35),
  (35, so_push (.inl (47)) 37),
  (37, so_virt [(0, ct_X0_add)] 1 0 0 40),
  (40, so_aload 3 41),
  (41, so_iload 4 43),
  (43, so_push (.inl (8)) 45),
  (45, so_bin (fun x y => x + y) 46),
  (46, so_virt [(0, ct_X0_addBlanksTo)] 1 0 0 49),
  (49, so_ret)]
def ct_X5_packName : sa_C := sa_ct tb_X5_packName 5
set_option maxRecDepth 100000 in
set_option maxHeartbeats 4000000 in
theorem met_X5_packName : sa_Met sa_EX yX5_packName cX5_packName 5 none 4 89 ct_X5_packName := sa_met sa_EX_ok (by decide +kernel) ⟨ss_aload_n rfl dX5_packName_0 rfl,
  ss_virt dX5_packName_1 (sa_lc ⟨_, _, _, yX0_size, _, _, _, _, _, rfl, cal_X0_size _ _ (by decide) (by decide), wt_2_196, Or.inl ⟨wt_2_195, wt_2_197⟩⟩ sa_l0) rfl,
  ss_istore dX5_packName_4 (by decide) rfl,
  ss_aload_n rfl dX5_packName_6 rfl,
  ss_iload_n rfl dX5_packName_7 rfl,
  ss_stat dX5_packName_8 (cal_X5_tablePart _ _ (by decide) (by decide)) wt_2_191 wt_2_192 rfl,
  ss_if_le (tgt := 28) dX5_packName_11 (by decide) rfl,
  ss_aload_n rfl dX5_packName_14 rfl,
  ss_bipush dX5_packName_15 (by decide) rfl,
  ss_virt dX5_packName_17 (sa_lc ⟨_, _, _, yX0_add, _, _, _, _, _, rfl, cal_X0_add _ _ (by decide) (by decide), wt_2_184, Or.inl ⟨wt_2_230, wt_2_185⟩⟩ sa_l0) rfl,
  ss_aload_n rfl dX5_packName_20 rfl,
  ss_iload_n rfl dX5_packName_21 rfl,
  ss_virt dX5_packName_22 (sa_lc ⟨_, _, _, yX0_addFigures, _, _, _, _, _, rfl, cal_X0_addFigures _ _ (by decide) (by decide), wt_2_208, Or.inl ⟨wt_2_207, wt_2_209⟩⟩ sa_l0) rfl,
  ss_goto (tgt := 40) dX5_packName_25 (by decide),
  ss_aload_n rfl dX5_packName_28 rfl,
  ss_aload_n rfl dX5_packName_29 rfl,
  ss_iload_n rfl dX5_packName_30 rfl,
  ss_virt dX5_packName_31 (sa_lc ⟨_, _, _, yX0_addName, _, _, _, _, _, rfl, cal_X0_addName _ _ (by decide) (by decide), wt_2_213, Or.inl ⟨wt_2_212, wt_2_214⟩⟩ sa_l0) rfl,
  ss_aload_n rfl dX5_packName_34 rfl,
  ss_bipush dX5_packName_35 (by decide) rfl,
  ss_virt dX5_packName_37 (sa_lc ⟨_, _, _, yX0_add, _, _, _, _, _, rfl, cal_X0_add _ _ (by decide) (by decide), wt_2_184, Or.inl ⟨wt_2_230, wt_2_185⟩⟩ sa_l0) rfl,
  ss_aload_n rfl dX5_packName_40 rfl,
  ss_iload dX5_packName_41 rfl,
  ss_bipush dX5_packName_43 (by decide) rfl,
  ss_iadd dX5_packName_45 rfl,
  ss_virt dX5_packName_46 (sa_lc ⟨_, _, _, yX0_addBlanksTo, _, _, _, _, _, rfl, cal_X0_addBlanksTo _ _ (by decide) (by decide), wt_2_201, Or.inl ⟨wt_2_200, wt_2_202⟩⟩ sa_l0) rfl,
  ss_ret dX5_packName_49 rfl trivial,
  trivial⟩
set_option maxRecDepth 100000 in
theorem tm_X5_packName : sa_tm tb_X5_packName := ⟨sm_aload, (sm_virt (sa_lc mo_X0_size sa_l0)), sm_istore, sm_aload, sm_iload, (sm_stat mo_X5_tablePart), sm_if, sm_aload, sm_push, (sm_virt (sa_lc mo_X0_add sa_l0)), sm_aload, sm_iload, (sm_virt (sa_lc mo_X0_addFigures sa_l0)), sm_goto, sm_aload, sm_aload, sm_iload, (sm_virt (sa_lc mo_X0_addName sa_l0)), sm_aload, sm_push, (sm_virt (sa_lc mo_X0_add sa_l0)), sm_aload, sm_iload, sm_push, sm_bin, (sm_virt (sa_lc mo_X0_addBlanksTo sa_l0)), sm_ret, trivial⟩
theorem mo_X5_packName : sa_mc ct_X5_packName := sa_mct tm_X5_packName
theorem cal_X5_packName (fr lr : Nat) (h1 : 4 + 1 ≤ fr) (h2 : 8 + (5 + 11) + 89 ≤ lr) : sa_cal sa_EX yX5_packName cX5_packName 5 none 4 89 ct_X5_packName 4 4 fr lr := ⟨met_X5_packName, wt_2_233, wt_1_10, ⟨by decide +kernel, by decide +kernel, by decide +kernel⟩, by decide, h1, h2⟩
def tb_X5_pack : sa_T := [(0, so_aload 2 1),
  (1, so_push (.inr (.inr 1)) 3),
  (3, so_virt [(0, ct_X0_addText)] 1 0 0 6),
  (6, so_aload 1 7),
  (7, so_aload 2 8),
  (8, so_stat ct_X5_packTable 2 0 0 11),
  (11, so_push (.inl (0)) 12),
  (12, so_istore 3 13),
  (13, so_push (.inl (0)) 14),
  (14, so_istore 4 16),
  (16, so_iload 4 18),
  (18, so_aload 1 19),
  (19, so_virt [(3, ct_X8_count)] 0 0 0 22),
  (22, so_cmp (fun x y => y ≤ x) 75 25),
  (25, so_aload 1 26),
  (26, so_iload 4 28),
  (28, so_iload 3 29),
  (29, so_aload 2 30),
  (30, so_stat ct_X5_packName 4 0 0 33),
  (33, so_aload 1 34),
  (34, so_iload 4 36),
  (36, so_virt [(3, ct_X8_contentsLength)] 1 0 0 39),
  (39, so_aload 2 40),
  (40, so_stat ct_X5_packSize 2 0 0 43),
  (43, so_aload 2 44),
  (44, so_aload 1 45),
  (45, so_iload 4 47),
  (47, so_virt [(0, ct_X0_addContents)] 2 0 0 50),
  (50, so_aload 1 51),
  (51, so_iload 4 53),
  (53, so_virt [(3, ct_X8_contentsLength)] 1 0 0 56),
  (56, so_aload 2 57),
  (57, so_stat ct_X5_packPad 2 0 0 60),
  (60, so_iload 3 61),
  (61, so_aload 1 62),
  (62, so_iload 4 64),
  (64, so_stat ct_X5_tablePart 2 0 0 67),
  (67, so_bin (fun x y => x + y) 68),
  (68, so_istore 3 69),
  (69, so_iinc 4 (1) 72),
  (72, so_goto 16),
  (75, so_ret)]
def ct_X5_pack : sa_C := sa_ct tb_X5_pack 5
set_option maxRecDepth 100000 in
set_option maxHeartbeats 4000000 in
theorem met_X5_pack : sa_Met sa_EX yX5_pack cX5_pack 5 none 7 153 ct_X5_pack := sa_met sa_EX_ok (by decide +kernel) ⟨ss_aload_n rfl dX5_pack_0 rfl,
  ss_ldcS dX5_pack_1 ws_1 rfl,
  ss_virt dX5_pack_3 (sa_lc ⟨_, _, _, yX0_addText, _, _, _, _, _, rfl, cal_X0_addText _ _ (by decide) (by decide), wt_2_178, Or.inl ⟨wt_2_177, wt_2_179⟩⟩ sa_l0) rfl,
  ss_aload_n rfl dX5_pack_6 rfl,
  ss_aload_n rfl dX5_pack_7 rfl,
  ss_stat dX5_pack_8 (cal_X5_packTable _ _ (by decide) (by decide)) wt_2_187 wt_2_188 rfl,
  ss_iconst dX5_pack_11 (by decide) rfl,
  ss_istore_n rfl dX5_pack_12 (by decide) rfl,
  ss_iconst dX5_pack_13 (by decide) rfl,
  ss_istore dX5_pack_14 (by decide) rfl,
  ss_iload dX5_pack_16 rfl,
  ss_aload_n rfl dX5_pack_18 rfl,
  ss_virt dX5_pack_19 (sa_lc ⟨_, _, _, yX8_count, _, _, _, _, _, rfl, cal_X8_count _ _ (by decide) (by decide), wt_1_205, Or.inr ⟨⟨RX3, "count", "()I"⟩, RX8, wt_2_190, wt_1_202, wt_1_204, wn_1_203, ⟨by decide, by decide⟩, by decide +kernel⟩⟩ sa_l0) rfl,
  ss_icmp_ge (tgt := 75) dX5_pack_22 (by decide) rfl,
  ss_aload_n rfl dX5_pack_25 rfl,
  ss_iload dX5_pack_26 rfl,
  ss_iload_n rfl dX5_pack_28 rfl,
  ss_aload_n rfl dX5_pack_29 rfl,
  ss_stat dX5_pack_30 (cal_X5_packName _ _ (by decide) (by decide)) wt_2_231 wt_2_232 rfl,
  ss_aload_n rfl dX5_pack_33 rfl,
  ss_iload dX5_pack_34 rfl,
  ss_virt dX5_pack_36 (sa_lc ⟨_, _, _, yX8_contentsLength, _, _, _, _, _, rfl, cal_X8_contentsLength _ _ (by decide) (by decide), wt_2_51, Or.inr ⟨⟨RX3, "contentsLength", "(I)I"⟩, RX8, wt_2_234, wt_2_48, wt_2_50, wn_2_49, ⟨by decide, by decide⟩, by decide +kernel⟩⟩ sa_l0) rfl,
  ss_aload_n rfl dX5_pack_39 rfl,
  ss_stat dX5_pack_40 (cal_X5_packSize _ _ (by decide) (by decide)) wt_2_204 wt_2_205 rfl,
  ss_aload_n rfl dX5_pack_43 rfl,
  ss_aload_n rfl dX5_pack_44 rfl,
  ss_iload dX5_pack_45 rfl,
  ss_virt dX5_pack_47 (sa_lc ⟨_, _, _, yX0_addContents, _, _, _, _, _, rfl, cal_X0_addContents _ _ (by decide) (by decide), wt_2_236, Or.inl ⟨wt_2_235, wt_2_237⟩⟩ sa_l0) rfl,
  ss_aload_n rfl dX5_pack_50 rfl,
  ss_iload dX5_pack_51 rfl,
  ss_virt dX5_pack_53 (sa_lc ⟨_, _, _, yX8_contentsLength, _, _, _, _, _, rfl, cal_X8_contentsLength _ _ (by decide) (by decide), wt_2_51, Or.inr ⟨⟨RX3, "contentsLength", "(I)I"⟩, RX8, wt_2_234, wt_2_48, wt_2_50, wn_2_49, ⟨by decide, by decide⟩, by decide +kernel⟩⟩ sa_l0) rfl,
  ss_aload_n rfl dX5_pack_56 rfl,
  ss_stat dX5_pack_57 (cal_X5_packPad _ _ (by decide) (by decide)) wt_2_224 wt_2_225 rfl,
  ss_iload_n rfl dX5_pack_60 rfl,
  ss_aload_n rfl dX5_pack_61 rfl,
  ss_iload dX5_pack_62 rfl,
  ss_stat dX5_pack_64 (cal_X5_tablePart _ _ (by decide) (by decide)) wt_2_191 wt_2_192 rfl,
  ss_iadd dX5_pack_67 rfl,
  ss_istore_n rfl dX5_pack_68 (by decide) rfl,
  ss_iinc dX5_pack_69 (by decide) (by decide) rfl,
  ss_goto (tgt := 16) dX5_pack_72 (by decide),
  ss_ret dX5_pack_75 rfl trivial,
  trivial⟩
set_option maxRecDepth 100000 in
theorem tm_X5_pack : sa_tm tb_X5_pack := ⟨sm_aload, sm_push, (sm_virt (sa_lc mo_X0_addText sa_l0)), sm_aload, sm_aload, (sm_stat mo_X5_packTable), sm_push, sm_istore, sm_push, sm_istore, sm_iload, sm_aload, (sm_virt (sa_lc mo_X8_count sa_l0)), sm_cmp, sm_aload, sm_iload, sm_iload, sm_aload, (sm_stat mo_X5_packName), sm_aload, sm_iload, (sm_virt (sa_lc mo_X8_contentsLength sa_l0)), sm_aload, (sm_stat mo_X5_packSize), sm_aload, sm_aload, sm_iload, (sm_virt (sa_lc mo_X0_addContents sa_l0)), sm_aload, sm_iload, (sm_virt (sa_lc mo_X8_contentsLength sa_l0)), sm_aload, (sm_stat mo_X5_packPad), sm_iload, sm_aload, sm_iload, (sm_stat mo_X5_tablePart), sm_bin, sm_istore, sm_iinc, sm_goto, sm_ret, trivial⟩
theorem mo_X5_pack : sa_mc ct_X5_pack := sa_mct tm_X5_pack
theorem cal_X5_pack (fr lr : Nat) (h1 : 7 + 1 ≤ fr) (h2 : 8 + (5 + 11) + 153 ≤ lr) : sa_cal sa_EX yX5_pack cX5_pack 5 none 7 153 ct_X5_pack 2 3 fr lr := ⟨met_X5_pack, wt_2_175, wt_1_10, ⟨by decide +kernel, by decide +kernel, by decide +kernel⟩, by decide, h1, h2⟩
def tb_X10_isNameByte : sa_T := [(0, so_iload 0 1),
  (1, so_push (.inl (33)) 3),
  (3, so_cmp (fun x y => x < y) 22 6),
  (6, so_iload 0 7),
  (7, so_push (.inl (126)) 9),
  (9, so_cmp (fun x y => y < x) 22 12),
  (12, so_iload 0 13),
  (13, so_push (.inl (47)) 15),
  (15, so_cmp (fun x y => x = y) 22 18),
  (18, so_push (.inl (1)) 19),
  (19, so_goto 23),
  (22, so_push (.inl (0)) 23),
  (23, so_zret)]
def ct_X10_isNameByte : sa_C := sa_ct tb_X10_isNameByte 1
set_option maxRecDepth 100000 in
set_option maxHeartbeats 4000000 in
theorem met_X10_isNameByte : sa_Met sa_EX yX10_isNameByte cX10_isNameByte 1 (some Jvm.ClassFile.FieldType.boolean) 0 0 ct_X10_isNameByte := sa_met sa_EX_ok (by decide +kernel) ⟨ss_iload_n rfl dX10_isNameByte_0 rfl,
  ss_bipush dX10_isNameByte_1 (by decide) rfl,
  ss_icmp_lt (tgt := 22) dX10_isNameByte_3 (by decide) rfl,
  ss_iload_n rfl dX10_isNameByte_6 rfl,
  ss_bipush dX10_isNameByte_7 (by decide) rfl,
  ss_icmp_gt (tgt := 22) dX10_isNameByte_9 (by decide) rfl,
  ss_iload_n rfl dX10_isNameByte_12 rfl,
  ss_bipush dX10_isNameByte_13 (by decide) rfl,
  ss_icmp_eq (tgt := 22) dX10_isNameByte_15 (by decide) rfl,
  ss_iconst dX10_isNameByte_18 (by decide) rfl,
  ss_goto (tgt := 23) dX10_isNameByte_19 (by decide),
  ss_iconst dX10_isNameByte_22 (by decide) rfl,
  ss_zret dX10_isNameByte_23 rfl,
  trivial⟩
set_option maxRecDepth 100000 in
theorem tm_X10_isNameByte : sa_tm tb_X10_isNameByte := ⟨sm_iload, sm_push, sm_cmp, sm_iload, sm_push, sm_cmp, sm_iload, sm_push, sm_cmp, sm_push, sm_goto, sm_push, sm_zret, trivial⟩
theorem mo_X10_isNameByte : sa_mc ct_X10_isNameByte := sa_mct tm_X10_isNameByte
theorem cal_X10_isNameByte (fr lr : Nat) (h1 : 0 + 1 ≤ fr) (h2 : 8 + (1 + 11) + 0 ≤ lr) : sa_cal sa_EX yX10_isNameByte cX10_isNameByte 1 (some Jvm.ClassFile.FieldType.boolean) 0 0 ct_X10_isNameByte 1 1 fr lr := ⟨met_X10_isNameByte, wt_2_19, wt_1_1, ⟨by decide +kernel, by decide +kernel, by decide +kernel⟩, by decide, h1, h2⟩
def tb_X8_addNameByte : sa_T := [(0, so_aload 0 1),
  (1, so_get [2, 3] 0 4),
  (4, so_iload 1 5),
  (5, so_virt [(7, ct_X9_add)] 1 0 0 8),
  (8, so_ret)]
def ct_X8_addNameByte : sa_C := sa_ct tb_X8_addNameByte 2
set_option maxRecDepth 100000 in
set_option maxHeartbeats 4000000 in
theorem met_X8_addNameByte : sa_Met sa_EX yX8_addNameByte cX8_addNameByte 2 none 1 21 ct_X8_addNameByte := sa_met sa_EX_ok (by decide +kernel) ⟨ss_aload_n rfl dX8_addNameByte_0 rfl,
  ss_get dX8_addNameByte_1 (sa_lc ⟨_, _, _, rfl, by decide, inX2, wt_1_63⟩ (sa_lc ⟨_, _, _, rfl, by decide, inX3, wt_1_63⟩ sa_l0)) rfl,
  ss_iload_n rfl dX8_addNameByte_4 rfl,
  ss_virt dX8_addNameByte_5 (sa_lc ⟨_, _, _, yX9_add, _, _, _, _, _, rfl, cal_X9_add _ _ (by decide) (by decide), wt_2_28, Or.inl ⟨wt_2_27, wt_2_29⟩⟩ sa_l0) rfl,
  ss_ret dX8_addNameByte_8 rfl trivial,
  trivial⟩
set_option maxRecDepth 100000 in
theorem tm_X8_addNameByte : sa_tm tb_X8_addNameByte := ⟨sm_aload, sm_get, sm_iload, (sm_virt (sa_lc mo_X9_add sa_l0)), sm_ret, trivial⟩
theorem mo_X8_addNameByte : sa_mc ct_X8_addNameByte := sa_mct tm_X8_addNameByte
theorem cal_X8_addNameByte (fr lr : Nat) (h1 : 1 + 1 ≤ fr) (h2 : 8 + (2 + 11) + 21 ≤ lr) : sa_cal sa_EX yX8_addNameByte cX8_addNameByte 2 none 1 21 ct_X8_addNameByte 1 2 fr lr := ⟨met_X8_addNameByte, wt_2_26, wt_1_2, ⟨by decide +kernel, by decide +kernel, by decide +kernel⟩, by decide, h1, h2⟩
def tb_X5_unpackShortName : sa_T := [(0, so_push (.inl (0)) 1),
  (1, so_istore 2 2),
  (2, so_iload 2 3),
  (3, so_push (.inl (7)) 5),
  (5, so_cmp (fun x y => y ≤ x) 32 8),
  (8, so_aload 0 9),
  (9, so_virt [(1, ct_X1_peek)] 0 0 0 12),
  (12, so_stat ct_X10_isNameByte 1 0 0 15),
  (15, so_if (fun x => x = 0) 32 18),
  (18, so_aload 1 19),
  (19, so_aload 0 20),
  (20, so_virt [(1, ct_X1_take)] 0 0 0 23),
  (23, so_virt [(2, ct_X8_addNameByte)] 1 0 0 26),
  (26, so_iinc 2 (1) 29),
  (29, so_goto 2),
  (32, so_aload 0 33),
  (33, so_push (.inl (47)) 35),
  (35, so_virt [(1, ct_X1_expect)] 1 0 0 38),
  (38, so_zret)]
def ct_X5_unpackShortName : sa_C := sa_ct tb_X5_unpackShortName 3
set_option maxRecDepth 100000 in
set_option maxHeartbeats 4000000 in
theorem met_X5_unpackShortName : sa_Met sa_EX yX5_unpackShortName cX5_unpackShortName 3 (some Jvm.ClassFile.FieldType.boolean) 3 63 ct_X5_unpackShortName := sa_met sa_EX_ok (by decide +kernel) ⟨ss_iconst dX5_unpackShortName_0 (by decide) rfl,
  ss_istore_n rfl dX5_unpackShortName_1 (by decide) rfl,
  ss_iload_n rfl dX5_unpackShortName_2 rfl,
  ss_bipush dX5_unpackShortName_3 (by decide) rfl,
  ss_icmp_ge (tgt := 32) dX5_unpackShortName_5 (by decide) rfl,
  ss_aload_n rfl dX5_unpackShortName_8 rfl,
  ss_virt dX5_unpackShortName_9 (sa_lc ⟨_, _, _, yX1_peek, _, _, _, _, _, rfl, cal_X1_peek _ _ (by decide) (by decide), wt_3_198, Or.inl ⟨wt_3_197, wt_3_199⟩⟩ sa_l0) rfl,
  ss_statN dX5_unpackShortName_12 (cal_X10_isNameByte _ _ (by decide) (by decide)) wn_3_204 wt_2_18 rfl,
  ss_if_eq (tgt := 32) dX5_unpackShortName_15 (by decide) rfl,
  ss_aload_n rfl dX5_unpackShortName_18 rfl,
  ss_aload_n rfl dX5_unpackShortName_19 rfl,
  ss_virt dX5_unpackShortName_20 (sa_lc ⟨_, _, _, yX1_take, _, _, _, _, _, rfl, cal_X1_take _ _ (by decide) (by decide), wt_3_206, Or.inl ⟨wt_3_205, wt_3_207⟩⟩ sa_l0) rfl,
  ss_virt dX5_unpackShortName_23 (sa_lc ⟨_, _, _, yX8_addNameByte, _, _, _, _, _, rfl, cal_X8_addNameByte _ _ (by decide) (by decide), wt_2_25, Or.inr ⟨⟨RX2, "addNameByte", "(I)V"⟩, RX8, wt_3_209, wt_3_210, wt_3_211, wn_2_23, ⟨by decide, by decide⟩, by decide +kernel⟩⟩ sa_l0) rfl,
  ss_iinc dX5_unpackShortName_26 (by decide) (by decide) rfl,
  ss_goto (tgt := 2) dX5_unpackShortName_29 (by decide),
  ss_aload_n rfl dX5_unpackShortName_32 rfl,
  ss_bipush dX5_unpackShortName_33 (by decide) rfl,
  ss_virt dX5_unpackShortName_35 (sa_lc ⟨_, _, _, yX1_expect, _, _, _, _, _, rfl, cal_X1_expect _ _ (by decide) (by decide), wt_3_151, Or.inl ⟨wt_3_212, wt_3_152⟩⟩ sa_l0) rfl,
  ss_zret dX5_unpackShortName_38 rfl,
  trivial⟩
set_option maxRecDepth 100000 in
theorem tm_X5_unpackShortName : sa_tm tb_X5_unpackShortName := ⟨sm_push, sm_istore, sm_iload, sm_push, sm_cmp, sm_aload, (sm_virt (sa_lc mo_X1_peek sa_l0)), (sm_stat mo_X10_isNameByte), sm_if, sm_aload, sm_aload, (sm_virt (sa_lc mo_X1_take sa_l0)), (sm_virt (sa_lc mo_X8_addNameByte sa_l0)), sm_iinc, sm_goto, sm_aload, sm_push, (sm_virt (sa_lc mo_X1_expect sa_l0)), sm_zret, trivial⟩
theorem mo_X5_unpackShortName : sa_mc ct_X5_unpackShortName := sa_mct tm_X5_unpackShortName
theorem cal_X5_unpackShortName (fr lr : Nat) (h1 : 3 + 1 ≤ fr) (h2 : 8 + (3 + 11) + 63 ≤ lr) : sa_cal sa_EX yX5_unpackShortName cX5_unpackShortName 3 (some Jvm.ClassFile.FieldType.boolean) 3 63 ct_X5_unpackShortName 2 2 fr lr := ⟨met_X5_unpackShortName, wt_3_203, wt_1_10, ⟨by decide +kernel, by decide +kernel, by decide +kernel⟩, by decide, h1, h2⟩
