def tb_X0_init : sa_T := [(0, so_aload 0 1),
  (1, so_obj 4),
  (4, so_aload 0 5),
  (5, so_push (.inl (0)) 6),
  (6, so_iload 1 7),
  (7, so_bin8 (fun x y => if x < y then y else x) 10),
  (10, so_newa 12),
  (12, so_put [0] 0 1 15),
  (15, so_ret)]
def ct_X0_init : sa_C := sa_ct tb_X0_init 2
set_option maxRecDepth 100000 in
set_option maxHeartbeats 4000000 in
theorem met_X0_init : sa_Met sa_EX yX0_init cX0_init 2 none 1 21 ct_X0_init := sa_met sa_EX_ok (by decide +kernel) ⟨ss_aload_n rfl dX0_init_0 rfl,
  ss_obj dX0_init_1 wt_1_77 wt_1_28 wt_1_29 (by decide) (by decide) rfl,
  ss_aload_n rfl dX0_init_4 rfl,
  ss_iconst dX0_init_5 (by decide) rfl,
  ss_iload_n rfl dX0_init_6 rfl,
  ss_max dX0_init_7 wt_1_78 wt_1_46 wt_1_5 wt_1_47 (by decide) (by decide) rfl,
  ss_newa dX0_init_10 wt_1_61 rfl,
  ss_put dX0_init_12 (sa_lc ⟨⟨_, _, _, rfl, by decide, inX0, wt_1_79⟩, ⟨_, _, _, _, rfl, tyX0_ok, nmX0⟩, ⟨_, _, _, _, rfl, tyX0_ok 0 (by decide), Or.inr ⟨_, rfl⟩⟩, fun q h => by cases h; exact Or.inr ⟨rfl, rfl, rfl⟩⟩ sa_l0) rfl,
  ss_ret dX0_init_15 rfl trivial,
  trivial⟩
set_option maxRecDepth 100000 in
theorem tm_X0_init : sa_tm tb_X0_init := ⟨sm_aload, sm_obj, sm_aload, sm_push, sm_iload, sm_bin8, sm_newa, sm_put, sm_ret, trivial⟩
theorem mo_X0_init : sa_mc ct_X0_init := sa_mct tm_X0_init
theorem cal_X0_init (fr lr : Nat) (h1 : 1 + 1 ≤ fr) (h2 : 8 + (2 + 11) + 21 ≤ lr) : sa_cal sa_EX yX0_init cX0_init 2 none 1 21 ct_X0_init 1 2 fr lr := ⟨met_X0_init, wt_1_76, wt_1_6, ⟨by decide +kernel, by decide +kernel, by decide +kernel⟩, by decide, h1, h2⟩
def tb_X0_size : sa_T := [(0, so_aload 0 1),
  (1, so_get [0] 1 4),
  (4, so_iret)]
def ct_X0_size : sa_C := sa_ct tb_X0_size 1
set_option maxRecDepth 100000 in
set_option maxHeartbeats 4000000 in
theorem met_X0_size : sa_Met sa_EX yX0_size cX0_size 1 (some Jvm.ClassFile.FieldType.int) 0 0 ct_X0_size := sa_met sa_EX_ok (by decide +kernel) ⟨ss_aload_n rfl dX0_size_0 rfl,
  ss_get dX0_size_1 (sa_lc ⟨_, _, _, rfl, by decide, inX0, wt_1_80⟩ sa_l0) rfl,
  ss_iret dX0_size_4 rfl,
  trivial⟩
set_option maxRecDepth 100000 in
theorem tm_X0_size : sa_tm tb_X0_size := ⟨sm_aload, sm_get, sm_iret, trivial⟩
theorem mo_X0_size : sa_mc ct_X0_size := sa_mct tm_X0_size
theorem cal_X0_size (fr lr : Nat) (h1 : 0 + 1 ≤ fr) (h2 : 8 + (1 + 11) + 0 ≤ lr) : sa_cal sa_EX yX0_size cX0_size 1 (some Jvm.ClassFile.FieldType.int) 0 0 ct_X0_size 0 1 fr lr := ⟨met_X0_size, wt_2_198, wt_1_6, ⟨by decide +kernel, by decide +kernel, by decide +kernel⟩, by decide, h1, h2⟩
def tb_X0_has : sa_T := [(0, so_iload 1 1),
  (1, so_if (fun x => x < 0) 16 4),
  (4, so_iload 1 5),
  (5, so_aload 0 6),
  (6, so_get [0] 1 9),
  (9, so_cmp (fun x y => y ≤ x) 16 12),
  (12, so_push (.inl (1)) 13),
  (13, so_goto 17),
  (16, so_push (.inl (0)) 17),
  (17, so_zret)]
def ct_X0_has : sa_C := sa_ct tb_X0_has 2
set_option maxRecDepth 100000 in
set_option maxHeartbeats 4000000 in
theorem met_X0_has : sa_Met sa_EX yX0_has cX0_has 2 (some Jvm.ClassFile.FieldType.boolean) 0 0 ct_X0_has := sa_met sa_EX_ok (by decide +kernel) ⟨ss_iload_n rfl dX0_has_0 rfl,
  ss_if_lt (tgt := 16) dX0_has_1 (by decide) rfl,
  ss_iload_n rfl dX0_has_4 rfl,
  ss_aload_n rfl dX0_has_5 rfl,
  ss_get dX0_has_6 (sa_lc ⟨_, _, _, rfl, by decide, inX0, wt_1_80⟩ sa_l0) rfl,
  ss_icmp_ge (tgt := 16) dX0_has_9 (by decide) rfl,
  ss_iconst dX0_has_12 (by decide) rfl,
  ss_goto (tgt := 17) dX0_has_13 (by decide),
  ss_iconst dX0_has_16 (by decide) rfl,
  ss_zret dX0_has_17 rfl,
  trivial⟩
set_option maxRecDepth 100000 in
theorem tm_X0_has : sa_tm tb_X0_has := ⟨sm_iload, sm_if, sm_iload, sm_aload, sm_get, sm_cmp, sm_push, sm_goto, sm_push, sm_zret, trivial⟩
theorem mo_X0_has : sa_mc ct_X0_has := sa_mct tm_X0_has
theorem cal_X0_has (fr lr : Nat) (h1 : 0 + 1 ≤ fr) (h2 : 8 + (2 + 11) + 0 ≤ lr) : sa_cal sa_EX yX0_has cX0_has 2 (some Jvm.ClassFile.FieldType.boolean) 0 0 ct_X0_has 1 2 fr lr := ⟨met_X0_has, wt_3_108, wt_1_6, ⟨by decide +kernel, by decide +kernel, by decide +kernel⟩, by decide, h1, h2⟩
def tb_X0_isFull : sa_T := [(0, so_aload 0 1),
  (1, so_get [0] 1 4),
  (4, so_aload 0 5),
  (5, so_get [0] 0 8),
  (8, so_alen 9),
  (9, so_cmp (fun x y => x < y) 16 12),
  (12, so_push (.inl (1)) 13),
  (13, so_goto 17),
  (16, so_push (.inl (0)) 17),
  (17, so_zret)]
def ct_X0_isFull : sa_C := sa_ct tb_X0_isFull 1
set_option maxRecDepth 100000 in
set_option maxHeartbeats 4000000 in
theorem met_X0_isFull : sa_Met sa_EX yX0_isFull cX0_isFull 1 (some Jvm.ClassFile.FieldType.boolean) 0 0 ct_X0_isFull := sa_met sa_EX_ok (by decide +kernel) ⟨ss_aload_n rfl dX0_isFull_0 rfl,
  ss_get dX0_isFull_1 (sa_lc ⟨_, _, _, rfl, by decide, inX0, wt_1_80⟩ sa_l0) rfl,
  ss_aload_n rfl dX0_isFull_4 rfl,
  ss_get dX0_isFull_5 (sa_lc ⟨_, _, _, rfl, by decide, inX0, wt_1_79⟩ sa_l0) rfl,
  ss_alen dX0_isFull_8 rfl,
  ss_icmp_lt (tgt := 16) dX0_isFull_9 (by decide) rfl,
  ss_iconst dX0_isFull_12 (by decide) rfl,
  ss_goto (tgt := 17) dX0_isFull_13 (by decide),
  ss_iconst dX0_isFull_16 (by decide) rfl,
  ss_zret dX0_isFull_17 rfl,
  trivial⟩
set_option maxRecDepth 100000 in
theorem tm_X0_isFull : sa_tm tb_X0_isFull := ⟨sm_aload, sm_get, sm_aload, sm_get, sm_alen, sm_cmp, sm_push, sm_goto, sm_push, sm_zret, trivial⟩
theorem mo_X0_isFull : sa_mc ct_X0_isFull := sa_mct tm_X0_isFull
theorem cal_X0_isFull (fr lr : Nat) (h1 : 0 + 1 ≤ fr) (h2 : 8 + (1 + 11) + 0 ≤ lr) : sa_cal sa_EX yX0_isFull cX0_isFull 1 (some Jvm.ClassFile.FieldType.boolean) 0 0 ct_X0_isFull 0 1 fr lr := ⟨met_X0_isFull, wt_3_99, wt_1_6, ⟨by decide +kernel, by decide +kernel, by decide +kernel⟩, by decide, h1, h2⟩
def tb_X0_hasOverflowed : sa_T := [(0, so_aload 0 1),
  (1, so_get [0] 2 4),
  (4, so_zret)]
def ct_X0_hasOverflowed : sa_C := sa_ct tb_X0_hasOverflowed 1
set_option maxRecDepth 100000 in
set_option maxHeartbeats 4000000 in
theorem met_X0_hasOverflowed : sa_Met sa_EX yX0_hasOverflowed cX0_hasOverflowed 1 (some Jvm.ClassFile.FieldType.boolean) 0 0 ct_X0_hasOverflowed := sa_met sa_EX_ok (by decide +kernel) ⟨ss_aload_n rfl dX0_hasOverflowed_0 rfl,
  ss_get dX0_hasOverflowed_1 (sa_lc ⟨_, _, _, rfl, by decide, inX0, wt_1_81⟩ sa_l0) rfl,
  ss_zret dX0_hasOverflowed_4 rfl,
  trivial⟩
set_option maxRecDepth 100000 in
theorem tm_X0_hasOverflowed : sa_tm tb_X0_hasOverflowed := ⟨sm_aload, sm_get, sm_zret, trivial⟩
theorem mo_X0_hasOverflowed : sa_mc ct_X0_hasOverflowed := sa_mct tm_X0_hasOverflowed
theorem cal_X0_hasOverflowed (fr lr : Nat) (h1 : 0 + 1 ≤ fr) (h2 : 8 + (1 + 11) + 0 ≤ lr) : sa_cal sa_EX yX0_hasOverflowed cX0_hasOverflowed 1 (some Jvm.ClassFile.FieldType.boolean) 0 0 ct_X0_hasOverflowed 0 1 fr lr := ⟨met_X0_hasOverflowed, wt_3_79, wt_1_6, ⟨by decide +kernel, by decide +kernel, by decide +kernel⟩, by decide, h1, h2⟩
def tb_X0_at : sa_T := [(0, so_iload 1 1),
  (1, so_if (fun x => x < 0) 21 4),
  (4, so_iload 1 5),
  (5, so_aload 0 6),
  (6, so_get [0] 1 9),
  (9, so_cmp (fun x y => y ≤ x) 21 12),
  (12, so_aload 0 13),
  (13, so_get [0] 0 16),
  (16, so_iload 1 17),
  (17, so_iald 18),
  (18, so_goto 22),
  (21, so_push (.inl (-1)) 22),
  (22, so_iret)]
def ct_X0_at : sa_C := sa_ct tb_X0_at 2
set_option maxRecDepth 100000 in
set_option maxHeartbeats 4000000 in
theorem met_X0_at : sa_Met sa_EX yX0_at cX0_at 2 (some Jvm.ClassFile.FieldType.int) 0 0 ct_X0_at := sa_met sa_EX_ok (by decide +kernel) ⟨ss_iload_n rfl dX0_at_0 rfl,
  ss_if_lt (tgt := 21) dX0_at_1 (by decide) rfl,
  ss_iload_n rfl dX0_at_4 rfl,
  ss_aload_n rfl dX0_at_5 rfl,
  ss_get dX0_at_6 (sa_lc ⟨_, _, _, rfl, by decide, inX0, wt_1_80⟩ sa_l0) rfl,
  ss_icmp_ge (tgt := 21) dX0_at_9 (by decide) rfl,
  ss_aload_n rfl dX0_at_12 rfl,
  ss_get dX0_at_13 (sa_lc ⟨_, _, _, rfl, by decide, inX0, wt_1_79⟩ sa_l0) rfl,
  ss_iload_n rfl dX0_at_16 rfl,
  ss_iald dX0_at_17 rfl,
  ss_goto (tgt := 22) dX0_at_18 (by decide),
  ss_iconst dX0_at_21 (by decide) rfl,
  ss_iret dX0_at_22 rfl,
  trivial⟩
set_option maxRecDepth 100000 in
theorem tm_X0_at : sa_tm tb_X0_at := ⟨sm_iload, sm_if, sm_iload, sm_aload, sm_get, sm_cmp, sm_aload, sm_get, sm_iload, sm_iald, sm_goto, sm_push, sm_iret, trivial⟩
theorem mo_X0_at : sa_mc ct_X0_at := sa_mct tm_X0_at
theorem cal_X0_at (fr lr : Nat) (h1 : 0 + 1 ≤ fr) (h2 : 8 + (2 + 11) + 0 ≤ lr) : sa_cal sa_EX yX0_at cX0_at 2 (some Jvm.ClassFile.FieldType.int) 0 0 ct_X0_at 1 2 fr lr := ⟨met_X0_at, wt_3_89, wt_1_6, ⟨by decide +kernel, by decide +kernel, by decide +kernel⟩, by decide, h1, h2⟩
def tb_X0_add : sa_T := [(0, so_aload 0 1),
  (1, so_get [0] 1 4),
  (4, so_aload 0 5),
  (5, so_get [0] 0 8),
  (8, so_alen 9),
  (9, so_cmp (fun x y => x < y) 18 12),
  (12, so_aload 0 13),
  (13, so_push (.inl (1)) 14),
  (14, so_put [0] 2 2 17),
  (17, so_ret),
  (18, so_aload 0 19),
  (19, so_get [0] 0 22),
  (22, so_aload 0 23),
  (23, so_get [0] 1 26),
  (26, so_iload 1 27),
  (27, so_iast 28),
  (28, so_aload 0 29),
  (29, so_dup 30),
  (30, so_get [0] 1 33),
  (33, so_push (.inl (1)) 34),
  (34, so_bin (fun x y => x + y) 35),
  (35, so_put [0] 1 0 38),
  (38, so_ret)]
def ct_X0_add : sa_C := sa_ct tb_X0_add 2
set_option maxRecDepth 100000 in
set_option maxHeartbeats 4000000 in
theorem met_X0_add : sa_Met sa_EX yX0_add cX0_add 2 none 0 0 ct_X0_add := sa_met sa_EX_ok (by decide +kernel) ⟨ss_aload_n rfl dX0_add_0 rfl,
  ss_get dX0_add_1 (sa_lc ⟨_, _, _, rfl, by decide, inX0, wt_1_80⟩ sa_l0) rfl,
  ss_aload_n rfl dX0_add_4 rfl,
  ss_get dX0_add_5 (sa_lc ⟨_, _, _, rfl, by decide, inX0, wt_1_79⟩ sa_l0) rfl,
  ss_alen dX0_add_8 rfl,
  ss_icmp_lt (tgt := 18) dX0_add_9 (by decide) rfl,
  ss_aload_n rfl dX0_add_12 rfl,
  ss_iconst dX0_add_13 (by decide) rfl,
  ss_put dX0_add_14 (sa_lc ⟨⟨_, _, _, rfl, by decide, inX0, wt_1_81⟩, ⟨_, _, _, _, rfl, tyX0_ok, nmX0⟩, ⟨_, _, _, rfl, tyX0_ok 2 (by decide)⟩, fun q h => by cases h; exact Or.inl rfl⟩ sa_l0) rfl,
  ss_ret dX0_add_17 rfl trivial,
  ss_aload_n rfl dX0_add_18 rfl,
  ss_get dX0_add_19 (sa_lc ⟨_, _, _, rfl, by decide, inX0, wt_1_79⟩ sa_l0) rfl,
  ss_aload_n rfl dX0_add_22 rfl,
  ss_get dX0_add_23 (sa_lc ⟨_, _, _, rfl, by decide, inX0, wt_1_80⟩ sa_l0) rfl,
  ss_iload_n rfl dX0_add_26 rfl,
  ss_iast dX0_add_27 rfl,
  ss_aload_n rfl dX0_add_28 rfl,
  ss_dup dX0_add_29 rfl,
  ss_get dX0_add_30 (sa_lc ⟨_, _, _, rfl, by decide, inX0, wt_1_80⟩ sa_l0) rfl,
  ss_iconst dX0_add_33 (by decide) rfl,
  ss_iadd dX0_add_34 rfl,
  ss_put dX0_add_35 (sa_lc ⟨⟨_, _, _, rfl, by decide, inX0, wt_1_80⟩, ⟨_, _, _, _, rfl, tyX0_ok, nmX0⟩, ⟨_, _, _, rfl, tyX0_ok 1 (by decide)⟩, fun q h => by cases h; exact Or.inl rfl⟩ sa_l0) rfl,
  ss_ret dX0_add_38 rfl trivial,
  trivial⟩
set_option maxRecDepth 100000 in
theorem tm_X0_add : sa_tm tb_X0_add := ⟨sm_aload, sm_get, sm_aload, sm_get, sm_alen, sm_cmp, sm_aload, sm_push, sm_put, sm_ret, sm_aload, sm_get, sm_aload, sm_get, sm_iload, sm_iast, sm_aload, sm_dup, sm_get, sm_push, sm_bin, sm_put, sm_ret, trivial⟩
theorem mo_X0_add : sa_mc ct_X0_add := sa_mct tm_X0_add
theorem cal_X0_add (fr lr : Nat) (h1 : 0 + 1 ≤ fr) (h2 : 8 + (2 + 11) + 0 ≤ lr) : sa_cal sa_EX yX0_add cX0_add 2 none 0 0 ct_X0_add 1 2 fr lr := ⟨met_X0_add, wt_2_186, wt_1_6, ⟨by decide +kernel, by decide +kernel, by decide +kernel⟩, by decide, h1, h2⟩
def tb_X0_addTwo : sa_T := [(0, so_aload 0 1),
  (1, so_iload 1 2),
  (2, so_push (.inl (8)) 4),
  (4, so_bin (fun x y => x >>> (y &&& 31)) 5),
  (5, so_push (.inl (255)) 8),
  (8, so_bin (fun x y => x &&& y) 9),
  (9, so_virt [(0, ct_X0_add)] 1 0 0 12),
  (12, so_aload 0 13),
  (13, so_iload 1 14),
  (14, so_push (.inl (255)) 17),
  (17, so_bin (fun x y => x &&& y) 18),
  (18, so_virt [(0, ct_X0_add)] 1 0 0 21),
  (21, so_ret)]
def ct_X0_addTwo : sa_C := sa_ct tb_X0_addTwo 2
set_option maxRecDepth 100000 in
set_option maxHeartbeats 4000000 in
theorem met_X0_addTwo : sa_Met sa_EX yX0_addTwo cX0_addTwo 2 none 1 21 ct_X0_addTwo := sa_met sa_EX_ok (by decide +kernel) ⟨ss_aload_n rfl dX0_addTwo_0 rfl,
  ss_iload_n rfl dX0_addTwo_1 rfl,
  ss_bipush dX0_addTwo_2 (by decide) rfl,
  ss_ishr dX0_addTwo_4 rfl,
  ss_sipush dX0_addTwo_5 (by decide) rfl,
  ss_iand dX0_addTwo_8 rfl,
  ss_virt dX0_addTwo_9 (sa_lc ⟨_, _, _, yX0_add, _, _, _, _, _, rfl, cal_X0_add _ _ (by decide) (by decide), wt_2_184, Or.inl ⟨wt_2_183, wt_2_185⟩⟩ sa_l0) rfl,
  ss_aload_n rfl dX0_addTwo_12 rfl,
  ss_iload_n rfl dX0_addTwo_13 rfl,
  ss_sipush dX0_addTwo_14 (by decide) rfl,
  ss_iand dX0_addTwo_17 rfl,
  ss_virt dX0_addTwo_18 (sa_lc ⟨_, _, _, yX0_add, _, _, _, _, _, rfl, cal_X0_add _ _ (by decide) (by decide), wt_2_184, Or.inl ⟨wt_2_183, wt_2_185⟩⟩ sa_l0) rfl,
  ss_ret dX0_addTwo_21 rfl trivial,
  trivial⟩
set_option maxRecDepth 100000 in
theorem tm_X0_addTwo : sa_tm tb_X0_addTwo := ⟨sm_aload, sm_iload, sm_push, sm_bin, sm_push, sm_bin, (sm_virt (sa_lc mo_X0_add sa_l0)), sm_aload, sm_iload, sm_push, sm_bin, (sm_virt (sa_lc mo_X0_add sa_l0)), sm_ret, trivial⟩
theorem mo_X0_addTwo : sa_mc ct_X0_addTwo := sa_mct tm_X0_addTwo
theorem cal_X0_addTwo (fr lr : Nat) (h1 : 1 + 1 ≤ fr) (h2 : 8 + (2 + 11) + 21 ≤ lr) : sa_cal sa_EX yX0_addTwo cX0_addTwo 2 none 1 21 ct_X0_addTwo 1 2 fr lr := ⟨met_X0_addTwo, wt_3_66, wt_1_6, ⟨by decide +kernel, by decide +kernel, by decide +kernel⟩, by decide, h1, h2⟩
def tb_J0_coder_7d493 : sa_T := [(0, so_push (.inl 1) 3),
  (3, so_if (fun x => x = 0) 13 6),
  (6, so_aload 0 7),
  (7, so_scod sa_EX.2.2.2.1.1 10),
  (10, so_goto 14),
  (14, so_nret .byte)]
def ct_J0_coder_7d493 : sa_C := sa_ct tb_J0_coder_7d493 1
set_option maxRecDepth 100000 in
set_option maxHeartbeats 4000000 in
theorem met_J0_coder_7d493 : sa_Met sa_EX yJ0_coder_7d493 cJ0_coder_7d493 1 (some Jvm.ClassFile.FieldType.byte) 0 0 ct_J0_coder_7d493 := sa_met sa_EX_ok (by decide +kernel) ⟨ss_getsC dJ0_coder_7d493_0 wt_2_117 rfl,
  ss_if_eq (tgt := 13) dJ0_coder_7d493_3 (by decide) rfl,
  ss_aload_n rfl dJ0_coder_7d493_6 rfl,
  ss_scod dJ0_coder_7d493_7 wt_6_101 rfl,
  ss_goto (tgt := 14) dJ0_coder_7d493_10 (by decide),
  ss_nret dJ0_coder_7d493_14 rfl,
  trivial⟩
set_option maxRecDepth 100000 in
theorem tm_J0_coder_7d493 : sa_tm tb_J0_coder_7d493 := ⟨sm_push, sm_if, sm_aload, sm_scod, sm_goto, sm_nret, trivial⟩
theorem mo_J0_coder_7d493 : sa_mc ct_J0_coder_7d493 := sa_mct tm_J0_coder_7d493
theorem cal_J0_coder_7d493 (fr lr : Nat) (h1 : 0 + 1 ≤ fr) (h2 : 8 + (1 + 11) + 0 ≤ lr) : sa_cal sa_EX yJ0_coder_7d493 cJ0_coder_7d493 1 (some Jvm.ClassFile.FieldType.byte) 0 0 ct_J0_coder_7d493 0 1 fr lr := ⟨met_J0_coder_7d493, wt_2_116, wt_1_14, ⟨by decide +kernel, by decide +kernel, by decide +kernel⟩, by decide, h1, h2⟩
def tb_J0_length_8abf5 : sa_T := [(0, so_aload 0 1),
  (1, so_sval sa_EX.2.2.2.1.1 4),
  (4, so_blen sa_EX.2.2.2.1.1 sa_EX.2.2.2.1.2.1 5),
  (5, so_aload 0 6),
  (6, so_svirt sa_EX.2.2.2.1.1 ct_J0_coder_7d493 0 9),
  (9, so_bin (fun x y => x >>> (y &&& 31)) 10),
  (10, so_iret)]
def ct_J0_length_8abf5 : sa_C := sa_ct tb_J0_length_8abf5 1
set_option maxRecDepth 100000 in
set_option maxHeartbeats 4000000 in
theorem met_J0_length_8abf5 : sa_Met sa_EX yJ0_length_8abf5 cJ0_length_8abf5 1 (some Jvm.ClassFile.FieldType.int) 1 20 ct_J0_length_8abf5 := sa_met sa_EX_ok (by decide +kernel) ⟨ss_aload_n rfl dJ0_length_8abf5_0 rfl,
  ss_sval dJ0_length_8abf5_1 wt_6_100 rfl,
  ss_blen dJ0_length_8abf5_4 rfl,
  ss_aload_n rfl dJ0_length_8abf5_5 rfl,
  ss_svirt dJ0_length_8abf5_6 (cal_J0_coder_7d493 _ _ (by decide) (by decide)) wt_2_113 wt_2_115 wt_2_114 rfl,
  ss_ishr dJ0_length_8abf5_9 rfl,
  ss_iret dJ0_length_8abf5_10 rfl,
  trivial⟩
set_option maxRecDepth 100000 in
theorem tm_J0_length_8abf5 : sa_tm tb_J0_length_8abf5 := ⟨sm_aload, sm_sval, sm_blen, sm_aload, (sm_svirt mo_J0_coder_7d493), sm_bin, sm_iret, trivial⟩
theorem mo_J0_length_8abf5 : sa_mc ct_J0_length_8abf5 := sa_mct tm_J0_length_8abf5
theorem cal_J0_length_8abf5 (fr lr : Nat) (h1 : 1 + 1 ≤ fr) (h2 : 8 + (1 + 11) + 20 ≤ lr) : sa_cal sa_EX yJ0_length_8abf5 cJ0_length_8abf5 1 (some Jvm.ClassFile.FieldType.int) 1 20 ct_J0_length_8abf5 0 1 fr lr := ⟨met_J0_length_8abf5, wt_2_112, wt_1_14, ⟨by decide +kernel, by decide +kernel, by decide +kernel⟩, by decide, h1, h2⟩
def tb_J0_isLatin1_aae02 : sa_T := [(0, so_push (.inl 1) 3),
  (3, so_if (fun x => x = 0) 17 6),
  (6, so_aload 0 7),
  (7, so_scod sa_EX.2.2.2.1.1 10),
  (10, so_if (fun x => x = 0) 13 17),
  (13, so_push (.inl (1)) 14),
  (14, so_goto 18),
  (18, so_zret)]
def ct_J0_isLatin1_aae02 : sa_C := sa_ct tb_J0_isLatin1_aae02 1
set_option maxRecDepth 100000 in
set_option maxHeartbeats 4000000 in
theorem met_J0_isLatin1_aae02 : sa_Met sa_EX yJ0_isLatin1_aae02 cJ0_isLatin1_aae02 1 (some Jvm.ClassFile.FieldType.boolean) 0 0 ct_J0_isLatin1_aae02 := sa_met sa_EX_ok (by decide +kernel) ⟨ss_getsC dJ0_isLatin1_aae02_0 wt_2_117 rfl,
  ss_if_eq (tgt := 17) dJ0_isLatin1_aae02_3 (by decide) rfl,
  ss_aload_n rfl dJ0_isLatin1_aae02_6 rfl,
  ss_scod dJ0_isLatin1_aae02_7 wt_6_101 rfl,
  ss_if_ne (tgt := 17) dJ0_isLatin1_aae02_10 (by decide) rfl,
  ss_iconst dJ0_isLatin1_aae02_13 (by decide) rfl,
  ss_goto (tgt := 18) dJ0_isLatin1_aae02_14 (by decide),
  ss_zret dJ0_isLatin1_aae02_18 rfl,
  trivial⟩
set_option maxRecDepth 100000 in
theorem tm_J0_isLatin1_aae02 : sa_tm tb_J0_isLatin1_aae02 := ⟨sm_push, sm_if, sm_aload, sm_scod, sm_if, sm_push, sm_goto, sm_zret, trivial⟩
theorem mo_J0_isLatin1_aae02 : sa_mc ct_J0_isLatin1_aae02 := sa_mct tm_J0_isLatin1_aae02
theorem cal_J0_isLatin1_aae02 (fr lr : Nat) (h1 : 0 + 1 ≤ fr) (h2 : 8 + (1 + 11) + 0 ≤ lr) : sa_cal sa_EX yJ0_isLatin1_aae02 cJ0_isLatin1_aae02 1 (some Jvm.ClassFile.FieldType.boolean) 0 0 ct_J0_isLatin1_aae02 0 1 fr lr := ⟨met_J0_isLatin1_aae02, wt_2_131, wt_1_14, ⟨by decide +kernel, by decide +kernel, by decide +kernel⟩, by decide, h1, h2⟩
def tb_J3_checkIndex_8e157 : sa_T := [(0, so_iload 0 1),
  (1, so_if (fun x => x < 0) 9 4),
  (4, so_iload 0 5),
  (5, so_iload 1 6),
  (6, so_cmp (fun x y => x < y) 16 9),
  (16, so_iload 0 17),
  (17, so_iret)]
def ct_J3_checkIndex_8e157 : sa_C := sa_ct tb_J3_checkIndex_8e157 3
set_option maxRecDepth 100000 in
set_option maxHeartbeats 4000000 in
theorem met_J3_checkIndex_8e157 : sa_Met sa_EX yJ3_checkIndex_8e157 cJ3_checkIndex_8e157 3 (some Jvm.ClassFile.FieldType.int) 0 0 ct_J3_checkIndex_8e157 := sa_met sa_EX_ok (by decide +kernel) ⟨ss_iload_n rfl dJ3_checkIndex_8e157_0 rfl,
  ss_if_lt (tgt := 9) dJ3_checkIndex_8e157_1 (by decide) rfl,
  ss_iload_n rfl dJ3_checkIndex_8e157_4 rfl,
  ss_iload_n rfl dJ3_checkIndex_8e157_5 rfl,
  ss_icmp_lt (tgt := 16) dJ3_checkIndex_8e157_6 (by decide) rfl,
  ss_iload_n rfl dJ3_checkIndex_8e157_16 rfl,
  ss_iret dJ3_checkIndex_8e157_17 rfl,
  trivial⟩
set_option maxRecDepth 100000 in
theorem tm_J3_checkIndex_8e157 : sa_tm tb_J3_checkIndex_8e157 := ⟨sm_iload, sm_if, sm_iload, sm_iload, sm_cmp, sm_iload, sm_iret, trivial⟩
theorem mo_J3_checkIndex_8e157 : sa_mc ct_J3_checkIndex_8e157 := sa_mct tm_J3_checkIndex_8e157
theorem cal_J3_checkIndex_8e157 (fr lr : Nat) (h1 : 0 + 1 ≤ fr) (h2 : 8 + (3 + 11) + 0 ≤ lr) : sa_cal sa_EX yJ3_checkIndex_8e157 cJ3_checkIndex_8e157 3 (some Jvm.ClassFile.FieldType.int) 0 0 ct_J3_checkIndex_8e157 3 3 fr lr := ⟨met_J3_checkIndex_8e157, wt_2_142, wt_1_16, ⟨by decide +kernel, by decide +kernel, by decide +kernel⟩, by decide, h1, h2⟩
def tb_J0_checkIndex_df160 : sa_T := [(0, so_iload 0 1),
  (1, so_iload 1 2),
  (2, so_getq 5),
  (5, so_stat ct_J3_checkIndex_8e157 3 0 0 8),
  (8, so_pop 9),
  (9, so_ret)]
def ct_J0_checkIndex_df160 : sa_C := sa_ct tb_J0_checkIndex_df160 2
set_option maxRecDepth 100000 in
set_option maxHeartbeats 4000000 in
theorem met_J0_checkIndex_df160 : sa_Met sa_EX yJ0_checkIndex_df160 cJ0_checkIndex_df160 2 none 1 22 ct_J0_checkIndex_df160 := sa_met sa_EX_ok (by decide +kernel) ⟨ss_iload_n rfl dJ0_checkIndex_df160_0 rfl,
  ss_iload_n rfl dJ0_checkIndex_df160_1 rfl,
  ss_getq dJ0_checkIndex_df160_2 wt_2_138 rfl,
  ss_stat dJ0_checkIndex_df160_5 (cal_J3_checkIndex_8e157 _ _ (by decide) (by decide)) wt_2_140 wt_2_141 rfl,
  ss_pop dJ0_checkIndex_df160_8 rfl,
  ss_ret dJ0_checkIndex_df160_9 rfl trivial,
  trivial⟩
set_option maxRecDepth 100000 in
theorem tm_J0_checkIndex_df160 : sa_tm tb_J0_checkIndex_df160 := ⟨sm_iload, sm_iload, sm_getq, (sm_stat mo_J3_checkIndex_8e157), sm_pop, sm_ret, trivial⟩
theorem mo_J0_checkIndex_df160 : sa_mc ct_J0_checkIndex_df160 := sa_mct tm_J0_checkIndex_df160
theorem cal_J0_checkIndex_df160 (fr lr : Nat) (h1 : 1 + 1 ≤ fr) (h2 : 8 + (2 + 11) + 22 ≤ lr) : sa_cal sa_EX yJ0_checkIndex_df160 cJ0_checkIndex_df160 2 none 1 22 ct_J0_checkIndex_df160 2 2 fr lr := ⟨met_J0_checkIndex_df160, wt_2_137, wt_1_14, ⟨by decide +kernel, by decide +kernel, by decide +kernel⟩, by decide, h1, h2⟩
def tb_J1_charAt_3b067 : sa_T := [(0, so_iload 1 1),
  (1, so_aload 0 2),
  (2, so_blen sa_EX.2.2.2.1.1 sa_EX.2.2.2.1.2.1 3),
  (3, so_stat ct_J0_checkIndex_df160 2 0 0 6),
  (6, so_aload 0 7),
  (7, so_iload 1 8),
  (8, so_bald sa_EX.2.2.2.1.1 sa_EX.2.2.2.1.2.1 sa_EX.2.2.2.1.2.2 9),
  (9, so_push (.inl (255)) 12),
  (12, so_bin (fun x y => x &&& y) 13),
  (13, so_un (fun x => (x.toUInt32 % 65536).toInt32) 14),
  (14, so_nret .char)]
def ct_J1_charAt_3b067 : sa_C := sa_ct tb_J1_charAt_3b067 2
set_option maxRecDepth 100000 in
set_option maxHeartbeats 4000000 in
theorem met_J1_charAt_3b067 : sa_Met sa_EX yJ1_charAt_3b067 cJ1_charAt_3b067 2 (some Jvm.ClassFile.FieldType.char) 2 43 ct_J1_charAt_3b067 := sa_met sa_EX_ok (by decide +kernel) ⟨ss_iload_n rfl dJ1_charAt_3b067_0 rfl,
  ss_aload_n rfl dJ1_charAt_3b067_1 rfl,
  ss_blen dJ1_charAt_3b067_2 rfl,
  ss_stat dJ1_charAt_3b067_3 (cal_J0_checkIndex_df160 _ _ (by decide) (by decide)) wt_2_135 wt_2_136 rfl,
  ss_aload_n rfl dJ1_charAt_3b067_6 rfl,
  ss_iload_n rfl dJ1_charAt_3b067_7 rfl,
  ss_bald dJ1_charAt_3b067_8 rfl,
  ss_sipush dJ1_charAt_3b067_9 (by decide) rfl,
  ss_iand dJ1_charAt_3b067_12 rfl,
  ss_i2c dJ1_charAt_3b067_13 rfl,
  ss_nret dJ1_charAt_3b067_14 rfl,
  trivial⟩
set_option maxRecDepth 100000 in
theorem tm_J1_charAt_3b067 : sa_tm tb_J1_charAt_3b067 := ⟨sm_iload, sm_aload, sm_blen, (sm_stat mo_J0_checkIndex_df160), sm_aload, sm_iload, sm_bald, sm_push, sm_bin, sm_un, sm_nret, trivial⟩
theorem mo_J1_charAt_3b067 : sa_mc ct_J1_charAt_3b067 := sa_mct tm_J1_charAt_3b067
theorem cal_J1_charAt_3b067 (fr lr : Nat) (h1 : 2 + 1 ≤ fr) (h2 : 8 + (2 + 11) + 43 ≤ lr) : sa_cal sa_EX yJ1_charAt_3b067 cJ1_charAt_3b067 2 (some Jvm.ClassFile.FieldType.char) 2 43 ct_J1_charAt_3b067 2 2 fr lr := ⟨met_J1_charAt_3b067, wt_2_134, wt_1_15, ⟨by decide +kernel, by decide +kernel, by decide +kernel⟩, by decide, h1, h2⟩
def tb_J0_charAt_5068e : sa_T := [(0, so_aload 0 1),
  (1, so_svirt sa_EX.2.2.2.1.1 ct_J0_isLatin1_aae02 0 4),
  (4, so_if (fun x => x = 0) 16 7),
  (7, so_aload 0 8),
  (8, so_sval sa_EX.2.2.2.1.1 11),
  (11, so_iload 1 12),
  (12, so_stat ct_J1_charAt_3b067 2 0 0 15),
  (15, so_nret .char)]
def ct_J0_charAt_5068e : sa_C := sa_ct tb_J0_charAt_5068e 2
set_option maxRecDepth 100000 in
set_option maxHeartbeats 4000000 in
theorem met_J0_charAt_5068e : sa_Met sa_EX yJ0_charAt_5068e cJ0_charAt_5068e 2 (some Jvm.ClassFile.FieldType.char) 3 64 ct_J0_charAt_5068e := sa_met sa_EX_ok (by decide +kernel) ⟨ss_aload_n rfl dJ0_charAt_5068e_0 rfl,
  ss_svirt dJ0_charAt_5068e_1 (cal_J0_isLatin1_aae02 _ _ (by decide) (by decide)) wt_2_128 wt_2_130 wt_2_129 rfl,
  ss_if_eq (tgt := 16) dJ0_charAt_5068e_4 (by decide) rfl,
  ss_aload_n rfl dJ0_charAt_5068e_7 rfl,
  ss_sval dJ0_charAt_5068e_8 wt_6_100 rfl,
  ss_iload_n rfl dJ0_charAt_5068e_11 rfl,
  ss_stat dJ0_charAt_5068e_12 (cal_J1_charAt_3b067 _ _ (by decide) (by decide)) wt_2_132 wt_2_133 rfl,
  ss_nret dJ0_charAt_5068e_15 rfl,
  trivial⟩
set_option maxRecDepth 100000 in
theorem tm_J0_charAt_5068e : sa_tm tb_J0_charAt_5068e := ⟨sm_aload, (sm_svirt mo_J0_isLatin1_aae02), sm_if, sm_aload, sm_sval, sm_iload, (sm_stat mo_J1_charAt_3b067), sm_nret, trivial⟩
theorem mo_J0_charAt_5068e : sa_mc ct_J0_charAt_5068e := sa_mct tm_J0_charAt_5068e
theorem cal_J0_charAt_5068e (fr lr : Nat) (h1 : 3 + 1 ≤ fr) (h2 : 8 + (2 + 11) + 64 ≤ lr) : sa_cal sa_EX yJ0_charAt_5068e cJ0_charAt_5068e 2 (some Jvm.ClassFile.FieldType.char) 3 64 ct_J0_charAt_5068e 1 2 fr lr := ⟨met_J0_charAt_5068e, wt_2_127, wt_1_14, ⟨by decide +kernel, by decide +kernel, by decide +kernel⟩, by decide, h1, h2⟩
def tb_X0_addText : sa_T := [(0, so_push (.inl (0)) 1),
  (1, so_istore 2 2),
  (2, so_iload 2 3),
  (3, so_aload 1 4),
  (4, so_svirt sa_EX.2.2.2.1.1 ct_J0_length_8abf5 0 7),
  (7, so_cmp (fun x y => y ≤ x) 25 10),
  (10, so_aload 0 11),
  (11, so_aload 1 12),
  (12, so_iload 2 13),
  (13, so_svirt sa_EX.2.2.2.1.1 ct_J0_charAt_5068e 1 16),
  (16, so_virt [(0, ct_X0_add)] 1 0 0 19),
  (19, so_iinc 2 (1) 22),
  (22, so_goto 2),
  (25, so_ret)]
def ct_X0_addText : sa_C := sa_ct tb_X0_addText 3
set_option maxRecDepth 100000 in
set_option maxHeartbeats 4000000 in
theorem met_X0_addText : sa_Met sa_EX yX0_addText cX0_addText 3 none 4 85 ct_X0_addText := sa_met sa_EX_ok (by decide +kernel) ⟨ss_iconst dX0_addText_0 (by decide) rfl,
  ss_istore_n rfl dX0_addText_1 (by decide) rfl,
  ss_iload_n rfl dX0_addText_2 rfl,
  ss_aload_n rfl dX0_addText_3 rfl,
  ss_svirt dX0_addText_4 (cal_J0_length_8abf5 _ _ (by decide) (by decide)) wt_2_181 wt_2_111 wt_2_110 rfl,
  ss_icmp_ge (tgt := 25) dX0_addText_7 (by decide) rfl,
  ss_aload_n rfl dX0_addText_10 rfl,
  ss_aload_n rfl dX0_addText_11 rfl,
  ss_iload_n rfl dX0_addText_12 rfl,
  ss_svirt dX0_addText_13 (cal_J0_charAt_5068e _ _ (by decide) (by decide)) wt_2_182 wt_2_126 wt_2_125 rfl,
  ss_virt dX0_addText_16 (sa_lc ⟨_, _, _, yX0_add, _, _, _, _, _, rfl, cal_X0_add _ _ (by decide) (by decide), wt_2_184, Or.inl ⟨wt_2_183, wt_2_185⟩⟩ sa_l0) rfl,
  ss_iinc dX0_addText_19 (by decide) (by decide) rfl,
  ss_goto (tgt := 2) dX0_addText_22 (by decide),
  ss_ret dX0_addText_25 rfl trivial,
  trivial⟩
set_option maxRecDepth 100000 in
theorem tm_X0_addText : sa_tm tb_X0_addText := ⟨sm_push, sm_istore, sm_iload, sm_aload, (sm_svirt mo_J0_length_8abf5), sm_cmp, sm_aload, sm_aload, sm_iload, (sm_svirt mo_J0_charAt_5068e), (sm_virt (sa_lc mo_X0_add sa_l0)), sm_iinc, sm_goto, sm_ret, trivial⟩
theorem mo_X0_addText : sa_mc ct_X0_addText := sa_mct tm_X0_addText
theorem cal_X0_addText (fr lr : Nat) (h1 : 4 + 1 ≤ fr) (h2 : 8 + (3 + 11) + 85 ≤ lr) : sa_cal sa_EX yX0_addText cX0_addText 3 none 4 85 ct_X0_addText 1 2 fr lr := ⟨met_X0_addText, wt_2_180, wt_1_6, ⟨by decide +kernel, by decide +kernel, by decide +kernel⟩, by decide, h1, h2⟩
def tb_X0_addFigures : sa_T := [(0, so_push (.inl (1000)) 3),
  (3, so_istore 2 4),
  (4, so_iload 2 5),
  (5, so_if (fun x => x ≤ 0) 39 8),
  (8, so_iload 1 9),
  (9, so_iload 2 10),
  (10, so_cmp (fun x y => y ≤ x) 18 13),
  (13, so_iload 2 14),
  (14, so_push (.inl (1)) 15),
  (15, so_cmp (fun x y => x = y) 18 31),
  (18, so_aload 0 19),
  (19, so_push (.inl (48)) 21),
  (21, so_iload 1 22),
  (22, so_iload 2 23),
  (23, so_div (fun x y => x / y) 24),
  (24, so_push (.inl (10)) 26),
  (26, so_div (fun x y => x - x / y * y) 27),
  (27, so_bin (fun x y => x + y) 28),
  (28, so_virt [(0, ct_X0_add)] 1 0 0 31),
  (31, so_iload 2 32),
  (32, so_push (.inl (10)) 34),
  (34, so_div (fun x y => x / y) 35),
  (35, so_istore 2 36),
  (36, so_goto 4),
  (39, so_ret)]
def ct_X0_addFigures : sa_C := sa_ct tb_X0_addFigures 3
set_option maxRecDepth 100000 in
set_option maxHeartbeats 4000000 in
theorem met_X0_addFigures : sa_Met sa_EX yX0_addFigures cX0_addFigures 3 none 1 21 ct_X0_addFigures := sa_met sa_EX_ok (by decide +kernel) ⟨ss_sipush dX0_addFigures_0 (by decide) rfl,
  ss_istore_n rfl dX0_addFigures_3 (by decide) rfl,
  ss_iload_n rfl dX0_addFigures_4 rfl,
  ss_if_le (tgt := 39) dX0_addFigures_5 (by decide) rfl,
  ss_iload_n rfl dX0_addFigures_8 rfl,
  ss_iload_n rfl dX0_addFigures_9 rfl,
  ss_icmp_ge (tgt := 18) dX0_addFigures_10 (by decide) rfl,
  ss_iload_n rfl dX0_addFigures_13 rfl,
  ss_iconst dX0_addFigures_14 (by decide) rfl,
  ss_icmp_ne (tgt := 31) dX0_addFigures_15 (by decide) rfl,
  ss_aload_n rfl dX0_addFigures_18 rfl,
  ss_bipush dX0_addFigures_19 (by decide) rfl,
  ss_iload_n rfl dX0_addFigures_21 rfl,
  ss_iload_n rfl dX0_addFigures_22 rfl,
  ss_idiv dX0_addFigures_23 rfl,
  ss_bipush dX0_addFigures_24 (by decide) rfl,
  ss_irem dX0_addFigures_26 rfl,
  ss_iadd dX0_addFigures_27 rfl,
  ss_virt dX0_addFigures_28 (sa_lc ⟨_, _, _, yX0_add, _, _, _, _, _, rfl, cal_X0_add _ _ (by decide) (by decide), wt_2_184, Or.inl ⟨wt_2_183, wt_2_185⟩⟩ sa_l0) rfl,
  ss_iload_n rfl dX0_addFigures_31 rfl,
  ss_bipush dX0_addFigures_32 (by decide) rfl,
  ss_idiv dX0_addFigures_34 rfl,
  ss_istore_n rfl dX0_addFigures_35 (by decide) rfl,
  ss_goto (tgt := 4) dX0_addFigures_36 (by decide),
  ss_ret dX0_addFigures_39 rfl trivial,
  trivial⟩
set_option maxRecDepth 100000 in
theorem tm_X0_addFigures : sa_tm tb_X0_addFigures := ⟨sm_push, sm_istore, sm_iload, sm_if, sm_iload, sm_iload, sm_cmp, sm_iload, sm_push, sm_cmp, sm_aload, sm_push, sm_iload, sm_iload, sm_div, sm_push, sm_div, sm_bin, (sm_virt (sa_lc mo_X0_add sa_l0)), sm_iload, sm_push, sm_div, sm_istore, sm_goto, sm_ret, trivial⟩
theorem mo_X0_addFigures : sa_mc ct_X0_addFigures := sa_mct tm_X0_addFigures
theorem cal_X0_addFigures (fr lr : Nat) (h1 : 1 + 1 ≤ fr) (h2 : 8 + (3 + 11) + 21 ≤ lr) : sa_cal sa_EX yX0_addFigures cX0_addFigures 3 none 1 21 ct_X0_addFigures 1 2 fr lr := ⟨met_X0_addFigures, wt_2_210, wt_1_6, ⟨by decide +kernel, by decide +kernel, by decide +kernel⟩, by decide, h1, h2⟩
def tb_X0_addBlanksTo : sa_T := [(0, so_iload 1 1),
  (1, so_aload 0 2),
  (2, so_get [0] 1 5),
  (5, so_bin (fun x y => x - y) 6),
  (6, so_istore 2 7),
  (7, so_iload 2 8),
  (8, so_if (fun x => x ≤ 0) 23 11),
  (11, so_aload 0 12),
  (12, so_push (.inl (32)) 14),
  (14, so_virt [(0, ct_X0_add)] 1 0 0 17),
  (17, so_iinc 2 (-1) 20),
  (20, so_goto 7),
  (23, so_ret)]
def ct_X0_addBlanksTo : sa_C := sa_ct tb_X0_addBlanksTo 3
set_option maxRecDepth 100000 in
set_option maxHeartbeats 4000000 in
theorem met_X0_addBlanksTo : sa_Met sa_EX yX0_addBlanksTo cX0_addBlanksTo 3 none 1 21 ct_X0_addBlanksTo := sa_met sa_EX_ok (by decide +kernel) ⟨ss_iload_n rfl dX0_addBlanksTo_0 rfl,
  ss_aload_n rfl dX0_addBlanksTo_1 rfl,
  ss_get dX0_addBlanksTo_2 (sa_lc ⟨_, _, _, rfl, by decide, inX0, wt_1_80⟩ sa_l0) rfl,
  ss_isub dX0_addBlanksTo_5 rfl,
  ss_istore_n rfl dX0_addBlanksTo_6 (by decide) rfl,
  ss_iload_n rfl dX0_addBlanksTo_7 rfl,
  ss_if_le (tgt := 23) dX0_addBlanksTo_8 (by decide) rfl,
  ss_aload_n rfl dX0_addBlanksTo_11 rfl,
  ss_bipush dX0_addBlanksTo_12 (by decide) rfl,
  ss_virt dX0_addBlanksTo_14 (sa_lc ⟨_, _, _, yX0_add, _, _, _, _, _, rfl, cal_X0_add _ _ (by decide) (by decide), wt_2_184, Or.inl ⟨wt_2_183, wt_2_185⟩⟩ sa_l0) rfl,
  ss_iinc dX0_addBlanksTo_17 (by decide) (by decide) rfl,
  ss_goto (tgt := 7) dX0_addBlanksTo_20 (by decide),
  ss_ret dX0_addBlanksTo_23 rfl trivial,
  trivial⟩
set_option maxRecDepth 100000 in
theorem tm_X0_addBlanksTo : sa_tm tb_X0_addBlanksTo := ⟨sm_iload, sm_aload, sm_get, sm_bin, sm_istore, sm_iload, sm_if, sm_aload, sm_push, (sm_virt (sa_lc mo_X0_add sa_l0)), sm_iinc, sm_goto, sm_ret, trivial⟩
theorem mo_X0_addBlanksTo : sa_mc ct_X0_addBlanksTo := sa_mct tm_X0_addBlanksTo
theorem cal_X0_addBlanksTo (fr lr : Nat) (h1 : 1 + 1 ≤ fr) (h2 : 8 + (3 + 11) + 21 ≤ lr) : sa_cal sa_EX yX0_addBlanksTo cX0_addBlanksTo 3 none 1 21 ct_X0_addBlanksTo 1 2 fr lr := ⟨met_X0_addBlanksTo, wt_2_203, wt_1_6, ⟨by decide +kernel, by decide +kernel, by decide +kernel⟩, by decide, h1, h2⟩
def tb_X9_length : sa_T := [(0, so_iload 1 1),
  (1, so_if (fun x => x < 0) 12 4),
  (4, so_iload 1 5),
  (5, so_aload 0 6),
  (6, so_get [7] 3 9),
  (9, so_cmp (fun x y => x < y) 14 12),
  (12, so_push (.inl (0)) 13),
  (13, so_iret),
  (14, so_iload 1 15),
  (15, so_push (.inl (1)) 16),
  (16, so_bin (fun x y => x + y) 17),
  (17, so_aload 0 18),
  (18, so_get [7] 3 21),
  (21, so_cmp (fun x y => y ≤ x) 35 24),
  (24, so_aload 0 25),
  (25, so_get [7] 1 28),
  (28, so_iload 1 29),
  (29, so_push (.inl (1)) 30),
  (30, so_bin (fun x y => x + y) 31),
  (31, so_iald 32),
  (32, so_goto 39),
  (35, so_aload 0 36),
  (36, so_get [7] 2 39),
  (39, so_istore 2 40),
  (40, so_iload 2 41),
  (41, so_aload 0 42),
  (42, so_get [7] 1 45),
  (45, so_iload 1 46),
  (46, so_iald 47),
  (47, so_bin (fun x y => x - y) 48),
  (48, so_iret)]
def ct_X9_length : sa_C := sa_ct tb_X9_length 3
set_option maxRecDepth 100000 in
set_option maxHeartbeats 4000000 in
theorem met_X9_length : sa_Met sa_EX yX9_length cX9_length 3 (some Jvm.ClassFile.FieldType.int) 0 0 ct_X9_length := sa_met sa_EX_ok (by decide +kernel) ⟨ss_iload_n rfl dX9_length_0 rfl,
  ss_if_lt (tgt := 12) dX9_length_1 (by decide) rfl,
  ss_iload_n rfl dX9_length_4 rfl,
  ss_aload_n rfl dX9_length_5 rfl,
  ss_get dX9_length_6 (sa_lc ⟨_, _, _, rfl, by decide, inX9, wt_1_51⟩ sa_l0) rfl,
  ss_icmp_lt (tgt := 14) dX9_length_9 (by decide) rfl,
  ss_iconst dX9_length_12 (by decide) rfl,
  ss_iret dX9_length_13 rfl,
  ss_iload_n rfl dX9_length_14 rfl,
  ss_iconst dX9_length_15 (by decide) rfl,
  ss_iadd dX9_length_16 rfl,
  ss_aload_n rfl dX9_length_17 rfl,
  ss_get dX9_length_18 (sa_lc ⟨_, _, _, rfl, by decide, inX9, wt_1_51⟩ sa_l0) rfl,
  ss_icmp_ge (tgt := 35) dX9_length_21 (by decide) rfl,
  ss_aload_n rfl dX9_length_24 rfl,
  ss_get dX9_length_25 (sa_lc ⟨_, _, _, rfl, by decide, inX9, wt_1_49⟩ sa_l0) rfl,
  ss_iload_n rfl dX9_length_28 rfl,
  ss_iconst dX9_length_29 (by decide) rfl,
  ss_iadd dX9_length_30 rfl,
  ss_iald dX9_length_31 rfl,
  ss_goto (tgt := 39) dX9_length_32 (by decide),
  ss_aload_n rfl dX9_length_35 rfl,
  ss_get dX9_length_36 (sa_lc ⟨_, _, _, rfl, by decide, inX9, wt_1_50⟩ sa_l0) rfl,
  ss_istore_n rfl dX9_length_39 (by decide) rfl,
  ss_iload_n rfl dX9_length_40 rfl,
  ss_aload_n rfl dX9_length_41 rfl,
  ss_get dX9_length_42 (sa_lc ⟨_, _, _, rfl, by decide, inX9, wt_1_49⟩ sa_l0) rfl,
  ss_iload_n rfl dX9_length_45 rfl,
  ss_iald dX9_length_46 rfl,
  ss_isub dX9_length_47 rfl,
  ss_iret dX9_length_48 rfl,
  trivial⟩
set_option maxRecDepth 100000 in
theorem tm_X9_length : sa_tm tb_X9_length := ⟨sm_iload, sm_if, sm_iload, sm_aload, sm_get, sm_cmp, sm_push, sm_iret, sm_iload, sm_push, sm_bin, sm_aload, sm_get, sm_cmp, sm_aload, sm_get, sm_iload, sm_push, sm_bin, sm_iald, sm_goto, sm_aload, sm_get, sm_istore, sm_iload, sm_aload, sm_get, sm_iload, sm_iald, sm_bin, sm_iret, trivial⟩
theorem mo_X9_length : sa_mc ct_X9_length := sa_mct tm_X9_length
theorem cal_X9_length (fr lr : Nat) (h1 : 0 + 1 ≤ fr) (h2 : 8 + (3 + 11) + 0 ≤ lr) : sa_cal sa_EX yX9_length cX9_length 3 (some Jvm.ClassFile.FieldType.int) 0 0 ct_X9_length 1 2 fr lr := ⟨met_X9_length, wt_1_226, wt_1_4, ⟨by decide +kernel, by decide +kernel, by decide +kernel⟩, by decide, h1, h2⟩
def tb_X8_nameLength : sa_T := [(0, so_aload 0 1),
  (1, so_get [2, 3] 0 4),
  (4, so_iload 1 5),
  (5, so_virt [(7, ct_X9_length)] 1 0 0 8),
  (8, so_iret)]
def ct_X8_nameLength : sa_C := sa_ct tb_X8_nameLength 2
set_option maxRecDepth 100000 in
set_option maxHeartbeats 4000000 in
theorem met_X8_nameLength : sa_Met sa_EX yX8_nameLength cX8_nameLength 2 (some Jvm.ClassFile.FieldType.int) 1 22 ct_X8_nameLength := sa_met sa_EX_ok (by decide +kernel) ⟨ss_aload_n rfl dX8_nameLength_0 rfl,
  ss_get dX8_nameLength_1 (sa_lc ⟨_, _, _, rfl, by decide, inX2, wt_1_63⟩ (sa_lc ⟨_, _, _, rfl, by decide, inX3, wt_1_63⟩ sa_l0)) rfl,
  ss_iload_n rfl dX8_nameLength_4 rfl,
  ss_virt dX8_nameLength_5 (sa_lc ⟨_, _, _, yX9_length, _, _, _, _, _, rfl, cal_X9_length _ _ (by decide) (by decide), wt_1_224, Or.inl ⟨wt_1_223, wt_1_225⟩⟩ sa_l0) rfl,
  ss_iret dX8_nameLength_8 rfl,
  trivial⟩
set_option maxRecDepth 100000 in
theorem tm_X8_nameLength : sa_tm tb_X8_nameLength := ⟨sm_aload, sm_get, sm_iload, (sm_virt (sa_lc mo_X9_length sa_l0)), sm_iret, trivial⟩
theorem mo_X8_nameLength : sa_mc ct_X8_nameLength := sa_mct tm_X8_nameLength
theorem cal_X8_nameLength (fr lr : Nat) (h1 : 1 + 1 ≤ fr) (h2 : 8 + (2 + 11) + 22 ≤ lr) : sa_cal sa_EX yX8_nameLength cX8_nameLength 2 (some Jvm.ClassFile.FieldType.int) 1 22 ct_X8_nameLength 1 2 fr lr := ⟨met_X8_nameLength, wt_1_222, wt_1_2, ⟨by decide +kernel, by decide +kernel, by decide +kernel⟩, by decide, h1, h2⟩
def tb_X9_at : sa_T := [(0, so_iload 2 1),
  (1, so_if (fun x => x < 0) 29 4),
  (4, so_iload 2 5),
  (5, so_aload 0 6),
  (6, so_iload 1 7),
  (7, so_virt [(7, ct_X9_length)] 1 0 0 10),
  (10, so_cmp (fun x y => y ≤ x) 29 13),
  (13, so_aload 0 14),
  (14, so_get [7] 0 17),
  (17, so_aload 0 18),
  (18, so_get [7] 1 21),
  (21, so_iload 1 22),
  (22, so_iald 23),
  (23, so_iload 2 24),
  (24, so_bin (fun x y => x + y) 25),
  (25, so_iald 26),
  (26, so_goto 30),
  (29, so_push (.inl (-1)) 30),
  (30, so_iret)]
def ct_X9_at : sa_C := sa_ct tb_X9_at 3
set_option maxRecDepth 100000 in
set_option maxHeartbeats 4000000 in
theorem met_X9_at : sa_Met sa_EX yX9_at cX9_at 3 (some Jvm.ClassFile.FieldType.int) 1 22 ct_X9_at := sa_met sa_EX_ok (by decide +kernel) ⟨ss_iload_n rfl dX9_at_0 rfl,
  ss_if_lt (tgt := 29) dX9_at_1 (by decide) rfl,
  ss_iload_n rfl dX9_at_4 rfl,
  ss_aload_n rfl dX9_at_5 rfl,
  ss_iload_n rfl dX9_at_6 rfl,
  ss_virt dX9_at_7 (sa_lc ⟨_, _, _, yX9_length, _, _, _, _, _, rfl, cal_X9_length _ _ (by decide) (by decide), wt_1_224, Or.inl ⟨wt_2_123, wt_1_225⟩⟩ sa_l0) rfl,
  ss_icmp_ge (tgt := 29) dX9_at_10 (by decide) rfl,
  ss_aload_n rfl dX9_at_13 rfl,
  ss_get dX9_at_14 (sa_lc ⟨_, _, _, rfl, by decide, inX9, wt_1_48⟩ sa_l0) rfl,
  ss_aload_n rfl dX9_at_17 rfl,
  ss_get dX9_at_18 (sa_lc ⟨_, _, _, rfl, by decide, inX9, wt_1_49⟩ sa_l0) rfl,
  ss_iload_n rfl dX9_at_21 rfl,
  ss_iald dX9_at_22 rfl,
  ss_iload_n rfl dX9_at_23 rfl,
  ss_iadd dX9_at_24 rfl,
  ss_iald dX9_at_25 rfl,
  ss_goto (tgt := 30) dX9_at_26 (by decide),
  ss_iconst dX9_at_29 (by decide) rfl,
  ss_iret dX9_at_30 rfl,
  trivial⟩
set_option maxRecDepth 100000 in
theorem tm_X9_at : sa_tm tb_X9_at := ⟨sm_iload, sm_if, sm_iload, sm_aload, sm_iload, (sm_virt (sa_lc mo_X9_length sa_l0)), sm_cmp, sm_aload, sm_get, sm_aload, sm_get, sm_iload, sm_iald, sm_iload, sm_bin, sm_iald, sm_goto, sm_push, sm_iret, trivial⟩
theorem mo_X9_at : sa_mc ct_X9_at := sa_mct tm_X9_at
theorem cal_X9_at (fr lr : Nat) (h1 : 1 + 1 ≤ fr) (h2 : 8 + (3 + 11) + 22 ≤ lr) : sa_cal sa_EX yX9_at cX9_at 3 (some Jvm.ClassFile.FieldType.int) 1 22 ct_X9_at 2 3 fr lr := ⟨met_X9_at, wt_2_122, wt_1_4, ⟨by decide +kernel, by decide +kernel, by decide +kernel⟩, by decide, h1, h2⟩
def tb_X8_nameByte : sa_T := [(0, so_aload 0 1),
  (1, so_get [2, 3] 0 4),
  (4, so_iload 1 5),
  (5, so_iload 2 6),
  (6, so_virt [(7, ct_X9_at)] 2 0 0 9),
  (9, so_iret)]
def ct_X8_nameByte : sa_C := sa_ct tb_X8_nameByte 3
set_option maxRecDepth 100000 in
set_option maxHeartbeats 4000000 in
theorem met_X8_nameByte : sa_Met sa_EX yX8_nameByte cX8_nameByte 3 (some Jvm.ClassFile.FieldType.int) 2 44 ct_X8_nameByte := sa_met sa_EX_ok (by decide +kernel) ⟨ss_aload_n rfl dX8_nameByte_0 rfl,
  ss_get dX8_nameByte_1 (sa_lc ⟨_, _, _, rfl, by decide, inX2, wt_1_63⟩ (sa_lc ⟨_, _, _, rfl, by decide, inX3, wt_1_63⟩ sa_l0)) rfl,
  ss_iload_n rfl dX8_nameByte_4 rfl,
  ss_iload_n rfl dX8_nameByte_5 rfl,
  ss_virt dX8_nameByte_6 (sa_lc ⟨_, _, _, yX9_at, _, _, _, _, _, rfl, cal_X9_at _ _ (by decide) (by decide), wt_2_120, Or.inl ⟨wt_2_119, wt_2_121⟩⟩ sa_l0) rfl,
  ss_iret dX8_nameByte_9 rfl,
  trivial⟩
set_option maxRecDepth 100000 in
theorem tm_X8_nameByte : sa_tm tb_X8_nameByte := ⟨sm_aload, sm_get, sm_iload, sm_iload, (sm_virt (sa_lc mo_X9_at sa_l0)), sm_iret, trivial⟩
theorem mo_X8_nameByte : sa_mc ct_X8_nameByte := sa_mct tm_X8_nameByte
theorem cal_X8_nameByte (fr lr : Nat) (h1 : 2 + 1 ≤ fr) (h2 : 8 + (3 + 11) + 44 ≤ lr) : sa_cal sa_EX yX8_nameByte cX8_nameByte 3 (some Jvm.ClassFile.FieldType.int) 2 44 ct_X8_nameByte 2 3 fr lr := ⟨met_X8_nameByte, wt_2_222, wt_1_2, ⟨by decide +kernel, by decide +kernel, by decide +kernel⟩, by decide, h1, h2⟩
def tb_X0_addName : sa_T := [(0, so_push (.inl (0)) 1),
  (1, so_istore 3 2),
  (2, so_iload 3 3),
  (3, so_aload 1 4),
  (4, so_iload 2 5),
  (5, so_virt [(3, ct_X8_nameLength)] 1 0 0 8),
  (8, so_cmp (fun x y => y ≤ x) 27 11),
  (11, so_aload 0 12),
  (12, so_aload 1 13),
  (13, so_iload 2 14),
  (14, so_iload 3 15),
  (15, so_virt [(3, ct_X8_nameByte)] 2 0 0 18),
  (18, so_virt [(0, ct_X0_add)] 1 0 0 21),
  (21, so_iinc 3 (1) 24),
  (24, so_goto 2),
  (27, so_ret)]
def ct_X0_addName : sa_C := sa_ct tb_X0_addName 4
set_option maxRecDepth 100000 in
set_option maxHeartbeats 4000000 in
theorem met_X0_addName : sa_Met sa_EX yX0_addName cX0_addName 4 none 3 66 ct_X0_addName := sa_met sa_EX_ok (by decide +kernel) ⟨ss_iconst dX0_addName_0 (by decide) rfl,
  ss_istore_n rfl dX0_addName_1 (by decide) rfl,
  ss_iload_n rfl dX0_addName_2 rfl,
  ss_aload_n rfl dX0_addName_3 rfl,
  ss_iload_n rfl dX0_addName_4 rfl,
  ss_virt dX0_addName_5 (sa_lc ⟨_, _, _, yX8_nameLength, _, _, _, _, _, rfl, cal_X8_nameLength _ _ (by decide) (by decide), wt_1_221, Or.inr ⟨⟨RX3, "nameLength", "(I)I"⟩, RX8, wt_2_216, wt_1_218, wt_1_220, wn_1_219, ⟨by decide, by decide⟩, by decide +kernel⟩⟩ sa_l0) rfl,
  ss_icmp_ge (tgt := 27) dX0_addName_8 (by decide) rfl,
  ss_aload_n rfl dX0_addName_11 rfl,
  ss_aload_n rfl dX0_addName_12 rfl,
  ss_iload_n rfl dX0_addName_13 rfl,
  ss_iload_n rfl dX0_addName_14 rfl,
  ss_virt dX0_addName_15 (sa_lc ⟨_, _, _, yX8_nameByte, _, _, _, _, _, rfl, cal_X8_nameByte _ _ (by decide) (by decide), wt_2_221, Or.inr ⟨⟨RX3, "nameByte", "(II)I"⟩, RX8, wt_2_217, wt_2_218, wt_2_220, wn_2_219, ⟨by decide, by decide⟩, by decide +kernel⟩⟩ sa_l0) rfl,
  ss_virt dX0_addName_18 (sa_lc ⟨_, _, _, yX0_add, _, _, _, _, _, rfl, cal_X0_add _ _ (by decide) (by decide), wt_2_184, Or.inl ⟨wt_2_183, wt_2_185⟩⟩ sa_l0) rfl,
  ss_iinc dX0_addName_21 (by decide) (by decide) rfl,
  ss_goto (tgt := 2) dX0_addName_24 (by decide),
  ss_ret dX0_addName_27 rfl trivial,
  trivial⟩
set_option maxRecDepth 100000 in
theorem tm_X0_addName : sa_tm tb_X0_addName := ⟨sm_push, sm_istore, sm_iload, sm_aload, sm_iload, (sm_virt (sa_lc mo_X8_nameLength sa_l0)), sm_cmp, sm_aload, sm_aload, sm_iload, sm_iload, (sm_virt (sa_lc mo_X8_nameByte sa_l0)), (sm_virt (sa_lc mo_X0_add sa_l0)), sm_iinc, sm_goto, sm_ret, trivial⟩
theorem mo_X0_addName : sa_mc ct_X0_addName := sa_mct tm_X0_addName
theorem cal_X0_addName (fr lr : Nat) (h1 : 3 + 1 ≤ fr) (h2 : 8 + (4 + 11) + 66 ≤ lr) : sa_cal sa_EX yX0_addName cX0_addName 4 none 3 66 ct_X0_addName 2 3 fr lr := ⟨met_X0_addName, wt_2_215, wt_1_6, ⟨by decide +kernel, by decide +kernel, by decide +kernel⟩, by decide, h1, h2⟩
def tb_X9_count : sa_T := [(0, so_aload 0 1),
  (1, so_get [7] 3 4),
  (4, so_iret)]
def ct_X9_count : sa_C := sa_ct tb_X9_count 1
set_option maxRecDepth 100000 in
set_option maxHeartbeats 4000000 in
theorem met_X9_count : sa_Met sa_EX yX9_count cX9_count 1 (some Jvm.ClassFile.FieldType.int) 0 0 ct_X9_count := sa_met sa_EX_ok (by decide +kernel) ⟨ss_aload_n rfl dX9_count_0 rfl,
  ss_get dX9_count_1 (sa_lc ⟨_, _, _, rfl, by decide, inX9, wt_1_51⟩ sa_l0) rfl,
  ss_iret dX9_count_4 rfl,
  trivial⟩
set_option maxRecDepth 100000 in
theorem tm_X9_count : sa_tm tb_X9_count := ⟨sm_aload, sm_get, sm_iret, trivial⟩
theorem mo_X9_count : sa_mc ct_X9_count := sa_mct tm_X9_count
theorem cal_X9_count (fr lr : Nat) (h1 : 0 + 1 ≤ fr) (h2 : 8 + (1 + 11) + 0 ≤ lr) : sa_cal sa_EX yX9_count cX9_count 1 (some Jvm.ClassFile.FieldType.int) 0 0 ct_X9_count 0 1 fr lr := ⟨met_X9_count, wt_1_210, wt_1_4, ⟨by decide +kernel, by decide +kernel, by decide +kernel⟩, by decide, h1, h2⟩
def tb_X8_has : sa_T := [(0, so_iload 1 1),
  (1, so_if (fun x => x < 0) 19 4),
  (4, so_iload 1 5),
  (5, so_aload 0 6),
  (6, so_get [2, 3] 0 9),
  (9, so_virt [(7, ct_X9_count)] 0 0 0 12),
  (12, so_cmp (fun x y => y ≤ x) 19 15),
  (15, so_push (.inl (1)) 16),
  (16, so_goto 20),
  (19, so_push (.inl (0)) 20),
  (20, so_zret)]
def ct_X8_has : sa_C := sa_ct tb_X8_has 2
set_option maxRecDepth 100000 in
set_option maxHeartbeats 4000000 in
theorem met_X8_has : sa_Met sa_EX yX8_has cX8_has 2 (some Jvm.ClassFile.FieldType.boolean) 1 20 ct_X8_has := sa_met sa_EX_ok (by decide +kernel) ⟨ss_iload_n rfl dX8_has_0 rfl,
  ss_if_lt (tgt := 19) dX8_has_1 (by decide) rfl,
  ss_iload_n rfl dX8_has_4 rfl,
  ss_aload_n rfl dX8_has_5 rfl,
  ss_get dX8_has_6 (sa_lc ⟨_, _, _, rfl, by decide, inX2, wt_1_63⟩ (sa_lc ⟨_, _, _, rfl, by decide, inX3, wt_1_63⟩ sa_l0)) rfl,
  ss_virt dX8_has_9 (sa_lc ⟨_, _, _, yX9_count, _, _, _, _, _, rfl, cal_X9_count _ _ (by decide) (by decide), wt_1_208, Or.inl ⟨wt_1_207, wt_1_209⟩⟩ sa_l0) rfl,
  ss_icmp_ge (tgt := 19) dX8_has_12 (by decide) rfl,
  ss_iconst dX8_has_15 (by decide) rfl,
  ss_goto (tgt := 20) dX8_has_16 (by decide),
  ss_iconst dX8_has_19 (by decide) rfl,
  ss_zret dX8_has_20 rfl,
  trivial⟩
set_option maxRecDepth 100000 in
theorem tm_X8_has : sa_tm tb_X8_has := ⟨sm_iload, sm_if, sm_iload, sm_aload, sm_get, (sm_virt (sa_lc mo_X9_count sa_l0)), sm_cmp, sm_push, sm_goto, sm_push, sm_zret, trivial⟩
theorem mo_X8_has : sa_mc ct_X8_has := sa_mct tm_X8_has
theorem cal_X8_has (fr lr : Nat) (h1 : 1 + 1 ≤ fr) (h2 : 8 + (2 + 11) + 20 ≤ lr) : sa_cal sa_EX yX8_has cX8_has 2 (some Jvm.ClassFile.FieldType.boolean) 1 20 ct_X8_has 1 2 fr lr := ⟨met_X8_has, wt_2_16, wt_1_2, ⟨by decide +kernel, by decide +kernel, by decide +kernel⟩, by decide, h1, h2⟩
def tb_X2_holder : sa_T := [(0, so_aload 0 1),
  (1, so_iload 1 2),
  (2, so_virt [(2, ct_X8_has)] 1 0 0 5),
  (5, so_if (fun x => x = 0) 26 8),
  (8, so_iload 1 9),
  (9, so_aload 0 10),
  (10, so_get [2] 5 13),
  (13, so_alen 14),
  (14, so_cmp (fun x y => y ≤ x) 26 17),
  (17, so_aload 0 18),
  (18, so_get [2] 5 21),
  (21, so_iload 1 22),
  (22, so_iald 23),
  (23, so_goto 27),
  (26, so_iload 1 27),
  (27, so_iret)]
def ct_X2_holder : sa_C := sa_ct tb_X2_holder 2
set_option maxRecDepth 100000 in
set_option maxHeartbeats 4000000 in
theorem met_X2_holder : sa_Met sa_EX yX2_holder cX2_holder 2 (some Jvm.ClassFile.FieldType.int) 2 41 ct_X2_holder := sa_met sa_EX_ok (by decide +kernel) ⟨ss_aload_n rfl dX2_holder_0 rfl,
  ss_iload_n rfl dX2_holder_1 rfl,
  ss_virt dX2_holder_2 (sa_lc ⟨_, _, _, yX8_has, _, _, _, _, _, rfl, cal_X8_has _ _ (by decide) (by decide), wt_2_15, Or.inr ⟨⟨RX2, "has", "(I)Z"⟩, RX8, wt_2_59, wt_2_60, wt_2_61, wn_2_13, ⟨by decide, by decide⟩, by decide +kernel⟩⟩ sa_l0) rfl,
  ss_if_eq (tgt := 26) dX2_holder_5 (by decide) rfl,
  ss_iload_n rfl dX2_holder_8 rfl,
  ss_aload_n rfl dX2_holder_9 rfl,
  ss_get dX2_holder_10 (sa_lc ⟨_, _, _, rfl, by decide, inX2, wt_1_98⟩ sa_l0) rfl,
  ss_alen dX2_holder_13 rfl,
  ss_icmp_ge (tgt := 26) dX2_holder_14 (by decide) rfl,
  ss_aload_n rfl dX2_holder_17 rfl,
  ss_get dX2_holder_18 (sa_lc ⟨_, _, _, rfl, by decide, inX2, wt_1_98⟩ sa_l0) rfl,
  ss_iload_n rfl dX2_holder_21 rfl,
  ss_iald dX2_holder_22 rfl,
  ss_goto (tgt := 27) dX2_holder_23 (by decide),
  ss_iload_n rfl dX2_holder_26 rfl,
  ss_iret dX2_holder_27 rfl,
  trivial⟩
set_option maxRecDepth 100000 in
theorem tm_X2_holder : sa_tm tb_X2_holder := ⟨sm_aload, sm_iload, (sm_virt (sa_lc mo_X8_has sa_l0)), sm_if, sm_iload, sm_aload, sm_get, sm_alen, sm_cmp, sm_aload, sm_get, sm_iload, sm_iald, sm_goto, sm_iload, sm_iret, trivial⟩
theorem mo_X2_holder : sa_mc ct_X2_holder := sa_mct tm_X2_holder
theorem cal_X2_holder (fr lr : Nat) (h1 : 2 + 1 ≤ fr) (h2 : 8 + (2 + 11) + 41 ≤ lr) : sa_cal sa_EX yX2_holder cX2_holder 2 (some Jvm.ClassFile.FieldType.int) 2 41 ct_X2_holder 1 2 fr lr := ⟨met_X2_holder, wt_2_58, wt_1_7, ⟨by decide +kernel, by decide +kernel, by decide +kernel⟩, by decide, h1, h2⟩
def tb_X3_holder : sa_T := [(0, so_aload 0 1),
  (1, so_iload 1 2),
  (2, so_virt [(3, ct_X8_has)] 1 0 0 5),
  (5, so_if (fun x => x = 0) 36 8),
  (8, so_iload 1 9),
  (9, so_aload 0 10),
  (10, so_get [3] 2 13),
  (13, so_alen 14),
  (14, so_cmp (fun x y => y ≤ x) 36 17),
  (17, so_aload 0 18),
  (18, so_get [3] 2 21),
  (21, so_iload 1 22),
  (22, so_iald 23),
  (23, so_push (.inl (-1)) 24),
  (24, so_cmp (fun x y => x = y) 36 27),
  (27, so_aload 0 28),
  (28, so_get [3] 2 31),
  (31, so_iload 1 32),
  (32, so_iald 33),
  (33, so_goto 37),
  (36, so_iload 1 37),
  (37, so_iret)]
def ct_X3_holder : sa_C := sa_ct tb_X3_holder 2
set_option maxRecDepth 100000 in
set_option maxHeartbeats 4000000 in
theorem met_X3_holder : sa_Met sa_EX yX3_holder cX3_holder 2 (some Jvm.ClassFile.FieldType.int) 2 41 ct_X3_holder := sa_met sa_EX_ok (by decide +kernel) ⟨ss_aload_n rfl dX3_holder_0 rfl,
  ss_iload_n rfl dX3_holder_1 rfl,
  ss_virt dX3_holder_2 (sa_lc ⟨_, _, _, yX8_has, _, _, _, _, _, rfl, cal_X8_has _ _ (by decide) (by decide), wt_2_15, Or.inr ⟨⟨RX3, "has", "(I)Z"⟩, RX8, wt_2_46, wt_2_12, wt_2_14, wn_2_13, ⟨by decide, by decide⟩, by decide +kernel⟩⟩ sa_l0) rfl,
  ss_if_eq (tgt := 36) dX3_holder_5 (by decide) rfl,
  ss_iload_n rfl dX3_holder_8 rfl,
  ss_aload_n rfl dX3_holder_9 rfl,
  ss_get dX3_holder_10 (sa_lc ⟨_, _, _, rfl, by decide, inX3, wt_1_62⟩ sa_l0) rfl,
  ss_alen dX3_holder_13 rfl,
  ss_icmp_ge (tgt := 36) dX3_holder_14 (by decide) rfl,
  ss_aload_n rfl dX3_holder_17 rfl,
  ss_get dX3_holder_18 (sa_lc ⟨_, _, _, rfl, by decide, inX3, wt_1_62⟩ sa_l0) rfl,
  ss_iload_n rfl dX3_holder_21 rfl,
  ss_iald dX3_holder_22 rfl,
  ss_iconst dX3_holder_23 (by decide) rfl,
  ss_icmp_eq (tgt := 36) dX3_holder_24 (by decide) rfl,
  ss_aload_n rfl dX3_holder_27 rfl,
  ss_get dX3_holder_28 (sa_lc ⟨_, _, _, rfl, by decide, inX3, wt_1_62⟩ sa_l0) rfl,
  ss_iload_n rfl dX3_holder_31 rfl,
  ss_iald dX3_holder_32 rfl,
  ss_goto (tgt := 37) dX3_holder_33 (by decide),
  ss_iload_n rfl dX3_holder_36 rfl,
  ss_iret dX3_holder_37 rfl,
  trivial⟩
set_option maxRecDepth 100000 in
theorem tm_X3_holder : sa_tm tb_X3_holder := ⟨sm_aload, sm_iload, (sm_virt (sa_lc mo_X8_has sa_l0)), sm_if, sm_iload, sm_aload, sm_get, sm_alen, sm_cmp, sm_aload, sm_get, sm_iload, sm_iald, sm_push, sm_cmp, sm_aload, sm_get, sm_iload, sm_iald, sm_goto, sm_iload, sm_iret, trivial⟩
theorem mo_X3_holder : sa_mc ct_X3_holder := sa_mct tm_X3_holder
theorem cal_X3_holder (fr lr : Nat) (h1 : 2 + 1 ≤ fr) (h2 : 8 + (2 + 11) + 41 ≤ lr) : sa_cal sa_EX yX3_holder cX3_holder 2 (some Jvm.ClassFile.FieldType.int) 2 41 ct_X3_holder 1 2 fr lr := ⟨met_X3_holder, wt_2_45, wt_1_3, ⟨by decide +kernel, by decide +kernel, by decide +kernel⟩, by decide, h1, h2⟩
def tb_X8_contentsLength : sa_T := [(0, so_aload 0 1),
  (1, so_get [2, 3] 1 4),
  (4, so_aload 0 5),
  (5, so_iload 1 6),
  (6, so_virt [(2, ct_X2_holder), (3, ct_X3_holder)] 1 0 0 9),
  (9, so_virt [(7, ct_X9_length)] 1 0 0 12),
  (12, so_iret)]
def ct_X8_contentsLength : sa_C := sa_ct tb_X8_contentsLength 2
set_option maxRecDepth 100000 in
set_option maxHeartbeats 4000000 in
theorem met_X8_contentsLength : sa_Met sa_EX yX8_contentsLength cX8_contentsLength 2 (some Jvm.ClassFile.FieldType.int) 3 62 ct_X8_contentsLength := sa_met sa_EX_ok (by decide +kernel) ⟨ss_aload_n rfl dX8_contentsLength_0 rfl,
  ss_get dX8_contentsLength_1 (sa_lc ⟨_, _, _, rfl, by decide, inX2, wt_1_64⟩ (sa_lc ⟨_, _, _, rfl, by decide, inX3, wt_1_64⟩ sa_l0)) rfl,
  ss_aload_n rfl dX8_contentsLength_4 rfl,
  ss_iload_n rfl dX8_contentsLength_5 rfl,
  ss_virt dX8_contentsLength_6 (sa_lc ⟨_, _, _, yX2_holder, _, _, _, _, _, rfl, cal_X2_holder _ _ (by decide) (by decide), wt_2_57, Or.inr ⟨⟨RX8, "holder", "(I)I"⟩, RX8, wt_2_53, wt_2_55, wt_2_56, wn_2_54, ⟨by decide, by decide⟩, by decide +kernel⟩⟩ (sa_lc ⟨_, _, _, yX3_holder, _, _, _, _, _, rfl, cal_X3_holder _ _ (by decide) (by decide), wt_2_43, Or.inr ⟨⟨RX8, "holder", "(I)I"⟩, RX8, wt_2_53, wt_2_55, wt_2_62, wn_2_54, ⟨by decide, by decide⟩, by decide +kernel⟩⟩ sa_l0)) rfl,
  ss_virt dX8_contentsLength_9 (sa_lc ⟨_, _, _, yX9_length, _, _, _, _, _, rfl, cal_X9_length _ _ (by decide) (by decide), wt_1_224, Or.inl ⟨wt_1_223, wt_1_225⟩⟩ sa_l0) rfl,
  ss_iret dX8_contentsLength_12 rfl,
  trivial⟩
set_option maxRecDepth 100000 in
theorem tm_X8_contentsLength : sa_tm tb_X8_contentsLength := ⟨sm_aload, sm_get, sm_aload, sm_iload, (sm_virt (sa_lc mo_X2_holder (sa_lc mo_X3_holder sa_l0))), (sm_virt (sa_lc mo_X9_length sa_l0)), sm_iret, trivial⟩
theorem mo_X8_contentsLength : sa_mc ct_X8_contentsLength := sa_mct tm_X8_contentsLength
theorem cal_X8_contentsLength (fr lr : Nat) (h1 : 3 + 1 ≤ fr) (h2 : 8 + (2 + 11) + 62 ≤ lr) : sa_cal sa_EX yX8_contentsLength cX8_contentsLength 2 (some Jvm.ClassFile.FieldType.int) 3 62 ct_X8_contentsLength 1 2 fr lr := ⟨met_X8_contentsLength, wt_2_52, wt_1_2, ⟨by decide +kernel, by decide +kernel, by decide +kernel⟩, by decide, h1, h2⟩
def tb_X8_contentsByte : sa_T := [(0, so_aload 0 1),
  (1, so_get [2, 3] 1 4),
  (4, so_aload 0 5),
  (5, so_iload 1 6),
  (6, so_virt [(2, ct_X2_holder), (3, ct_X3_holder)] 1 0 0 9),
  (9, so_iload 2 10),
  (10, so_virt [(7, ct_X9_at)] 2 0 0 13),
  (13, so_iret)]
def ct_X8_contentsByte : sa_C := sa_ct tb_X8_contentsByte 3
set_option maxRecDepth 100000 in
set_option maxHeartbeats 4000000 in
theorem met_X8_contentsByte : sa_Met sa_EX yX8_contentsByte cX8_contentsByte 3 (some Jvm.ClassFile.FieldType.int) 3 62 ct_X8_contentsByte := sa_met sa_EX_ok (by decide +kernel) ⟨ss_aload_n rfl dX8_contentsByte_0 rfl,
  ss_get dX8_contentsByte_1 (sa_lc ⟨_, _, _, rfl, by decide, inX2, wt_1_64⟩ (sa_lc ⟨_, _, _, rfl, by decide, inX3, wt_1_64⟩ sa_l0)) rfl,
  ss_aload_n rfl dX8_contentsByte_4 rfl,
  ss_iload_n rfl dX8_contentsByte_5 rfl,
  ss_virt dX8_contentsByte_6 (sa_lc ⟨_, _, _, yX2_holder, _, _, _, _, _, rfl, cal_X2_holder _ _ (by decide) (by decide), wt_2_57, Or.inr ⟨⟨RX8, "holder", "(I)I"⟩, RX8, wt_2_53, wt_2_55, wt_2_56, wn_2_54, ⟨by decide, by decide⟩, by decide +kernel⟩⟩ (sa_lc ⟨_, _, _, yX3_holder, _, _, _, _, _, rfl, cal_X3_holder _ _ (by decide) (by decide), wt_2_43, Or.inr ⟨⟨RX8, "holder", "(I)I"⟩, RX8, wt_2_53, wt_2_55, wt_2_62, wn_2_54, ⟨by decide, by decide⟩, by decide +kernel⟩⟩ sa_l0)) rfl,
  ss_iload_n rfl dX8_contentsByte_9 rfl,
  ss_virt dX8_contentsByte_10 (sa_lc ⟨_, _, _, yX9_at, _, _, _, _, _, rfl, cal_X9_at _ _ (by decide) (by decide), wt_2_120, Or.inl ⟨wt_2_119, wt_2_121⟩⟩ sa_l0) rfl,
  ss_iret dX8_contentsByte_13 rfl,
  trivial⟩
set_option maxRecDepth 100000 in
theorem tm_X8_contentsByte : sa_tm tb_X8_contentsByte := ⟨sm_aload, sm_get, sm_aload, sm_iload, (sm_virt (sa_lc mo_X2_holder (sa_lc mo_X3_holder sa_l0))), sm_iload, (sm_virt (sa_lc mo_X9_at sa_l0)), sm_iret, trivial⟩
theorem mo_X8_contentsByte : sa_mc ct_X8_contentsByte := sa_mct tm_X8_contentsByte
theorem cal_X8_contentsByte (fr lr : Nat) (h1 : 3 + 1 ≤ fr) (h2 : 8 + (3 + 11) + 62 ≤ lr) : sa_cal sa_EX yX8_contentsByte cX8_contentsByte 3 (some Jvm.ClassFile.FieldType.int) 3 62 ct_X8_contentsByte 2 3 fr lr := ⟨met_X8_contentsByte, wt_3_5, wt_1_2, ⟨by decide +kernel, by decide +kernel, by decide +kernel⟩, by decide, h1, h2⟩
def tb_X0_addContents : sa_T := [(0, so_push (.inl (0)) 1),
  (1, so_istore 3 2),
  (2, so_iload 3 3),
  (3, so_aload 1 4),
  (4, so_iload 2 5),
  (5, so_virt [(3, ct_X8_contentsLength)] 1 0 0 8),
  (8, so_cmp (fun x y => y ≤ x) 27 11),
  (11, so_aload 0 12),
  (12, so_aload 1 13),
  (13, so_iload 2 14),
  (14, so_iload 3 15),
  (15, so_virt [(3, ct_X8_contentsByte)] 2 0 0 18),
  (18, so_virt [(0, ct_X0_add)] 1 0 0 21),
  (21, so_iinc 3 (1) 24),
  (24, so_goto 2),
  (27, so_ret)]
def ct_X0_addContents : sa_C := sa_ct tb_X0_addContents 4
set_option maxRecDepth 100000 in
set_option maxHeartbeats 4000000 in
theorem met_X0_addContents : sa_Met sa_EX yX0_addContents cX0_addContents 4 none 4 84 ct_X0_addContents := sa_met sa_EX_ok (by decide +kernel) ⟨ss_iconst dX0_addContents_0 (by decide) rfl,
  ss_istore_n rfl dX0_addContents_1 (by decide) rfl,
  ss_iload_n rfl dX0_addContents_2 rfl,
  ss_aload_n rfl dX0_addContents_3 rfl,
  ss_iload_n rfl dX0_addContents_4 rfl,
  ss_virt dX0_addContents_5 (sa_lc ⟨_, _, _, yX8_contentsLength, _, _, _, _, _, rfl, cal_X8_contentsLength _ _ (by decide) (by decide), wt_2_51, Or.inr ⟨⟨RX3, "contentsLength", "(I)I"⟩, RX8, wt_2_239, wt_2_48, wt_2_50, wn_2_49, ⟨by decide, by decide⟩, by decide +kernel⟩⟩ sa_l0) rfl,
  ss_icmp_ge (tgt := 27) dX0_addContents_8 (by decide) rfl,
  ss_aload_n rfl dX0_addContents_11 rfl,
  ss_aload_n rfl dX0_addContents_12 rfl,
  ss_iload_n rfl dX0_addContents_13 rfl,
  ss_iload_n rfl dX0_addContents_14 rfl,
  ss_virt dX0_addContents_15 (sa_lc ⟨_, _, _, yX8_contentsByte, _, _, _, _, _, rfl, cal_X8_contentsByte _ _ (by decide) (by decide), wt_3_4, Or.inr ⟨⟨RX3, "contentsByte", "(II)I"⟩, RX8, wt_3_0, wt_3_1, wt_3_3, wn_3_2, ⟨by decide, by decide⟩, by decide +kernel⟩⟩ sa_l0) rfl,
  ss_virt dX0_addContents_18 (sa_lc ⟨_, _, _, yX0_add, _, _, _, _, _, rfl, cal_X0_add _ _ (by decide) (by decide), wt_2_184, Or.inl ⟨wt_2_183, wt_2_185⟩⟩ sa_l0) rfl,
  ss_iinc dX0_addContents_21 (by decide) (by decide) rfl,
  ss_goto (tgt := 2) dX0_addContents_24 (by decide),
  ss_ret dX0_addContents_27 rfl trivial,
  trivial⟩
set_option maxRecDepth 100000 in
theorem tm_X0_addContents : sa_tm tb_X0_addContents := ⟨sm_push, sm_istore, sm_iload, sm_aload, sm_iload, (sm_virt (sa_lc mo_X8_contentsLength sa_l0)), sm_cmp, sm_aload, sm_aload, sm_iload, sm_iload, (sm_virt (sa_lc mo_X8_contentsByte sa_l0)), (sm_virt (sa_lc mo_X0_add sa_l0)), sm_iinc, sm_goto, sm_ret, trivial⟩
theorem mo_X0_addContents : sa_mc ct_X0_addContents := sa_mct tm_X0_addContents
theorem cal_X0_addContents (fr lr : Nat) (h1 : 4 + 1 ≤ fr) (h2 : 8 + (4 + 11) + 84 ≤ lr) : sa_cal sa_EX yX0_addContents cX0_addContents 4 none 4 84 ct_X0_addContents 2 3 fr lr := ⟨met_X0_addContents, wt_2_238, wt_1_6, ⟨by decide +kernel, by decide +kernel, by decide +kernel⟩, by decide, h1, h2⟩
def tb_X0_change : sa_T := [(0, so_iload 1 1),
  (1, so_if (fun x => x < 0) 19 4),
  (4, so_iload 1 5),
  (5, so_aload 0 6),
  (6, so_get [0] 1 9),
  (9, so_cmp (fun x y => y ≤ x) 19 12),
  (12, so_aload 0 13),
  (13, so_get [0] 0 16),
  (16, so_iload 1 17),
  (17, so_iload 2 18),
  (18, so_iast 19),
  (19, so_ret)]
def ct_X0_change : sa_C := sa_ct tb_X0_change 3
set_option maxRecDepth 100000 in
set_option maxHeartbeats 4000000 in
theorem met_X0_change : sa_Met sa_EX yX0_change cX0_change 3 none 0 0 ct_X0_change := sa_met sa_EX_ok (by decide +kernel) ⟨ss_iload_n rfl dX0_change_0 rfl,
  ss_if_lt (tgt := 19) dX0_change_1 (by decide) rfl,
  ss_iload_n rfl dX0_change_4 rfl,
  ss_aload_n rfl dX0_change_5 rfl,
  ss_get dX0_change_6 (sa_lc ⟨_, _, _, rfl, by decide, inX0, wt_1_80⟩ sa_l0) rfl,
  ss_icmp_ge (tgt := 19) dX0_change_9 (by decide) rfl,
  ss_aload_n rfl dX0_change_12 rfl,
  ss_get dX0_change_13 (sa_lc ⟨_, _, _, rfl, by decide, inX0, wt_1_79⟩ sa_l0) rfl,
  ss_iload_n rfl dX0_change_16 rfl,
  ss_iload_n rfl dX0_change_17 rfl,
  ss_iast dX0_change_18 rfl,
  ss_ret dX0_change_19 rfl trivial,
  trivial⟩
set_option maxRecDepth 100000 in
theorem tm_X0_change : sa_tm tb_X0_change := ⟨sm_iload, sm_if, sm_iload, sm_aload, sm_get, sm_cmp, sm_aload, sm_get, sm_iload, sm_iload, sm_iast, sm_ret, trivial⟩
theorem mo_X0_change : sa_mc ct_X0_change := sa_mct tm_X0_change
theorem cal_X0_change (fr lr : Nat) (h1 : 0 + 1 ≤ fr) (h2 : 8 + (3 + 11) + 0 ≤ lr) : sa_cal sa_EX yX0_change cX0_change 3 none 0 0 ct_X0_change 2 3 fr lr := ⟨met_X0_change, wt_3_117, wt_1_6, ⟨by decide +kernel, by decide +kernel, by decide +kernel⟩, by decide, h1, h2⟩
def tb_X0_shorten : sa_T := [(0, so_iload 1 1),
  (1, so_if (fun x => x < 0) 17 4),
  (4, so_iload 1 5),
  (5, so_aload 0 6),
  (6, so_get [0] 1 9),
  (9, so_cmp (fun x y => y ≤ x) 17 12),
  (12, so_aload 0 13),
  (13, so_iload 1 14),
  (14, so_put [0] 1 0 17),
  (17, so_ret)]
def ct_X0_shorten : sa_C := sa_ct tb_X0_shorten 2
set_option maxRecDepth 100000 in
set_option maxHeartbeats 4000000 in
theorem met_X0_shorten : sa_Met sa_EX yX0_shorten cX0_shorten 2 none 0 0 ct_X0_shorten := sa_met sa_EX_ok (by decide +kernel) ⟨ss_iload_n rfl dX0_shorten_0 rfl,
  ss_if_lt (tgt := 17) dX0_shorten_1 (by decide) rfl,
  ss_iload_n rfl dX0_shorten_4 rfl,
  ss_aload_n rfl dX0_shorten_5 rfl,
  ss_get dX0_shorten_6 (sa_lc ⟨_, _, _, rfl, by decide, inX0, wt_1_80⟩ sa_l0) rfl,
  ss_icmp_ge (tgt := 17) dX0_shorten_9 (by decide) rfl,
  ss_aload_n rfl dX0_shorten_12 rfl,
  ss_iload_n rfl dX0_shorten_13 rfl,
  ss_put dX0_shorten_14 (sa_lc ⟨⟨_, _, _, rfl, by decide, inX0, wt_1_80⟩, ⟨_, _, _, _, rfl, tyX0_ok, nmX0⟩, ⟨_, _, _, rfl, tyX0_ok 1 (by decide)⟩, fun q h => by cases h; exact Or.inl rfl⟩ sa_l0) rfl,
  ss_ret dX0_shorten_17 rfl trivial,
  trivial⟩
set_option maxRecDepth 100000 in
theorem tm_X0_shorten : sa_tm tb_X0_shorten := ⟨sm_iload, sm_if, sm_iload, sm_aload, sm_get, sm_cmp, sm_aload, sm_iload, sm_put, sm_ret, trivial⟩
theorem mo_X0_shorten : sa_mc ct_X0_shorten := sa_mct tm_X0_shorten
theorem cal_X0_shorten (fr lr : Nat) (h1 : 0 + 1 ≤ fr) (h2 : 8 + (2 + 11) + 0 ≤ lr) : sa_cal sa_EX yX0_shorten cX0_shorten 2 none 0 0 ct_X0_shorten 1 2 fr lr := ⟨met_X0_shorten, wt_3_125, wt_1_6, ⟨by decide +kernel, by decide +kernel, by decide +kernel⟩, by decide, h1, h2⟩
def tb_X0_restart : sa_T := [(0, so_aload 0 1),
  (1, so_push (.inl (0)) 2),
  (2, so_put [0] 1 0 5),
  (5, so_aload 0 6),
  (6, so_push (.inl (0)) 7),
  (7, so_put [0] 2 2 10),
  (10, so_ret)]
def ct_X0_restart : sa_C := sa_ct tb_X0_restart 1
set_option maxRecDepth 100000 in
set_option maxHeartbeats 4000000 in
theorem met_X0_restart : sa_Met sa_EX yX0_restart cX0_restart 1 none 0 0 ct_X0_restart := sa_met sa_EX_ok (by decide +kernel) ⟨ss_aload_n rfl dX0_restart_0 rfl,
  ss_iconst dX0_restart_1 (by decide) rfl,
  ss_put dX0_restart_2 (sa_lc ⟨⟨_, _, _, rfl, by decide, inX0, wt_1_80⟩, ⟨_, _, _, _, rfl, tyX0_ok, nmX0⟩, ⟨_, _, _, rfl, tyX0_ok 1 (by decide)⟩, fun q h => by cases h; exact Or.inl rfl⟩ sa_l0) rfl,
  ss_aload_n rfl dX0_restart_5 rfl,
  ss_iconst dX0_restart_6 (by decide) rfl,
  ss_put dX0_restart_7 (sa_lc ⟨⟨_, _, _, rfl, by decide, inX0, wt_1_81⟩, ⟨_, _, _, _, rfl, tyX0_ok, nmX0⟩, ⟨_, _, _, rfl, tyX0_ok 2 (by decide)⟩, fun q h => by cases h; exact Or.inl rfl⟩ sa_l0) rfl,
  ss_ret dX0_restart_10 rfl trivial,
  trivial⟩
set_option maxRecDepth 100000 in
theorem tm_X0_restart : sa_tm tb_X0_restart := ⟨sm_aload, sm_push, sm_put, sm_aload, sm_push, sm_put, sm_ret, trivial⟩
theorem mo_X0_restart : sa_mc ct_X0_restart := sa_mct tm_X0_restart
theorem cal_X0_restart (fr lr : Nat) (h1 : 0 + 1 ≤ fr) (h2 : 8 + (1 + 11) + 0 ≤ lr) : sa_cal sa_EX yX0_restart cX0_restart 1 none 0 0 ct_X0_restart 0 1 fr lr := ⟨met_X0_restart, wt_2_165, wt_1_6, ⟨by decide +kernel, by decide +kernel, by decide +kernel⟩, by decide, h1, h2⟩
def tb_X0_become : sa_T := [(0, so_aload 0 1),
  (1, so_virt [(0, ct_X0_restart)] 0 0 0 4),
  (4, so_push (.inl (0)) 5),
  (5, so_istore 2 6),
  (6, so_iload 2 7),
  (7, so_aload 1 8),
  (8, so_virt [(0, ct_X0_size)] 0 0 0 11),
  (11, so_cmp (fun x y => y ≤ x) 29 14),
  (14, so_aload 0 15),
  (15, so_aload 1 16),
  (16, so_iload 2 17),
  (17, so_virt [(0, ct_X0_at)] 1 0 0 20),
  (20, so_virt [(0, ct_X0_add)] 1 0 0 23),
  (23, so_iinc 2 (1) 26),
  (26, so_goto 6),
  (29, so_ret)]
def ct_X0_become : sa_C := sa_ct tb_X0_become 3
set_option maxRecDepth 100000 in
set_option maxHeartbeats 4000000 in
theorem met_X0_become : sa_Met sa_EX yX0_become cX0_become 3 none 1 21 ct_X0_become := sa_met sa_EX_ok (by decide +kernel) ⟨ss_aload_n rfl dX0_become_0 rfl,
  ss_virt dX0_become_1 (sa_lc ⟨_, _, _, yX0_restart, _, _, _, _, _, rfl, cal_X0_restart _ _ (by decide) (by decide), wt_2_163, Or.inl ⟨wt_3_84, wt_2_164⟩⟩ sa_l0) rfl,
  ss_iconst dX0_become_4 (by decide) rfl,
  ss_istore_n rfl dX0_become_5 (by decide) rfl,
  ss_iload_n rfl dX0_become_6 rfl,
  ss_aload_n rfl dX0_become_7 rfl,
  ss_virt dX0_become_8 (sa_lc ⟨_, _, _, yX0_size, _, _, _, _, _, rfl, cal_X0_size _ _ (by decide) (by decide), wt_2_196, Or.inl ⟨wt_3_85, wt_2_197⟩⟩ sa_l0) rfl,
  ss_icmp_ge (tgt := 29) dX0_become_11 (by decide) rfl,
  ss_aload_n rfl dX0_become_14 rfl,
  ss_aload_n rfl dX0_become_15 rfl,
  ss_iload_n rfl dX0_become_16 rfl,
  ss_virt dX0_become_17 (sa_lc ⟨_, _, _, yX0_at, _, _, _, _, _, rfl, cal_X0_at _ _ (by decide) (by decide), wt_3_87, Or.inl ⟨wt_3_86, wt_3_88⟩⟩ sa_l0) rfl,
  ss_virt dX0_become_20 (sa_lc ⟨_, _, _, yX0_add, _, _, _, _, _, rfl, cal_X0_add _ _ (by decide) (by decide), wt_2_184, Or.inl ⟨wt_2_183, wt_2_185⟩⟩ sa_l0) rfl,
  ss_iinc dX0_become_23 (by decide) (by decide) rfl,
  ss_goto (tgt := 6) dX0_become_26 (by decide),
  ss_ret dX0_become_29 rfl trivial,
  trivial⟩
set_option maxRecDepth 100000 in
theorem tm_X0_become : sa_tm tb_X0_become := ⟨sm_aload, (sm_virt (sa_lc mo_X0_restart sa_l0)), sm_push, sm_istore, sm_iload, sm_aload, (sm_virt (sa_lc mo_X0_size sa_l0)), sm_cmp, sm_aload, sm_aload, sm_iload, (sm_virt (sa_lc mo_X0_at sa_l0)), (sm_virt (sa_lc mo_X0_add sa_l0)), sm_iinc, sm_goto, sm_ret, trivial⟩
theorem mo_X0_become : sa_mc ct_X0_become := sa_mct tm_X0_become
theorem cal_X0_become (fr lr : Nat) (h1 : 1 + 1 ≤ fr) (h2 : 8 + (3 + 11) + 21 ≤ lr) : sa_cal sa_EX yX0_become cX0_become 3 none 1 21 ct_X0_become 1 2 fr lr := ⟨met_X0_become, wt_3_83, wt_1_6, ⟨by decide +kernel, by decide +kernel, by decide +kernel⟩, by decide, h1, h2⟩
def tb_X1_init : sa_T := [(0, so_aload 0 1),
  (1, so_obj 4),
  (4, so_aload 0 5),
  (5, so_aload 1 6),
  (6, so_put [1] 0 1 9),
  (9, so_aload 0 10),
  (10, so_push (.inl (-1)) 11),
  (11, so_put [1] 4 0 14),
  (14, so_ret)]
def ct_X1_init : sa_C := sa_ct tb_X1_init 2
set_option maxRecDepth 100000 in
set_option maxHeartbeats 4000000 in
theorem met_X1_init : sa_Met sa_EX yX1_init cX1_init 2 none 1 20 ct_X1_init := sa_met sa_EX_ok (by decide +kernel) ⟨ss_aload_n rfl dX1_init_0 rfl,
  ss_obj dX1_init_1 wt_1_115 wt_1_28 wt_1_29 (by decide) (by decide) rfl,
  ss_aload_n rfl dX1_init_4 rfl,
  ss_aload_n rfl dX1_init_5 rfl,
  ss_put dX1_init_6 (sa_lc ⟨⟨_, _, _, rfl, by decide, inX1, wt_1_116⟩, ⟨_, _, _, _, rfl, tyX1_ok, nmX1⟩, ⟨_, _, _, _, rfl, tyX1_ok 0 (by decide), Or.inl ⟨_, rfl⟩⟩, fun q h => by cases h; exact Or.inr ⟨rfl, rfl, rfl⟩⟩ sa_l0) rfl,
  ss_aload_n rfl dX1_init_9 rfl,
  ss_iconst dX1_init_10 (by decide) rfl,
  ss_put dX1_init_11 (sa_lc ⟨⟨_, _, _, rfl, by decide, inX1, wt_1_120⟩, ⟨_, _, _, _, rfl, tyX1_ok, nmX1⟩, ⟨_, _, _, rfl, tyX1_ok 4 (by decide)⟩, fun q h => by cases h; exact Or.inl rfl⟩ sa_l0) rfl,
  ss_ret dX1_init_14 rfl trivial,
  trivial⟩
set_option maxRecDepth 100000 in
theorem tm_X1_init : sa_tm tb_X1_init := ⟨sm_aload, sm_obj, sm_aload, sm_aload, sm_put, sm_aload, sm_push, sm_put, sm_ret, trivial⟩
theorem mo_X1_init : sa_mc ct_X1_init := sa_mct tm_X1_init
theorem cal_X1_init (fr lr : Nat) (h1 : 1 + 1 ≤ fr) (h2 : 8 + (2 + 11) + 20 ≤ lr) : sa_cal sa_EX yX1_init cX1_init 2 none 1 20 ct_X1_init 1 2 fr lr := ⟨met_X1_init, wt_1_114, wt_1_8, ⟨by decide +kernel, by decide +kernel, by decide +kernel⟩, by decide, h1, h2⟩
def tb_X1_restart : sa_T := [(0, so_aload 0 1),
  (1, so_push (.inl (0)) 2),
  (2, so_put [1] 1 0 5),
  (5, so_aload 0 6),
  (6, so_aload 0 7),
  (7, so_get [1] 0 10),
  (10, so_virt [(0, ct_X0_size)] 0 0 0 13),
  (13, so_put [1] 2 0 16),
  (16, so_aload 0 17),
  (17, so_push (.inl (0)) 18),
  (18, so_put [1] 3 0 21),
  (21, so_aload 0 22),
  (22, so_push (.inl (-1)) 23),
  (23, so_put [1] 4 0 26),
  (26, so_ret)]
def ct_X1_restart : sa_C := sa_ct tb_X1_restart 1
set_option maxRecDepth 100000 in
set_option maxHeartbeats 4000000 in
theorem met_X1_restart : sa_Met sa_EX yX1_restart cX1_restart 1 none 1 20 ct_X1_restart := sa_met sa_EX_ok (by decide +kernel) ⟨ss_aload_n rfl dX1_restart_0 rfl,
  ss_iconst dX1_restart_1 (by decide) rfl,
  ss_put dX1_restart_2 (sa_lc ⟨⟨_, _, _, rfl, by decide, inX1, wt_1_117⟩, ⟨_, _, _, _, rfl, tyX1_ok, nmX1⟩, ⟨_, _, _, rfl, tyX1_ok 1 (by decide)⟩, fun q h => by cases h; exact Or.inl rfl⟩ sa_l0) rfl,
  ss_aload_n rfl dX1_restart_5 rfl,
  ss_aload_n rfl dX1_restart_6 rfl,
  ss_get dX1_restart_7 (sa_lc ⟨_, _, _, rfl, by decide, inX1, wt_1_116⟩ sa_l0) rfl,
  ss_virt dX1_restart_10 (sa_lc ⟨_, _, _, yX0_size, _, _, _, _, _, rfl, cal_X0_size _ _ (by decide) (by decide), wt_2_196, Or.inl ⟨wt_3_137, wt_2_197⟩⟩ sa_l0) rfl,
  ss_put dX1_restart_13 (sa_lc ⟨⟨_, _, _, rfl, by decide, inX1, wt_1_118⟩, ⟨_, _, _, _, rfl, tyX1_ok, nmX1⟩, ⟨_, _, _, rfl, tyX1_ok 2 (by decide)⟩, fun q h => by cases h; exact Or.inl rfl⟩ sa_l0) rfl,
  ss_aload_n rfl dX1_restart_16 rfl,
  ss_iconst dX1_restart_17 (by decide) rfl,
  ss_put dX1_restart_18 (sa_lc ⟨⟨_, _, _, rfl, by decide, inX1, wt_1_119⟩, ⟨_, _, _, _, rfl, tyX1_ok, nmX1⟩, ⟨_, _, _, rfl, tyX1_ok 3 (by decide)⟩, fun q h => by cases h; exact Or.inl rfl⟩ sa_l0) rfl,
  ss_aload_n rfl dX1_restart_21 rfl,
  ss_iconst dX1_restart_22 (by decide) rfl,
  ss_put dX1_restart_23 (sa_lc ⟨⟨_, _, _, rfl, by decide, inX1, wt_1_120⟩, ⟨_, _, _, _, rfl, tyX1_ok, nmX1⟩, ⟨_, _, _, rfl, tyX1_ok 4 (by decide)⟩, fun q h => by cases h; exact Or.inl rfl⟩ sa_l0) rfl,
  ss_ret dX1_restart_26 rfl trivial,
  trivial⟩
set_option maxRecDepth 100000 in
theorem tm_X1_restart : sa_tm tb_X1_restart := ⟨sm_aload, sm_push, sm_put, sm_aload, sm_aload, sm_get, (sm_virt (sa_lc mo_X0_size sa_l0)), sm_put, sm_aload, sm_push, sm_put, sm_aload, sm_push, sm_put, sm_ret, trivial⟩
theorem mo_X1_restart : sa_mc ct_X1_restart := sa_mct tm_X1_restart
theorem cal_X1_restart (fr lr : Nat) (h1 : 1 + 1 ≤ fr) (h2 : 8 + (1 + 11) + 20 ≤ lr) : sa_cal sa_EX yX1_restart cX1_restart 1 none 1 20 ct_X1_restart 0 1 fr lr := ⟨met_X1_restart, wt_3_136, wt_1_8, ⟨by decide +kernel, by decide +kernel, by decide +kernel⟩, by decide, h1, h2⟩
def tb_X1_position : sa_T := [(0, so_aload 0 1),
  (1, so_get [1] 1 4),
  (4, so_iret)]
def ct_X1_position : sa_C := sa_ct tb_X1_position 1
set_option maxRecDepth 100000 in
set_option maxHeartbeats 4000000 in
theorem met_X1_position : sa_Met sa_EX yX1_position cX1_position 1 (some Jvm.ClassFile.FieldType.int) 0 0 ct_X1_position := sa_met sa_EX_ok (by decide +kernel) ⟨ss_aload_n rfl dX1_position_0 rfl,
  ss_get dX1_position_1 (sa_lc ⟨_, _, _, rfl, by decide, inX1, wt_1_117⟩ sa_l0) rfl,
  ss_iret dX1_position_4 rfl,
  trivial⟩
set_option maxRecDepth 100000 in
theorem tm_X1_position : sa_tm tb_X1_position := ⟨sm_aload, sm_get, sm_iret, trivial⟩
theorem mo_X1_position : sa_mc ct_X1_position := sa_mct tm_X1_position
theorem cal_X1_position (fr lr : Nat) (h1 : 0 + 1 ≤ fr) (h2 : 8 + (1 + 11) + 0 ≤ lr) : sa_cal sa_EX yX1_position cX1_position 1 (some Jvm.ClassFile.FieldType.int) 0 0 ct_X1_position 0 1 fr lr := ⟨met_X1_position, wt_3_170, wt_1_8, ⟨by decide +kernel, by decide +kernel, by decide +kernel⟩, by decide, h1, h2⟩
def tb_X1_hasFinding : sa_T := [(0, so_aload 0 1),
  (1, so_get [1] 3 4),
  (4, so_if (fun x => x = 0) 11 7),
  (7, so_push (.inl (1)) 8),
  (8, so_goto 12),
  (11, so_push (.inl (0)) 12),
  (12, so_zret)]
def ct_X1_hasFinding : sa_C := sa_ct tb_X1_hasFinding 1
set_option maxRecDepth 100000 in
set_option maxHeartbeats 4000000 in
theorem met_X1_hasFinding : sa_Met sa_EX yX1_hasFinding cX1_hasFinding 1 (some Jvm.ClassFile.FieldType.boolean) 0 0 ct_X1_hasFinding := sa_met sa_EX_ok (by decide +kernel) ⟨ss_aload_n rfl dX1_hasFinding_0 rfl,
  ss_get dX1_hasFinding_1 (sa_lc ⟨_, _, _, rfl, by decide, inX1, wt_1_119⟩ sa_l0) rfl,
  ss_if_eq (tgt := 11) dX1_hasFinding_4 (by decide) rfl,
  ss_iconst dX1_hasFinding_7 (by decide) rfl,
  ss_goto (tgt := 12) dX1_hasFinding_8 (by decide),
  ss_iconst dX1_hasFinding_11 (by decide) rfl,
  ss_zret dX1_hasFinding_12 rfl,
  trivial⟩
set_option maxRecDepth 100000 in
theorem tm_X1_hasFinding : sa_tm tb_X1_hasFinding := ⟨sm_aload, sm_get, sm_if, sm_push, sm_goto, sm_push, sm_zret, trivial⟩
theorem mo_X1_hasFinding : sa_mc ct_X1_hasFinding := sa_mct tm_X1_hasFinding
theorem cal_X1_hasFinding (fr lr : Nat) (h1 : 0 + 1 ≤ fr) (h2 : 8 + (1 + 11) + 0 ≤ lr) : sa_cal sa_EX yX1_hasFinding cX1_hasFinding 1 (some Jvm.ClassFile.FieldType.boolean) 0 0 ct_X1_hasFinding 0 1 fr lr := ⟨met_X1_hasFinding, wt_4_131, wt_1_8, ⟨by decide +kernel, by decide +kernel, by decide +kernel⟩, by decide, h1, h2⟩
def tb_X1_findingKind : sa_T := [(0, so_aload 0 1),
  (1, so_get [1] 3 4),
  (4, so_iret)]
def ct_X1_findingKind : sa_C := sa_ct tb_X1_findingKind 1
set_option maxRecDepth 100000 in
set_option maxHeartbeats 4000000 in
theorem met_X1_findingKind : sa_Met sa_EX yX1_findingKind cX1_findingKind 1 (some Jvm.ClassFile.FieldType.int) 0 0 ct_X1_findingKind := sa_met sa_EX_ok (by decide +kernel) ⟨ss_aload_n rfl dX1_findingKind_0 rfl,
  ss_get dX1_findingKind_1 (sa_lc ⟨_, _, _, rfl, by decide, inX1, wt_1_119⟩ sa_l0) rfl,
  ss_iret dX1_findingKind_4 rfl,
  trivial⟩
set_option maxRecDepth 100000 in
theorem tm_X1_findingKind : sa_tm tb_X1_findingKind := ⟨sm_aload, sm_get, sm_iret, trivial⟩
theorem mo_X1_findingKind : sa_mc ct_X1_findingKind := sa_mct tm_X1_findingKind
theorem cal_X1_findingKind (fr lr : Nat) (h1 : 0 + 1 ≤ fr) (h2 : 8 + (1 + 11) + 0 ≤ lr) : sa_cal sa_EX yX1_findingKind cX1_findingKind 1 (some Jvm.ClassFile.FieldType.int) 0 0 ct_X1_findingKind 0 1 fr lr := ⟨met_X1_findingKind, wt_4_155, wt_1_8, ⟨by decide +kernel, by decide +kernel, by decide +kernel⟩, by decide, h1, h2⟩
def tb_X1_findingPlace : sa_T := [(0, so_aload 0 1),
  (1, so_get [1] 4 4),
  (4, so_iret)]
def ct_X1_findingPlace : sa_C := sa_ct tb_X1_findingPlace 1
set_option maxRecDepth 100000 in
set_option maxHeartbeats 4000000 in
theorem met_X1_findingPlace : sa_Met sa_EX yX1_findingPlace cX1_findingPlace 1 (some Jvm.ClassFile.FieldType.int) 0 0 ct_X1_findingPlace := sa_met sa_EX_ok (by decide +kernel) ⟨ss_aload_n rfl dX1_findingPlace_0 rfl,
  ss_get dX1_findingPlace_1 (sa_lc ⟨_, _, _, rfl, by decide, inX1, wt_1_120⟩ sa_l0) rfl,
  ss_iret dX1_findingPlace_4 rfl,
  trivial⟩
set_option maxRecDepth 100000 in
theorem tm_X1_findingPlace : sa_tm tb_X1_findingPlace := ⟨sm_aload, sm_get, sm_iret, trivial⟩
theorem mo_X1_findingPlace : sa_mc ct_X1_findingPlace := sa_mct tm_X1_findingPlace
theorem cal_X1_findingPlace (fr lr : Nat) (h1 : 0 + 1 ≤ fr) (h2 : 8 + (1 + 11) + 0 ≤ lr) : sa_cal sa_EX yX1_findingPlace cX1_findingPlace 1 (some Jvm.ClassFile.FieldType.int) 0 0 ct_X1_findingPlace 0 1 fr lr := ⟨met_X1_findingPlace, wt_4_164, wt_1_8, ⟨by decide +kernel, by decide +kernel, by decide +kernel⟩, by decide, h1, h2⟩
def tb_X1_hasMore : sa_T := [(0, so_aload 0 1),
  (1, so_get [1] 3 4),
  (4, so_if (fun x => x = 0) 7 22),
  (7, so_aload 0 8),
  (8, so_get [1] 1 11),
  (11, so_aload 0 12),
  (12, so_get [1] 2 15),
  (15, so_cmp (fun x y => y ≤ x) 22 18),
  (18, so_push (.inl (1)) 19),
  (19, so_goto 23),
  (22, so_push (.inl (0)) 23),
  (23, so_zret)]
def ct_X1_hasMore : sa_C := sa_ct tb_X1_hasMore 1
set_option maxRecDepth 100000 in
set_option maxHeartbeats 4000000 in
theorem met_X1_hasMore : sa_Met sa_EX yX1_hasMore cX1_hasMore 1 (some Jvm.ClassFile.FieldType.boolean) 0 0 ct_X1_hasMore := sa_met sa_EX_ok (by decide +kernel) ⟨ss_aload_n rfl dX1_hasMore_0 rfl,
  ss_get dX1_hasMore_1 (sa_lc ⟨_, _, _, rfl, by decide, inX1, wt_1_119⟩ sa_l0) rfl,
  ss_if_ne (tgt := 22) dX1_hasMore_4 (by decide) rfl,
  ss_aload_n rfl dX1_hasMore_7 rfl,
  ss_get dX1_hasMore_8 (sa_lc ⟨_, _, _, rfl, by decide, inX1, wt_1_117⟩ sa_l0) rfl,
  ss_aload_n rfl dX1_hasMore_11 rfl,
  ss_get dX1_hasMore_12 (sa_lc ⟨_, _, _, rfl, by decide, inX1, wt_1_118⟩ sa_l0) rfl,
  ss_icmp_ge (tgt := 22) dX1_hasMore_15 (by decide) rfl,
  ss_iconst dX1_hasMore_18 (by decide) rfl,
  ss_goto (tgt := 23) dX1_hasMore_19 (by decide),
  ss_iconst dX1_hasMore_22 (by decide) rfl,
  ss_zret dX1_hasMore_23 rfl,
  trivial⟩
set_option maxRecDepth 100000 in
theorem tm_X1_hasMore : sa_tm tb_X1_hasMore := ⟨sm_aload, sm_get, sm_if, sm_aload, sm_get, sm_aload, sm_get, sm_cmp, sm_push, sm_goto, sm_push, sm_zret, trivial⟩
theorem mo_X1_hasMore : sa_mc ct_X1_hasMore := sa_mct tm_X1_hasMore
theorem cal_X1_hasMore (fr lr : Nat) (h1 : 0 + 1 ≤ fr) (h2 : 8 + (1 + 11) + 0 ≤ lr) : sa_cal sa_EX yX1_hasMore cX1_hasMore 1 (some Jvm.ClassFile.FieldType.boolean) 0 0 ct_X1_hasMore 0 1 fr lr := ⟨met_X1_hasMore, wt_3_166, wt_1_8, ⟨by decide +kernel, by decide +kernel, by decide +kernel⟩, by decide, h1, h2⟩
def tb_X1_byteAt : sa_T := [(0, so_aload 0 1),
  (1, so_get [1] 0 4),
  (4, so_iload 1 5),
  (5, so_virt [(0, ct_X0_at)] 1 0 0 8),
  (8, so_iret)]
def ct_X1_byteAt : sa_C := sa_ct tb_X1_byteAt 2
set_option maxRecDepth 100000 in
set_option maxHeartbeats 4000000 in
theorem met_X1_byteAt : sa_Met sa_EX yX1_byteAt cX1_byteAt 2 (some Jvm.ClassFile.FieldType.int) 1 21 ct_X1_byteAt := sa_met sa_EX_ok (by decide +kernel) ⟨ss_aload_n rfl dX1_byteAt_0 rfl,
  ss_get dX1_byteAt_1 (sa_lc ⟨_, _, _, rfl, by decide, inX1, wt_1_116⟩ sa_l0) rfl,
  ss_iload_n rfl dX1_byteAt_4 rfl,
  ss_virt dX1_byteAt_5 (sa_lc ⟨_, _, _, yX0_at, _, _, _, _, _, rfl, cal_X0_at _ _ (by decide) (by decide), wt_3_87, Or.inl ⟨wt_3_154, wt_3_88⟩⟩ sa_l0) rfl,
  ss_iret dX1_byteAt_8 rfl,
  trivial⟩
set_option maxRecDepth 100000 in
theorem tm_X1_byteAt : sa_tm tb_X1_byteAt := ⟨sm_aload, sm_get, sm_iload, (sm_virt (sa_lc mo_X0_at sa_l0)), sm_iret, trivial⟩
theorem mo_X1_byteAt : sa_mc ct_X1_byteAt := sa_mct tm_X1_byteAt
theorem cal_X1_byteAt (fr lr : Nat) (h1 : 1 + 1 ≤ fr) (h2 : 8 + (2 + 11) + 21 ≤ lr) : sa_cal sa_EX yX1_byteAt cX1_byteAt 2 (some Jvm.ClassFile.FieldType.int) 1 21 ct_X1_byteAt 1 2 fr lr := ⟨met_X1_byteAt, wt_4_12, wt_1_8, ⟨by decide +kernel, by decide +kernel, by decide +kernel⟩, by decide, h1, h2⟩
def tb_X1_peek : sa_T := [(0, so_aload 0 1),
  (1, so_get [1] 0 4),
  (4, so_aload 0 5),
  (5, so_get [1] 1 8),
  (8, so_virt [(0, ct_X0_at)] 1 0 0 11),
  (11, so_iret)]
def ct_X1_peek : sa_C := sa_ct tb_X1_peek 1
set_option maxRecDepth 100000 in
set_option maxHeartbeats 4000000 in
theorem met_X1_peek : sa_Met sa_EX yX1_peek cX1_peek 1 (some Jvm.ClassFile.FieldType.int) 1 21 ct_X1_peek := sa_met sa_EX_ok (by decide +kernel) ⟨ss_aload_n rfl dX1_peek_0 rfl,
  ss_get dX1_peek_1 (sa_lc ⟨_, _, _, rfl, by decide, inX1, wt_1_116⟩ sa_l0) rfl,
  ss_aload_n rfl dX1_peek_4 rfl,
  ss_get dX1_peek_5 (sa_lc ⟨_, _, _, rfl, by decide, inX1, wt_1_117⟩ sa_l0) rfl,
  ss_virt dX1_peek_8 (sa_lc ⟨_, _, _, yX0_at, _, _, _, _, _, rfl, cal_X0_at _ _ (by decide) (by decide), wt_3_87, Or.inl ⟨wt_3_154, wt_3_88⟩⟩ sa_l0) rfl,
  ss_iret dX1_peek_11 rfl,
  trivial⟩
set_option maxRecDepth 100000 in
theorem tm_X1_peek : sa_tm tb_X1_peek := ⟨sm_aload, sm_get, sm_aload, sm_get, (sm_virt (sa_lc mo_X0_at sa_l0)), sm_iret, trivial⟩
theorem mo_X1_peek : sa_mc ct_X1_peek := sa_mct tm_X1_peek
theorem cal_X1_peek (fr lr : Nat) (h1 : 1 + 1 ≤ fr) (h2 : 8 + (1 + 11) + 21 ≤ lr) : sa_cal sa_EX yX1_peek cX1_peek 1 (some Jvm.ClassFile.FieldType.int) 1 21 ct_X1_peek 0 1 fr lr := ⟨met_X1_peek, wt_3_200, wt_1_8, ⟨by decide +kernel, by decide +kernel, by decide +kernel⟩, by decide, h1, h2⟩
def tb_X1_take : sa_T := [(0, so_aload 0 1),
  (1, so_get [1] 0 4),
  (4, so_aload 0 5),
  (5, so_get [1] 1 8),
  (8, so_virt [(0, ct_X0_at)] 1 0 0 11),
  (11, so_istore 1 12),
  (12, so_aload 0 13),
  (13, so_get [1] 1 16),
  (16, so_aload 0 17),
  (17, so_get [1] 2 20),
  (20, so_cmp (fun x y => y ≤ x) 33 23),
  (23, so_aload 0 24),
  (24, so_dup 25),
  (25, so_get [1] 1 28),
  (28, so_push (.inl (1)) 29),
  (29, so_bin (fun x y => x + y) 30),
  (30, so_put [1] 1 0 33),
  (33, so_iload 1 34),
  (34, so_iret)]
def ct_X1_take : sa_C := sa_ct tb_X1_take 2
set_option maxRecDepth 100000 in
set_option maxHeartbeats 4000000 in
theorem met_X1_take : sa_Met sa_EX yX1_take cX1_take 2 (some Jvm.ClassFile.FieldType.int) 1 21 ct_X1_take := sa_met sa_EX_ok (by decide +kernel) ⟨ss_aload_n rfl dX1_take_0 rfl,
  ss_get dX1_take_1 (sa_lc ⟨_, _, _, rfl, by decide, inX1, wt_1_116⟩ sa_l0) rfl,
  ss_aload_n rfl dX1_take_4 rfl,
  ss_get dX1_take_5 (sa_lc ⟨_, _, _, rfl, by decide, inX1, wt_1_117⟩ sa_l0) rfl,
  ss_virt dX1_take_8 (sa_lc ⟨_, _, _, yX0_at, _, _, _, _, _, rfl, cal_X0_at _ _ (by decide) (by decide), wt_3_87, Or.inl ⟨wt_3_154, wt_3_88⟩⟩ sa_l0) rfl,
  ss_istore_n rfl dX1_take_11 (by decide) rfl,
  ss_aload_n rfl dX1_take_12 rfl,
  ss_get dX1_take_13 (sa_lc ⟨_, _, _, rfl, by decide, inX1, wt_1_117⟩ sa_l0) rfl,
  ss_aload_n rfl dX1_take_16 rfl,
  ss_get dX1_take_17 (sa_lc ⟨_, _, _, rfl, by decide, inX1, wt_1_118⟩ sa_l0) rfl,
  ss_icmp_ge (tgt := 33) dX1_take_20 (by decide) rfl,
  ss_aload_n rfl dX1_take_23 rfl,
  ss_dup dX1_take_24 rfl,
  ss_get dX1_take_25 (sa_lc ⟨_, _, _, rfl, by decide, inX1, wt_1_117⟩ sa_l0) rfl,
  ss_iconst dX1_take_28 (by decide) rfl,
  ss_iadd dX1_take_29 rfl,
  ss_put dX1_take_30 (sa_lc ⟨⟨_, _, _, rfl, by decide, inX1, wt_1_117⟩, ⟨_, _, _, _, rfl, tyX1_ok, nmX1⟩, ⟨_, _, _, rfl, tyX1_ok 1 (by decide)⟩, fun q h => by cases h; exact Or.inl rfl⟩ sa_l0) rfl,
  ss_iload_n rfl dX1_take_33 rfl,
  ss_iret dX1_take_34 rfl,
  trivial⟩
set_option maxRecDepth 100000 in
theorem tm_X1_take : sa_tm tb_X1_take := ⟨sm_aload, sm_get, sm_aload, sm_get, (sm_virt (sa_lc mo_X0_at sa_l0)), sm_istore, sm_aload, sm_get, sm_aload, sm_get, sm_cmp, sm_aload, sm_dup, sm_get, sm_push, sm_bin, sm_put, sm_iload, sm_iret, trivial⟩
theorem mo_X1_take : sa_mc ct_X1_take := sa_mct tm_X1_take
theorem cal_X1_take (fr lr : Nat) (h1 : 1 + 1 ≤ fr) (h2 : 8 + (2 + 11) + 21 ≤ lr) : sa_cal sa_EX yX1_take cX1_take 2 (some Jvm.ClassFile.FieldType.int) 1 21 ct_X1_take 0 1 fr lr := ⟨met_X1_take, wt_3_208, wt_1_8, ⟨by decide +kernel, by decide +kernel, by decide +kernel⟩, by decide, h1, h2⟩
def tb_X1_takeTwo : sa_T := [(0, so_aload 0 1),
  (1, so_virt [(1, ct_X1_take)] 0 0 0 4),
  (4, so_istore 1 5),
  (5, so_iload 1 6),
  (6, so_push (.inl (8)) 8),
  (8, so_bin (fun x y => x <<< (y &&& 31)) 9),
  (9, so_aload 0 10),
  (10, so_virt [(1, ct_X1_take)] 0 0 0 13),
  (13, so_bin (fun x y => x ||| y) 14),
  (14, so_iret)]
def ct_X1_takeTwo : sa_C := sa_ct tb_X1_takeTwo 2
set_option maxRecDepth 100000 in
set_option maxHeartbeats 4000000 in
theorem met_X1_takeTwo : sa_Met sa_EX yX1_takeTwo cX1_takeTwo 2 (some Jvm.ClassFile.FieldType.int) 2 42 ct_X1_takeTwo := sa_met sa_EX_ok (by decide +kernel) ⟨ss_aload_n rfl dX1_takeTwo_0 rfl,
  ss_virt dX1_takeTwo_1 (sa_lc ⟨_, _, _, yX1_take, _, _, _, _, _, rfl, cal_X1_take _ _ (by decide) (by decide), wt_3_206, Or.inl ⟨wt_4_21, wt_3_207⟩⟩ sa_l0) rfl,
  ss_istore_n rfl dX1_takeTwo_4 (by decide) rfl,
  ss_iload_n rfl dX1_takeTwo_5 rfl,
  ss_bipush dX1_takeTwo_6 (by decide) rfl,
  ss_ishl dX1_takeTwo_8 rfl,
  ss_aload_n rfl dX1_takeTwo_9 rfl,
  ss_virt dX1_takeTwo_10 (sa_lc ⟨_, _, _, yX1_take, _, _, _, _, _, rfl, cal_X1_take _ _ (by decide) (by decide), wt_3_206, Or.inl ⟨wt_4_21, wt_3_207⟩⟩ sa_l0) rfl,
  ss_ior dX1_takeTwo_13 rfl,
  ss_iret dX1_takeTwo_14 rfl,
  trivial⟩
set_option maxRecDepth 100000 in
theorem tm_X1_takeTwo : sa_tm tb_X1_takeTwo := ⟨sm_aload, (sm_virt (sa_lc mo_X1_take sa_l0)), sm_istore, sm_iload, sm_push, sm_bin, sm_aload, (sm_virt (sa_lc mo_X1_take sa_l0)), sm_bin, sm_iret, trivial⟩
theorem mo_X1_takeTwo : sa_mc ct_X1_takeTwo := sa_mct tm_X1_takeTwo
theorem cal_X1_takeTwo (fr lr : Nat) (h1 : 2 + 1 ≤ fr) (h2 : 8 + (2 + 11) + 42 ≤ lr) : sa_cal sa_EX yX1_takeTwo cX1_takeTwo 2 (some Jvm.ClassFile.FieldType.int) 2 42 ct_X1_takeTwo 0 1 fr lr := ⟨met_X1_takeTwo, wt_4_82, wt_1_8, ⟨by decide +kernel, by decide +kernel, by decide +kernel⟩, by decide, h1, h2⟩
def tb_X1_find : sa_T := [(0, so_aload 0 1),
  (1, so_iload 1 2),
  (2, so_put [1] 3 0 5),
  (5, so_aload 0 6),
  (6, so_iload 2 7),
  (7, so_put [1] 4 0 10),
  (10, so_push (.inl (0)) 11),
  (11, so_zret)]
def ct_X1_find : sa_C := sa_ct tb_X1_find 3
set_option maxRecDepth 100000 in
set_option maxHeartbeats 4000000 in
theorem met_X1_find : sa_Met sa_EX yX1_find cX1_find 3 (some Jvm.ClassFile.FieldType.boolean) 0 0 ct_X1_find := sa_met sa_EX_ok (by decide +kernel) ⟨ss_aload_n rfl dX1_find_0 rfl,
  ss_iload_n rfl dX1_find_1 rfl,
  ss_put dX1_find_2 (sa_lc ⟨⟨_, _, _, rfl, by decide, inX1, wt_1_119⟩, ⟨_, _, _, _, rfl, tyX1_ok, nmX1⟩, ⟨_, _, _, rfl, tyX1_ok 3 (by decide)⟩, fun q h => by cases h; exact Or.inl rfl⟩ sa_l0) rfl,
  ss_aload_n rfl dX1_find_5 rfl,
  ss_iload_n rfl dX1_find_6 rfl,
  ss_put dX1_find_7 (sa_lc ⟨⟨_, _, _, rfl, by decide, inX1, wt_1_120⟩, ⟨_, _, _, _, rfl, tyX1_ok, nmX1⟩, ⟨_, _, _, rfl, tyX1_ok 4 (by decide)⟩, fun q h => by cases h; exact Or.inl rfl⟩ sa_l0) rfl,
  ss_iconst dX1_find_10 (by decide) rfl,
  ss_zret dX1_find_11 rfl,
  trivial⟩
set_option maxRecDepth 100000 in
theorem tm_X1_find : sa_tm tb_X1_find := ⟨sm_aload, sm_iload, sm_put, sm_aload, sm_iload, sm_put, sm_push, sm_zret, trivial⟩
theorem mo_X1_find : sa_mc ct_X1_find := sa_mct tm_X1_find
theorem cal_X1_find (fr lr : Nat) (h1 : 0 + 1 ≤ fr) (h2 : 8 + (3 + 11) + 0 ≤ lr) : sa_cal sa_EX yX1_find cX1_find 3 (some Jvm.ClassFile.FieldType.boolean) 0 0 ct_X1_find 2 3 fr lr := ⟨met_X1_find, wt_3_162, wt_1_8, ⟨by decide +kernel, by decide +kernel, by decide +kernel⟩, by decide, h1, h2⟩
def tb_X1_refuseHere : sa_T := [(0, so_aload 0 1),
  (1, so_get [1] 1 4),
  (4, so_aload 0 5),
  (5, so_get [1] 2 8),
  (8, so_cmp (fun x y => y ≤ x) 23 11),
  (11, so_aload 0 12),
  (12, so_push (.inl (4)) 13),
  (13, so_aload 0 14),
  (14, so_get [1] 1 17),
  (17, so_virt [(1, ct_X1_find)] 2 0 0 20),
  (20, so_goto 32),
  (23, so_aload 0 24),
  (24, so_push (.inl (2)) 25),
  (25, so_aload 0 26),
  (26, so_get [1] 2 29),
  (29, so_virt [(1, ct_X1_find)] 2 0 0 32),
  (32, so_zret)]
def ct_X1_refuseHere : sa_C := sa_ct tb_X1_refuseHere 1
set_option maxRecDepth 100000 in
set_option maxHeartbeats 4000000 in
theorem met_X1_refuseHere : sa_Met sa_EX yX1_refuseHere cX1_refuseHere 1 (some Jvm.ClassFile.FieldType.boolean) 1 22 ct_X1_refuseHere := sa_met sa_EX_ok (by decide +kernel) ⟨ss_aload_n rfl dX1_refuseHere_0 rfl,
  ss_get dX1_refuseHere_1 (sa_lc ⟨_, _, _, rfl, by decide, inX1, wt_1_117⟩ sa_l0) rfl,
  ss_aload_n rfl dX1_refuseHere_4 rfl,
  ss_get dX1_refuseHere_5 (sa_lc ⟨_, _, _, rfl, by decide, inX1, wt_1_118⟩ sa_l0) rfl,
  ss_icmp_ge (tgt := 23) dX1_refuseHere_8 (by decide) rfl,
  ss_aload_n rfl dX1_refuseHere_11 rfl,
  ss_iconst dX1_refuseHere_12 (by decide) rfl,
  ss_aload_n rfl dX1_refuseHere_13 rfl,
  ss_get dX1_refuseHere_14 (sa_lc ⟨_, _, _, rfl, by decide, inX1, wt_1_117⟩ sa_l0) rfl,
  ss_virt dX1_refuseHere_17 (sa_lc ⟨_, _, _, yX1_find, _, _, _, _, _, rfl, cal_X1_find _ _ (by decide) (by decide), wt_3_160, Or.inl ⟨wt_3_159, wt_3_161⟩⟩ sa_l0) rfl,
  ss_goto (tgt := 32) dX1_refuseHere_20 (by decide),
  ss_aload_n rfl dX1_refuseHere_23 rfl,
  ss_iconst dX1_refuseHere_24 (by decide) rfl,
  ss_aload_n rfl dX1_refuseHere_25 rfl,
  ss_get dX1_refuseHere_26 (sa_lc ⟨_, _, _, rfl, by decide, inX1, wt_1_118⟩ sa_l0) rfl,
  ss_virt dX1_refuseHere_29 (sa_lc ⟨_, _, _, yX1_find, _, _, _, _, _, rfl, cal_X1_find _ _ (by decide) (by decide), wt_3_160, Or.inl ⟨wt_3_159, wt_3_161⟩⟩ sa_l0) rfl,
  ss_zret dX1_refuseHere_32 rfl,
  trivial⟩
set_option maxRecDepth 100000 in
theorem tm_X1_refuseHere : sa_tm tb_X1_refuseHere := ⟨sm_aload, sm_get, sm_aload, sm_get, sm_cmp, sm_aload, sm_push, sm_aload, sm_get, (sm_virt (sa_lc mo_X1_find sa_l0)), sm_goto, sm_aload, sm_push, sm_aload, sm_get, (sm_virt (sa_lc mo_X1_find sa_l0)), sm_zret, trivial⟩
theorem mo_X1_refuseHere : sa_mc ct_X1_refuseHere := sa_mct tm_X1_refuseHere
theorem cal_X1_refuseHere (fr lr : Nat) (h1 : 1 + 1 ≤ fr) (h2 : 8 + (1 + 11) + 22 ≤ lr) : sa_cal sa_EX yX1_refuseHere cX1_refuseHere 1 (some Jvm.ClassFile.FieldType.boolean) 1 22 ct_X1_refuseHere 0 1 fr lr := ⟨met_X1_refuseHere, wt_3_158, wt_1_8, ⟨by decide +kernel, by decide +kernel, by decide +kernel⟩, by decide, h1, h2⟩
def tb_X1_hasBytes : sa_T := [(0, so_iload 1 1),
  (1, so_aload 0 2),
  (2, so_get [1] 2 5),
  (5, so_aload 0 6),
  (6, so_get [1] 1 9),
  (9, so_bin (fun x y => x - y) 10),
  (10, so_cmp (fun x y => x ≤ y) 25 13),
  (13, so_aload 0 14),
  (14, so_push (.inl (2)) 15),
  (15, so_aload 0 16),
  (16, so_get [1] 2 19),
  (19, so_virt [(1, ct_X1_find)] 2 0 0 22),
  (22, so_if (fun x => x = 0) 29 25),
  (25, so_push (.inl (1)) 26),
  (26, so_goto 30),
  (29, so_push (.inl (0)) 30),
  (30, so_zret)]
def ct_X1_hasBytes : sa_C := sa_ct tb_X1_hasBytes 2
set_option maxRecDepth 100000 in
set_option maxHeartbeats 4000000 in
theorem met_X1_hasBytes : sa_Met sa_EX yX1_hasBytes cX1_hasBytes 2 (some Jvm.ClassFile.FieldType.boolean) 1 22 ct_X1_hasBytes := sa_met sa_EX_ok (by decide +kernel) ⟨ss_iload_n rfl dX1_hasBytes_0 rfl,
  ss_aload_n rfl dX1_hasBytes_1 rfl,
  ss_get dX1_hasBytes_2 (sa_lc ⟨_, _, _, rfl, by decide, inX1, wt_1_118⟩ sa_l0) rfl,
  ss_aload_n rfl dX1_hasBytes_5 rfl,
  ss_get dX1_hasBytes_6 (sa_lc ⟨_, _, _, rfl, by decide, inX1, wt_1_117⟩ sa_l0) rfl,
  ss_isub dX1_hasBytes_9 rfl,
  ss_icmp_le (tgt := 25) dX1_hasBytes_10 (by decide) rfl,
  ss_aload_n rfl dX1_hasBytes_13 rfl,
  ss_iconst dX1_hasBytes_14 (by decide) rfl,
  ss_aload_n rfl dX1_hasBytes_15 rfl,
  ss_get dX1_hasBytes_16 (sa_lc ⟨_, _, _, rfl, by decide, inX1, wt_1_118⟩ sa_l0) rfl,
  ss_virt dX1_hasBytes_19 (sa_lc ⟨_, _, _, yX1_find, _, _, _, _, _, rfl, cal_X1_find _ _ (by decide) (by decide), wt_3_160, Or.inl ⟨wt_3_159, wt_3_161⟩⟩ sa_l0) rfl,
  ss_if_eq (tgt := 29) dX1_hasBytes_22 (by decide) rfl,
  ss_iconst dX1_hasBytes_25 (by decide) rfl,
  ss_goto (tgt := 30) dX1_hasBytes_26 (by decide),
  ss_iconst dX1_hasBytes_29 (by decide) rfl,
  ss_zret dX1_hasBytes_30 rfl,
  trivial⟩
set_option maxRecDepth 100000 in
theorem tm_X1_hasBytes : sa_tm tb_X1_hasBytes := ⟨sm_iload, sm_aload, sm_get, sm_aload, sm_get, sm_bin, sm_cmp, sm_aload, sm_push, sm_aload, sm_get, (sm_virt (sa_lc mo_X1_find sa_l0)), sm_if, sm_push, sm_goto, sm_push, sm_zret, trivial⟩
theorem mo_X1_hasBytes : sa_mc ct_X1_hasBytes := sa_mct tm_X1_hasBytes
theorem cal_X1_hasBytes (fr lr : Nat) (h1 : 1 + 1 ≤ fr) (h2 : 8 + (2 + 11) + 22 ≤ lr) : sa_cal sa_EX yX1_hasBytes cX1_hasBytes 2 (some Jvm.ClassFile.FieldType.boolean) 1 22 ct_X1_hasBytes 1 2 fr lr := ⟨met_X1_hasBytes, wt_3_237, wt_1_8, ⟨by decide +kernel, by decide +kernel, by decide +kernel⟩, by decide, h1, h2⟩
def tb_X1_expect : sa_T := [(0, so_aload 0 1),
  (1, so_get [1] 0 4),
  (4, so_aload 0 5),
  (5, so_get [1] 1 8),
  (8, so_virt [(0, ct_X0_at)] 1 0 0 11),
  (11, so_iload 1 12),
  (12, so_cmp (fun x y => x = y) 20 15),
  (15, so_aload 0 16),
  (16, so_virt [(1, ct_X1_refuseHere)] 0 0 0 19),
  (19, so_zret),
  (20, so_aload 0 21),
  (21, so_dup 22),
  (22, so_get [1] 1 25),
  (25, so_push (.inl (1)) 26),
  (26, so_bin (fun x y => x + y) 27),
  (27, so_put [1] 1 0 30),
  (30, so_push (.inl (1)) 31),
  (31, so_zret)]
def ct_X1_expect : sa_C := sa_ct tb_X1_expect 2
set_option maxRecDepth 100000 in
set_option maxHeartbeats 4000000 in
theorem met_X1_expect : sa_Met sa_EX yX1_expect cX1_expect 2 (some Jvm.ClassFile.FieldType.boolean) 2 42 ct_X1_expect := sa_met sa_EX_ok (by decide +kernel) ⟨ss_aload_n rfl dX1_expect_0 rfl,
  ss_get dX1_expect_1 (sa_lc ⟨_, _, _, rfl, by decide, inX1, wt_1_116⟩ sa_l0) rfl,
  ss_aload_n rfl dX1_expect_4 rfl,
  ss_get dX1_expect_5 (sa_lc ⟨_, _, _, rfl, by decide, inX1, wt_1_117⟩ sa_l0) rfl,
  ss_virt dX1_expect_8 (sa_lc ⟨_, _, _, yX0_at, _, _, _, _, _, rfl, cal_X0_at _ _ (by decide) (by decide), wt_3_87, Or.inl ⟨wt_3_154, wt_3_88⟩⟩ sa_l0) rfl,
  ss_iload_n rfl dX1_expect_11 rfl,
  ss_icmp_eq (tgt := 20) dX1_expect_12 (by decide) rfl,
  ss_aload_n rfl dX1_expect_15 rfl,
  ss_virt dX1_expect_16 (sa_lc ⟨_, _, _, yX1_refuseHere, _, _, _, _, _, rfl, cal_X1_refuseHere _ _ (by decide) (by decide), wt_3_156, Or.inl ⟨wt_3_155, wt_3_157⟩⟩ sa_l0) rfl,
  ss_zret dX1_expect_19 rfl,
  ss_aload_n rfl dX1_expect_20 rfl,
  ss_dup dX1_expect_21 rfl,
  ss_get dX1_expect_22 (sa_lc ⟨_, _, _, rfl, by decide, inX1, wt_1_117⟩ sa_l0) rfl,
  ss_iconst dX1_expect_25 (by decide) rfl,
  ss_iadd dX1_expect_26 rfl,
  ss_put dX1_expect_27 (sa_lc ⟨⟨_, _, _, rfl, by decide, inX1, wt_1_117⟩, ⟨_, _, _, _, rfl, tyX1_ok, nmX1⟩, ⟨_, _, _, rfl, tyX1_ok 1 (by decide)⟩, fun q h => by cases h; exact Or.inl rfl⟩ sa_l0) rfl,
  ss_iconst dX1_expect_30 (by decide) rfl,
  ss_zret dX1_expect_31 rfl,
  trivial⟩
set_option maxRecDepth 100000 in
theorem tm_X1_expect : sa_tm tb_X1_expect := ⟨sm_aload, sm_get, sm_aload, sm_get, (sm_virt (sa_lc mo_X0_at sa_l0)), sm_iload, sm_cmp, sm_aload, (sm_virt (sa_lc mo_X1_refuseHere sa_l0)), sm_zret, sm_aload, sm_dup, sm_get, sm_push, sm_bin, sm_put, sm_push, sm_zret, trivial⟩
theorem mo_X1_expect : sa_mc ct_X1_expect := sa_mct tm_X1_expect
theorem cal_X1_expect (fr lr : Nat) (h1 : 2 + 1 ≤ fr) (h2 : 8 + (2 + 11) + 42 ≤ lr) : sa_cal sa_EX yX1_expect cX1_expect 2 (some Jvm.ClassFile.FieldType.boolean) 2 42 ct_X1_expect 1 2 fr lr := ⟨met_X1_expect, wt_3_153, wt_1_8, ⟨by decide +kernel, by decide +kernel, by decide +kernel⟩, by decide, h1, h2⟩
def tb_X1_expectText : sa_T := [(0, so_push (.inl (0)) 1),
  (1, so_istore 2 2),
  (2, so_iload 2 3),
  (3, so_aload 1 4),
  (4, so_svirt sa_EX.2.2.2.1.1 ct_J0_length_8abf5 0 7),
  (7, so_cmp (fun x y => y ≤ x) 30 10),
  (10, so_aload 0 11),
  (11, so_aload 1 12),
  (12, so_iload 2 13),
  (13, so_svirt sa_EX.2.2.2.1.1 ct_J0_charAt_5068e 1 16),
  (16, so_virt [(1, ct_X1_expect)] 1 0 0 19),
  (19, so_if (fun x => x = 0) 22 24),
  (22, so_push (.inl (0)) 23),
  (23, so_zret),
  (24, so_iinc 2 (1) 27),
  (27, so_goto 2),
  (30, so_push (.inl (1)) 31),
  (31, so_zret)]
def ct_X1_expectText : sa_C := sa_ct tb_X1_expectText 3
set_option maxRecDepth 100000 in
set_option maxHeartbeats 4000000 in
theorem met_X1_expectText : sa_Met sa_EX yX1_expectText cX1_expectText 3 (some Jvm.ClassFile.FieldType.boolean) 4 85 ct_X1_expectText := sa_met sa_EX_ok (by decide +kernel) ⟨ss_iconst dX1_expectText_0 (by decide) rfl,
  ss_istore_n rfl dX1_expectText_1 (by decide) rfl,
  ss_iload_n rfl dX1_expectText_2 rfl,
  ss_aload_n rfl dX1_expectText_3 rfl,
  ss_svirt dX1_expectText_4 (cal_J0_length_8abf5 _ _ (by decide) (by decide)) wt_3_148 wt_2_111 wt_2_110 rfl,
  ss_icmp_ge (tgt := 30) dX1_expectText_7 (by decide) rfl,
  ss_aload_n rfl dX1_expectText_10 rfl,
  ss_aload_n rfl dX1_expectText_11 rfl,
  ss_iload_n rfl dX1_expectText_12 rfl,
  ss_svirt dX1_expectText_13 (cal_J0_charAt_5068e _ _ (by decide) (by decide)) wt_3_149 wt_2_126 wt_2_125 rfl,
  ss_virt dX1_expectText_16 (sa_lc ⟨_, _, _, yX1_expect, _, _, _, _, _, rfl, cal_X1_expect _ _ (by decide) (by decide), wt_3_151, Or.inl ⟨wt_3_150, wt_3_152⟩⟩ sa_l0) rfl,
  ss_if_ne (tgt := 24) dX1_expectText_19 (by decide) rfl,
  ss_iconst dX1_expectText_22 (by decide) rfl,
  ss_zret dX1_expectText_23 rfl,
  ss_iinc dX1_expectText_24 (by decide) (by decide) rfl,
  ss_goto (tgt := 2) dX1_expectText_27 (by decide),
  ss_iconst dX1_expectText_30 (by decide) rfl,
  ss_zret dX1_expectText_31 rfl,
  trivial⟩
set_option maxRecDepth 100000 in
theorem tm_X1_expectText : sa_tm tb_X1_expectText := ⟨sm_push, sm_istore, sm_iload, sm_aload, (sm_svirt mo_J0_length_8abf5), sm_cmp, sm_aload, sm_aload, sm_iload, (sm_svirt mo_J0_charAt_5068e), (sm_virt (sa_lc mo_X1_expect sa_l0)), sm_if, sm_push, sm_zret, sm_iinc, sm_goto, sm_push, sm_zret, trivial⟩
theorem mo_X1_expectText : sa_mc ct_X1_expectText := sa_mct tm_X1_expectText
theorem cal_X1_expectText (fr lr : Nat) (h1 : 4 + 1 ≤ fr) (h2 : 8 + (3 + 11) + 85 ≤ lr) : sa_cal sa_EX yX1_expectText cX1_expectText 3 (some Jvm.ClassFile.FieldType.boolean) 4 85 ct_X1_expectText 1 2 fr lr := ⟨met_X1_expectText, wt_3_147, wt_1_8, ⟨by decide +kernel, by decide +kernel, by decide +kernel⟩, by decide, h1, h2⟩
def tb_X1_expectBlanksTo : sa_T := [(0, so_iload 1 1),
  (1, so_aload 0 2),
  (2, so_get [1] 1 5),
  (5, so_bin (fun x y => x - y) 6),
  (6, so_istore 2 7),
  (7, so_iload 2 8),
  (8, so_if (fun x => x ≤ 0) 28 11),
  (11, so_aload 0 12),
  (12, so_push (.inl (32)) 14),
  (14, so_virt [(1, ct_X1_expect)] 1 0 0 17),
  (17, so_if (fun x => x = 0) 20 22),
  (20, so_push (.inl (0)) 21),
  (21, so_zret),
  (22, so_iinc 2 (-1) 25),
  (25, so_goto 7),
  (28, so_push (.inl (1)) 29),
  (29, so_zret)]
def ct_X1_expectBlanksTo : sa_C := sa_ct tb_X1_expectBlanksTo 3
set_option maxRecDepth 100000 in
set_option maxHeartbeats 4000000 in
theorem met_X1_expectBlanksTo : sa_Met sa_EX yX1_expectBlanksTo cX1_expectBlanksTo 3 (some Jvm.ClassFile.FieldType.boolean) 3 63 ct_X1_expectBlanksTo := sa_met sa_EX_ok (by decide +kernel) ⟨ss_iload_n rfl dX1_expectBlanksTo_0 rfl,
  ss_aload_n rfl dX1_expectBlanksTo_1 rfl,
  ss_get dX1_expectBlanksTo_2 (sa_lc ⟨_, _, _, rfl, by decide, inX1, wt_1_117⟩ sa_l0) rfl,
  ss_isub dX1_expectBlanksTo_5 rfl,
  ss_istore_n rfl dX1_expectBlanksTo_6 (by decide) rfl,
  ss_iload_n rfl dX1_expectBlanksTo_7 rfl,
  ss_if_le (tgt := 28) dX1_expectBlanksTo_8 (by decide) rfl,
  ss_aload_n rfl dX1_expectBlanksTo_11 rfl,
  ss_bipush dX1_expectBlanksTo_12 (by decide) rfl,
  ss_virt dX1_expectBlanksTo_14 (sa_lc ⟨_, _, _, yX1_expect, _, _, _, _, _, rfl, cal_X1_expect _ _ (by decide) (by decide), wt_3_151, Or.inl ⟨wt_3_150, wt_3_152⟩⟩ sa_l0) rfl,
  ss_if_ne (tgt := 22) dX1_expectBlanksTo_17 (by decide) rfl,
  ss_iconst dX1_expectBlanksTo_20 (by decide) rfl,
  ss_zret dX1_expectBlanksTo_21 rfl,
  ss_iinc dX1_expectBlanksTo_22 (by decide) (by decide) rfl,
  ss_goto (tgt := 7) dX1_expectBlanksTo_25 (by decide),
  ss_iconst dX1_expectBlanksTo_28 (by decide) rfl,
  ss_zret dX1_expectBlanksTo_29 rfl,
  trivial⟩
set_option maxRecDepth 100000 in
theorem tm_X1_expectBlanksTo : sa_tm tb_X1_expectBlanksTo := ⟨sm_iload, sm_aload, sm_get, sm_bin, sm_istore, sm_iload, sm_if, sm_aload, sm_push, (sm_virt (sa_lc mo_X1_expect sa_l0)), sm_if, sm_push, sm_zret, sm_iinc, sm_goto, sm_push, sm_zret, trivial⟩
theorem mo_X1_expectBlanksTo : sa_mc ct_X1_expectBlanksTo := sa_mct tm_X1_expectBlanksTo
theorem cal_X1_expectBlanksTo (fr lr : Nat) (h1 : 3 + 1 ≤ fr) (h2 : 8 + (3 + 11) + 63 ≤ lr) : sa_cal sa_EX yX1_expectBlanksTo cX1_expectBlanksTo 3 (some Jvm.ClassFile.FieldType.boolean) 3 63 ct_X1_expectBlanksTo 1 2 fr lr := ⟨met_X1_expectBlanksTo, wt_3_216, wt_1_8, ⟨by decide +kernel, by decide +kernel, by decide +kernel⟩, by decide, h1, h2⟩
def tb_X10_isFigure : sa_T := [(0, so_iload 0 1),
  (1, so_push (.inl (48)) 3),
  (3, so_cmp (fun x y => x < y) 16 6),
  (6, so_iload 0 7),
  (7, so_push (.inl (57)) 9),
  (9, so_cmp (fun x y => y < x) 16 12),
  (12, so_push (.inl (1)) 13),
  (13, so_goto 17),
  (16, so_push (.inl (0)) 17),
  (17, so_zret)]
def ct_X10_isFigure : sa_C := sa_ct tb_X10_isFigure 1
set_option maxRecDepth 100000 in
set_option maxHeartbeats 4000000 in
theorem met_X10_isFigure : sa_Met sa_EX yX10_isFigure cX10_isFigure 1 (some Jvm.ClassFile.FieldType.boolean) 0 0 ct_X10_isFigure := sa_met sa_EX_ok (by decide +kernel) ⟨ss_iload_n rfl dX10_isFigure_0 rfl,
  ss_bipush dX10_isFigure_1 (by decide) rfl,
  ss_icmp_lt (tgt := 16) dX10_isFigure_3 (by decide) rfl,
  ss_iload_n rfl dX10_isFigure_6 rfl,
  ss_bipush dX10_isFigure_7 (by decide) rfl,
  ss_icmp_gt (tgt := 16) dX10_isFigure_9 (by decide) rfl,
  ss_iconst dX10_isFigure_12 (by decide) rfl,
  ss_goto (tgt := 17) dX10_isFigure_13 (by decide),
  ss_iconst dX10_isFigure_16 (by decide) rfl,
  ss_zret dX10_isFigure_17 rfl,
  trivial⟩
set_option maxRecDepth 100000 in
theorem tm_X10_isFigure : sa_tm tb_X10_isFigure := ⟨sm_iload, sm_push, sm_cmp, sm_iload, sm_push, sm_cmp, sm_push, sm_goto, sm_push, sm_zret, trivial⟩
theorem mo_X10_isFigure : sa_mc ct_X10_isFigure := sa_mct tm_X10_isFigure
theorem cal_X10_isFigure (fr lr : Nat) (h1 : 0 + 1 ≤ fr) (h2 : 8 + (1 + 11) + 0 ≤ lr) : sa_cal sa_EX yX10_isFigure cX10_isFigure 1 (some Jvm.ClassFile.FieldType.boolean) 0 0 ct_X10_isFigure 1 1 fr lr := ⟨met_X10_isFigure, wt_3_223, wt_1_1, ⟨by decide +kernel, by decide +kernel, by decide +kernel⟩, by decide, h1, h2⟩
def tb_X1_takeFigures : sa_T := [(0, so_aload 0 1),
  (1, so_get [1] 0 4),
  (4, so_aload 0 5),
  (5, so_get [1] 1 8),
  (8, so_virt [(0, ct_X0_at)] 1 0 0 11),
  (11, so_stat ct_X10_isFigure 1 0 0 14),
  (14, so_if (fun x => x = 0) 17 24),
  (17, so_aload 0 18),
  (18, so_virt [(1, ct_X1_refuseHere)] 0 0 0 21),
  (21, so_pop 22),
  (22, so_push (.inl (-1)) 23),
  (23, so_iret),
  (24, so_push (.inl (0)) 25),
  (25, so_istore 2 26),
  (26, so_iload 1 27),
  (27, so_aload 0 28),
  (28, so_get [1] 1 31),
  (31, so_bin (fun x y => x - y) 32),
  (32, so_istore 3 33),
  (33, so_iload 3 34),
  (34, so_if (fun x => x ≤ 0) 90 37),
  (37, so_aload 0 38),
  (38, so_get [1] 0 41),
  (41, so_aload 0 42),
  (42, so_get [1] 1 45),
  (45, so_virt [(0, ct_X0_at)] 1 0 0 48),
  (48, so_stat ct_X10_isFigure 1 0 0 51),
  (51, so_if (fun x => x = 0) 90 54),
  (54, so_iload 2 55),
  (55, so_push (.inl (10)) 57),
  (57, so_bin (fun x y => x * y) 58),
  (58, so_aload 0 59),
  (59, so_get [1] 0 62),
  (62, so_aload 0 63),
  (63, so_get [1] 1 66),
  (66, so_virt [(0, ct_X0_at)] 1 0 0 69),
  (69, so_bin (fun x y => x + y) 70),
  (70, so_push (.inl (48)) 72),
  (72, so_bin (fun x y => x - y) 73),
  (73, so_istore 2 74),
  (74, so_aload 0 75),
  (75, so_dup 76),
  (76, so_get [1] 1 79),
  (79, so_push (.inl (1)) 80),
  (80, so_bin (fun x y => x + y) 81),
  (81, so_put [1] 1 0 84),
  (84, so_iinc 3 (-1) 87),
  (87, so_goto 33),
  (90, so_iload 2 91),
  (91, so_iret)]
def ct_X1_takeFigures : sa_C := sa_ct tb_X1_takeFigures 4
set_option maxRecDepth 100000 in
set_option maxHeartbeats 4000000 in
theorem met_X1_takeFigures : sa_Met sa_EX yX1_takeFigures cX1_takeFigures 4 (some Jvm.ClassFile.FieldType.int) 2 42 ct_X1_takeFigures := sa_met sa_EX_ok (by decide +kernel) ⟨ss_aload_n rfl dX1_takeFigures_0 rfl,
  ss_get dX1_takeFigures_1 (sa_lc ⟨_, _, _, rfl, by decide, inX1, wt_1_116⟩ sa_l0) rfl,
  ss_aload_n rfl dX1_takeFigures_4 rfl,
  ss_get dX1_takeFigures_5 (sa_lc ⟨_, _, _, rfl, by decide, inX1, wt_1_117⟩ sa_l0) rfl,
  ss_virt dX1_takeFigures_8 (sa_lc ⟨_, _, _, yX0_at, _, _, _, _, _, rfl, cal_X0_at _ _ (by decide) (by decide), wt_3_87, Or.inl ⟨wt_3_154, wt_3_88⟩⟩ sa_l0) rfl,
  ss_statN dX1_takeFigures_11 (cal_X10_isFigure _ _ (by decide) (by decide)) wn_3_221 wt_3_222 rfl,
  ss_if_ne (tgt := 24) dX1_takeFigures_14 (by decide) rfl,
  ss_aload_n rfl dX1_takeFigures_17 rfl,
  ss_virt dX1_takeFigures_18 (sa_lc ⟨_, _, _, yX1_refuseHere, _, _, _, _, _, rfl, cal_X1_refuseHere _ _ (by decide) (by decide), wt_3_156, Or.inl ⟨wt_3_155, wt_3_157⟩⟩ sa_l0) rfl,
  ss_pop dX1_takeFigures_21 rfl,
  ss_iconst dX1_takeFigures_22 (by decide) rfl,
  ss_iret dX1_takeFigures_23 rfl,
  ss_iconst dX1_takeFigures_24 (by decide) rfl,
  ss_istore_n rfl dX1_takeFigures_25 (by decide) rfl,
  ss_iload_n rfl dX1_takeFigures_26 rfl,
  ss_aload_n rfl dX1_takeFigures_27 rfl,
  ss_get dX1_takeFigures_28 (sa_lc ⟨_, _, _, rfl, by decide, inX1, wt_1_117⟩ sa_l0) rfl,
  ss_isub dX1_takeFigures_31 rfl,
  ss_istore_n rfl dX1_takeFigures_32 (by decide) rfl,
  ss_iload_n rfl dX1_takeFigures_33 rfl,
  ss_if_le (tgt := 90) dX1_takeFigures_34 (by decide) rfl,
  ss_aload_n rfl dX1_takeFigures_37 rfl,
  ss_get dX1_takeFigures_38 (sa_lc ⟨_, _, _, rfl, by decide, inX1, wt_1_116⟩ sa_l0) rfl,
  ss_aload_n rfl dX1_takeFigures_41 rfl,
  ss_get dX1_takeFigures_42 (sa_lc ⟨_, _, _, rfl, by decide, inX1, wt_1_117⟩ sa_l0) rfl,
  ss_virt dX1_takeFigures_45 (sa_lc ⟨_, _, _, yX0_at, _, _, _, _, _, rfl, cal_X0_at _ _ (by decide) (by decide), wt_3_87, Or.inl ⟨wt_3_154, wt_3_88⟩⟩ sa_l0) rfl,
  ss_statN dX1_takeFigures_48 (cal_X10_isFigure _ _ (by decide) (by decide)) wn_3_221 wt_3_222 rfl,
  ss_if_eq (tgt := 90) dX1_takeFigures_51 (by decide) rfl,
  ss_iload_n rfl dX1_takeFigures_54 rfl,
  ss_bipush dX1_takeFigures_55 (by decide) rfl,
  ss_imul dX1_takeFigures_57 rfl,
  ss_aload_n rfl dX1_takeFigures_58 rfl,
  ss_get dX1_takeFigures_59 (sa_lc ⟨_, _, _, rfl, by decide, inX1, wt_1_116⟩ sa_l0) rfl,
  ss_aload_n rfl dX1_takeFigures_62 rfl,
  ss_get dX1_takeFigures_63 (sa_lc ⟨_, _, _, rfl, by decide, inX1, wt_1_117⟩ sa_l0) rfl,
  ss_virt dX1_takeFigures_66 (sa_lc ⟨_, _, _, yX0_at, _, _, _, _, _, rfl, cal_X0_at _ _ (by decide) (by decide), wt_3_87, Or.inl ⟨wt_3_154, wt_3_88⟩⟩ sa_l0) rfl,
  ss_iadd dX1_takeFigures_69 rfl,
  ss_bipush dX1_takeFigures_70 (by decide) rfl,
  ss_isub dX1_takeFigures_72 rfl,
  ss_istore_n rfl dX1_takeFigures_73 (by decide) rfl,
  ss_aload_n rfl dX1_takeFigures_74 rfl,
  ss_dup dX1_takeFigures_75 rfl,
  ss_get dX1_takeFigures_76 (sa_lc ⟨_, _, _, rfl, by decide, inX1, wt_1_117⟩ sa_l0) rfl,
  ss_iconst dX1_takeFigures_79 (by decide) rfl,
  ss_iadd dX1_takeFigures_80 rfl,
  ss_put dX1_takeFigures_81 (sa_lc ⟨⟨_, _, _, rfl, by decide, inX1, wt_1_117⟩, ⟨_, _, _, _, rfl, tyX1_ok, nmX1⟩, ⟨_, _, _, rfl, tyX1_ok 1 (by decide)⟩, fun q h => by cases h; exact Or.inl rfl⟩ sa_l0) rfl,
  ss_iinc dX1_takeFigures_84 (by decide) (by decide) rfl,
  ss_goto (tgt := 33) dX1_takeFigures_87 (by decide),
  ss_iload_n rfl dX1_takeFigures_90 rfl,
  ss_iret dX1_takeFigures_91 rfl,
  trivial⟩
set_option maxRecDepth 100000 in
theorem tm_X1_takeFigures : sa_tm tb_X1_takeFigures := ⟨sm_aload, sm_get, sm_aload, sm_get, (sm_virt (sa_lc mo_X0_at sa_l0)), (sm_stat mo_X10_isFigure), sm_if, sm_aload, (sm_virt (sa_lc mo_X1_refuseHere sa_l0)), sm_pop, sm_push, sm_iret, sm_push, sm_istore, sm_iload, sm_aload, sm_get, sm_bin, sm_istore, sm_iload, sm_if, sm_aload, sm_get, sm_aload, sm_get, (sm_virt (sa_lc mo_X0_at sa_l0)), (sm_stat mo_X10_isFigure), sm_if, sm_iload, sm_push, sm_bin, sm_aload, sm_get, sm_aload, sm_get, (sm_virt (sa_lc mo_X0_at sa_l0)), sm_bin, sm_push, sm_bin, sm_istore, sm_aload, sm_dup, sm_get, sm_push, sm_bin, sm_put, sm_iinc, sm_goto, sm_iload, sm_iret, trivial⟩
theorem mo_X1_takeFigures : sa_mc ct_X1_takeFigures := sa_mct tm_X1_takeFigures
theorem cal_X1_takeFigures (fr lr : Nat) (h1 : 2 + 1 ≤ fr) (h2 : 8 + (4 + 11) + 42 ≤ lr) : sa_cal sa_EX yX1_takeFigures cX1_takeFigures 4 (some Jvm.ClassFile.FieldType.int) 2 42 ct_X1_takeFigures 1 2 fr lr := ⟨met_X1_takeFigures, wt_3_220, wt_1_8, ⟨by decide +kernel, by decide +kernel, by decide +kernel⟩, by decide, h1, h2⟩
def tb_X1_skip : sa_T := [(0, so_aload 0 1),
  (1, so_iload 1 2),
  (2, so_virt [(1, ct_X1_hasBytes)] 1 0 0 5),
  (5, so_if (fun x => x = 0) 8 10),
  (8, so_push (.inl (0)) 9),
  (9, so_zret),
  (10, so_aload 0 11),
  (11, so_dup 12),
  (12, so_get [1] 1 15),
  (15, so_iload 1 16),
  (16, so_bin (fun x y => x + y) 17),
  (17, so_put [1] 1 0 20),
  (20, so_push (.inl (1)) 21),
  (21, so_zret)]
def ct_X1_skip : sa_C := sa_ct tb_X1_skip 2
set_option maxRecDepth 100000 in
set_option maxHeartbeats 4000000 in
theorem met_X1_skip : sa_Met sa_EX yX1_skip cX1_skip 2 (some Jvm.ClassFile.FieldType.boolean) 2 43 ct_X1_skip := sa_met sa_EX_ok (by decide +kernel) ⟨ss_aload_n rfl dX1_skip_0 rfl,
  ss_iload_n rfl dX1_skip_1 rfl,
  ss_virt dX1_skip_2 (sa_lc ⟨_, _, _, yX1_hasBytes, _, _, _, _, _, rfl, cal_X1_hasBytes _ _ (by decide) (by decide), wt_3_235, Or.inl ⟨wt_3_234, wt_3_236⟩⟩ sa_l0) rfl,
  ss_if_ne (tgt := 10) dX1_skip_5 (by decide) rfl,
  ss_iconst dX1_skip_8 (by decide) rfl,
  ss_zret dX1_skip_9 rfl,
  ss_aload_n rfl dX1_skip_10 rfl,
  ss_dup dX1_skip_11 rfl,
  ss_get dX1_skip_12 (sa_lc ⟨_, _, _, rfl, by decide, inX1, wt_1_117⟩ sa_l0) rfl,
  ss_iload_n rfl dX1_skip_15 rfl,
  ss_iadd dX1_skip_16 rfl,
  ss_put dX1_skip_17 (sa_lc ⟨⟨_, _, _, rfl, by decide, inX1, wt_1_117⟩, ⟨_, _, _, _, rfl, tyX1_ok, nmX1⟩, ⟨_, _, _, rfl, tyX1_ok 1 (by decide)⟩, fun q h => by cases h; exact Or.inl rfl⟩ sa_l0) rfl,
  ss_iconst dX1_skip_20 (by decide) rfl,
  ss_zret dX1_skip_21 rfl,
  trivial⟩
set_option maxRecDepth 100000 in
theorem tm_X1_skip : sa_tm tb_X1_skip := ⟨sm_aload, sm_iload, (sm_virt (sa_lc mo_X1_hasBytes sa_l0)), sm_if, sm_push, sm_zret, sm_aload, sm_dup, sm_get, sm_iload, sm_bin, sm_put, sm_push, sm_zret, trivial⟩
theorem mo_X1_skip : sa_mc ct_X1_skip := sa_mct tm_X1_skip
theorem cal_X1_skip (fr lr : Nat) (h1 : 2 + 1 ≤ fr) (h2 : 8 + (2 + 11) + 43 ≤ lr) : sa_cal sa_EX yX1_skip cX1_skip 2 (some Jvm.ClassFile.FieldType.boolean) 2 43 ct_X1_skip 1 2 fr lr := ⟨met_X1_skip, wt_3_233, wt_1_8, ⟨by decide +kernel, by decide +kernel, by decide +kernel⟩, by decide, h1, h2⟩
def tb_X9_add : sa_T := [(0, so_aload 0 1),
  (1, so_get [7] 3 4),
  (4, so_if (fun x => x ≤ 0) 39 7),
  (7, so_aload 0 8),
  (8, so_get [7] 2 11),
  (11, so_aload 0 12),
  (12, so_get [7] 0 15),
  (15, so_alen 16),
  (16, so_cmp (fun x y => y ≤ x) 39 19),
  (19, so_aload 0 20),
  (20, so_get [7] 0 23),
  (23, so_aload 0 24),
  (24, so_get [7] 2 27),
  (27, so_iload 1 28),
  (28, so_iast 29),
  (29, so_aload 0 30),
  (30, so_dup 31),
  (31, so_get [7] 2 34),
  (34, so_push (.inl (1)) 35),
  (35, so_bin (fun x y => x + y) 36),
  (36, so_put [7] 2 0 39),
  (39, so_ret)]
def ct_X9_add : sa_C := sa_ct tb_X9_add 2
set_option maxRecDepth 100000 in
set_option maxHeartbeats 4000000 in
theorem met_X9_add : sa_Met sa_EX yX9_add cX9_add 2 none 0 0 ct_X9_add := sa_met sa_EX_ok (by decide +kernel) ⟨ss_aload_n rfl dX9_add_0 rfl,
  ss_get dX9_add_1 (sa_lc ⟨_, _, _, rfl, by decide, inX9, wt_1_51⟩ sa_l0) rfl,
  ss_if_le (tgt := 39) dX9_add_4 (by decide) rfl,
  ss_aload_n rfl dX9_add_7 rfl,
  ss_get dX9_add_8 (sa_lc ⟨_, _, _, rfl, by decide, inX9, wt_1_50⟩ sa_l0) rfl,
  ss_aload_n rfl dX9_add_11 rfl,
  ss_get dX9_add_12 (sa_lc ⟨_, _, _, rfl, by decide, inX9, wt_1_48⟩ sa_l0) rfl,
  ss_alen dX9_add_15 rfl,
  ss_icmp_ge (tgt := 39) dX9_add_16 (by decide) rfl,
  ss_aload_n rfl dX9_add_19 rfl,
  ss_get dX9_add_20 (sa_lc ⟨_, _, _, rfl, by decide, inX9, wt_1_48⟩ sa_l0) rfl,
  ss_aload_n rfl dX9_add_23 rfl,
  ss_get dX9_add_24 (sa_lc ⟨_, _, _, rfl, by decide, inX9, wt_1_50⟩ sa_l0) rfl,
  ss_iload_n rfl dX9_add_27 rfl,
  ss_iast dX9_add_28 rfl,
  ss_aload_n rfl dX9_add_29 rfl,
  ss_dup dX9_add_30 rfl,
  ss_get dX9_add_31 (sa_lc ⟨_, _, _, rfl, by decide, inX9, wt_1_50⟩ sa_l0) rfl,
  ss_iconst dX9_add_34 (by decide) rfl,
  ss_iadd dX9_add_35 rfl,
  ss_put dX9_add_36 (sa_lc ⟨⟨_, _, _, rfl, by decide, inX9, wt_1_50⟩, ⟨_, _, _, _, rfl, tyX9_ok, nmX9⟩, ⟨_, _, _, rfl, tyX9_ok 2 (by decide)⟩, fun q h => by cases h; exact Or.inl rfl⟩ sa_l0) rfl,
  ss_ret dX9_add_39 rfl trivial,
  trivial⟩
set_option maxRecDepth 100000 in
theorem tm_X9_add : sa_tm tb_X9_add := ⟨sm_aload, sm_get, sm_if, sm_aload, sm_get, sm_aload, sm_get, sm_alen, sm_cmp, sm_aload, sm_get, sm_aload, sm_get, sm_iload, sm_iast, sm_aload, sm_dup, sm_get, sm_push, sm_bin, sm_put, sm_ret, trivial⟩
theorem mo_X9_add : sa_mc ct_X9_add := sa_mct tm_X9_add
theorem cal_X9_add (fr lr : Nat) (h1 : 0 + 1 ≤ fr) (h2 : 8 + (2 + 11) + 0 ≤ lr) : sa_cal sa_EX yX9_add cX9_add 2 none 0 0 ct_X9_add 1 2 fr lr := ⟨met_X9_add, wt_2_30, wt_1_4, ⟨by decide +kernel, by decide +kernel, by decide +kernel⟩, by decide, h1, h2⟩
def tb_X8_addContentsByte : sa_T := [(0, so_aload 0 1),
  (1, so_get [2, 3] 1 4),
  (4, so_iload 1 5),
  (5, so_virt [(7, ct_X9_add)] 1 0 0 8),
  (8, so_ret)]
def ct_X8_addContentsByte : sa_C := sa_ct tb_X8_addContentsByte 2
set_option maxRecDepth 100000 in
set_option maxHeartbeats 4000000 in
theorem met_X8_addContentsByte : sa_Met sa_EX yX8_addContentsByte cX8_addContentsByte 2 none 1 21 ct_X8_addContentsByte := sa_met sa_EX_ok (by decide +kernel) ⟨ss_aload_n rfl dX8_addContentsByte_0 rfl,
  ss_get dX8_addContentsByte_1 (sa_lc ⟨_, _, _, rfl, by decide, inX2, wt_1_64⟩ (sa_lc ⟨_, _, _, rfl, by decide, inX3, wt_1_64⟩ sa_l0)) rfl,
  ss_iload_n rfl dX8_addContentsByte_4 rfl,
  ss_virt dX8_addContentsByte_5 (sa_lc ⟨_, _, _, yX9_add, _, _, _, _, _, rfl, cal_X9_add _ _ (by decide) (by decide), wt_2_28, Or.inl ⟨wt_2_27, wt_2_29⟩⟩ sa_l0) rfl,
  ss_ret dX8_addContentsByte_8 rfl trivial,
  trivial⟩
set_option maxRecDepth 100000 in
theorem tm_X8_addContentsByte : sa_tm tb_X8_addContentsByte := ⟨sm_aload, sm_get, sm_iload, (sm_virt (sa_lc mo_X9_add sa_l0)), sm_ret, trivial⟩
theorem mo_X8_addContentsByte : sa_mc ct_X8_addContentsByte := sa_mct tm_X8_addContentsByte
theorem cal_X8_addContentsByte (fr lr : Nat) (h1 : 1 + 1 ≤ fr) (h2 : 8 + (2 + 11) + 21 ≤ lr) : sa_cal sa_EX yX8_addContentsByte cX8_addContentsByte 2 none 1 21 ct_X8_addContentsByte 1 2 fr lr := ⟨met_X8_addContentsByte, wt_2_68, wt_1_2, ⟨by decide +kernel, by decide +kernel, by decide +kernel⟩, by decide, h1, h2⟩
def tb_X1_takeContents : sa_T := [(0, so_aload 0 1),
  (1, so_iload 2 2),
  (2, so_virt [(1, ct_X1_hasBytes)] 1 0 0 5),
  (5, so_if (fun x => x = 0) 8 10),
  (8, so_push (.inl (0)) 9),
  (9, so_zret),
  (10, so_push (.inl (0)) 11),
  (11, so_istore 3 12),
  (12, so_iload 3 13),
  (13, so_iload 2 14),
  (14, so_cmp (fun x y => y ≤ x) 31 17),
  (17, so_aload 1 18),
  (18, so_aload 0 19),
  (19, so_virt [(1, ct_X1_take)] 0 0 0 22),
  (22, so_virt [(2, ct_X8_addContentsByte)] 1 0 0 25),
  (25, so_iinc 3 (1) 28),
  (28, so_goto 12),
  (31, so_push (.inl (1)) 32),
  (32, so_zret)]
def ct_X1_takeContents : sa_C := sa_ct tb_X1_takeContents 4
set_option maxRecDepth 100000 in
set_option maxHeartbeats 4000000 in
theorem met_X1_takeContents : sa_Met sa_EX yX1_takeContents cX1_takeContents 4 (some Jvm.ClassFile.FieldType.boolean) 2 43 ct_X1_takeContents := sa_met sa_EX_ok (by decide +kernel) ⟨ss_aload_n rfl dX1_takeContents_0 rfl,
  ss_iload_n rfl dX1_takeContents_1 rfl,
  ss_virt dX1_takeContents_2 (sa_lc ⟨_, _, _, yX1_hasBytes, _, _, _, _, _, rfl, cal_X1_hasBytes _ _ (by decide) (by decide), wt_3_235, Or.inl ⟨wt_3_234, wt_3_236⟩⟩ sa_l0) rfl,
  ss_if_ne (tgt := 10) dX1_takeContents_5 (by decide) rfl,
  ss_iconst dX1_takeContents_8 (by decide) rfl,
  ss_zret dX1_takeContents_9 rfl,
  ss_iconst dX1_takeContents_10 (by decide) rfl,
  ss_istore_n rfl dX1_takeContents_11 (by decide) rfl,
  ss_iload_n rfl dX1_takeContents_12 rfl,
  ss_iload_n rfl dX1_takeContents_13 rfl,
  ss_icmp_ge (tgt := 31) dX1_takeContents_14 (by decide) rfl,
  ss_aload_n rfl dX1_takeContents_17 rfl,
  ss_aload_n rfl dX1_takeContents_18 rfl,
  ss_virt dX1_takeContents_19 (sa_lc ⟨_, _, _, yX1_take, _, _, _, _, _, rfl, cal_X1_take _ _ (by decide) (by decide), wt_3_206, Or.inl ⟨wt_4_21, wt_3_207⟩⟩ sa_l0) rfl,
  ss_virt dX1_takeContents_22 (sa_lc ⟨_, _, _, yX8_addContentsByte, _, _, _, _, _, rfl, cal_X8_addContentsByte _ _ (by decide) (by decide), wt_2_67, Or.inr ⟨⟨RX2, "addContentsByte", "(I)V"⟩, RX8, wt_4_22, wt_4_23, wt_4_24, wn_2_65, ⟨by decide, by decide⟩, by decide +kernel⟩⟩ sa_l0) rfl,
  ss_iinc dX1_takeContents_25 (by decide) (by decide) rfl,
  ss_goto (tgt := 12) dX1_takeContents_28 (by decide),
  ss_iconst dX1_takeContents_31 (by decide) rfl,
  ss_zret dX1_takeContents_32 rfl,
  trivial⟩
set_option maxRecDepth 100000 in
theorem tm_X1_takeContents : sa_tm tb_X1_takeContents := ⟨sm_aload, sm_iload, (sm_virt (sa_lc mo_X1_hasBytes sa_l0)), sm_if, sm_push, sm_zret, sm_push, sm_istore, sm_iload, sm_iload, sm_cmp, sm_aload, sm_aload, (sm_virt (sa_lc mo_X1_take sa_l0)), (sm_virt (sa_lc mo_X8_addContentsByte sa_l0)), sm_iinc, sm_goto, sm_push, sm_zret, trivial⟩
theorem mo_X1_takeContents : sa_mc ct_X1_takeContents := sa_mct tm_X1_takeContents
theorem cal_X1_takeContents (fr lr : Nat) (h1 : 2 + 1 ≤ fr) (h2 : 8 + (4 + 11) + 43 ≤ lr) : sa_cal sa_EX yX1_takeContents cX1_takeContents 4 (some Jvm.ClassFile.FieldType.boolean) 2 43 ct_X1_takeContents 2 3 fr lr := ⟨met_X1_takeContents, wt_4_20, wt_1_8, ⟨by decide +kernel, by decide +kernel, by decide +kernel⟩, by decide, h1, h2⟩
