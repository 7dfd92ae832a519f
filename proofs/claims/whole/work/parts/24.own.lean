def tb_X10_row : sa_T := [(0, so_iload 1 1),
  (1, so_push (.inl (-1)) 2),
  (2, so_cmp (fun x y => x = y) 5 13),
  (5, so_aload 0 6),
  (6, so_get [8] 1 9),
  (9, so_virt [(0, ct_X0_size)] 0 0 0 12),
  (12, so_iret),
  (13, so_aload 0 14),
  (14, so_get [8] 1 17),
  (17, so_iload 1 18),
  (18, so_virt [(0, ct_X0_has)] 1 0 0 21),
  (21, so_if (fun x => x = 0) 35 24),
  (24, so_aload 0 25),
  (25, so_get [8] 1 28),
  (28, so_iload 1 29),
  (29, so_virt [(0, ct_X0_at)] 1 0 0 32),
  (32, so_goto 37),
  (35, so_push (.inl (-2)) 37),
  (37, so_iret)]
def ct_X10_row : sa_C := sa_ct tb_X10_row 2
set_option maxRecDepth 100000 in
set_option maxHeartbeats 4000000 in
theorem met_X10_row : sa_Met sa_EX yX10_row cX10_row 2 (some Jvm.ClassFile.FieldType.int) 1 21 ct_X10_row := sa_met sa_EX_ok (by decide +kernel) ⟨ss_iload_n rfl dX10_row_0 rfl,
  ss_iconst dX10_row_1 (by decide) rfl,
  ss_icmp_ne (tgt := 13) dX10_row_2 (by decide) rfl,
  ss_aload_n rfl dX10_row_5 rfl,
  ss_get dX10_row_6 (sa_lc ⟨_, _, _, rfl, by decide, inX10, wt_1_169⟩ sa_l0) rfl,
  ss_virt dX10_row_9 (sa_lc ⟨_, _, _, yX0_size, _, _, _, _, _, rfl, cal_X0_size _ _ (by decide) (by decide), wt_2_196, Or.inl ⟨wt_3_90, wt_2_197⟩⟩ sa_l0) rfl,
  ss_iret dX10_row_12 rfl,
  ss_aload_n rfl dX10_row_13 rfl,
  ss_get dX10_row_14 (sa_lc ⟨_, _, _, rfl, by decide, inX10, wt_1_169⟩ sa_l0) rfl,
  ss_iload_n rfl dX10_row_17 rfl,
  ss_virt dX10_row_18 (sa_lc ⟨_, _, _, yX0_has, _, _, _, _, _, rfl, cal_X0_has _ _ (by decide) (by decide), wt_3_106, Or.inl ⟨wt_3_105, wt_3_107⟩⟩ sa_l0) rfl,
  ss_if_eq (tgt := 35) dX10_row_21 (by decide) rfl,
  ss_aload_n rfl dX10_row_24 rfl,
  ss_get dX10_row_25 (sa_lc ⟨_, _, _, rfl, by decide, inX10, wt_1_169⟩ sa_l0) rfl,
  ss_iload_n rfl dX10_row_28 rfl,
  ss_virt dX10_row_29 (sa_lc ⟨_, _, _, yX0_at, _, _, _, _, _, rfl, cal_X0_at _ _ (by decide) (by decide), wt_3_87, Or.inl ⟨wt_3_109, wt_3_88⟩⟩ sa_l0) rfl,
  ss_goto (tgt := 37) dX10_row_32 (by decide),
  ss_bipush dX10_row_35 (by decide) rfl,
  ss_iret dX10_row_37 rfl,
  trivial⟩
set_option maxRecDepth 100000 in
theorem tm_X10_row : sa_tm tb_X10_row := ⟨sm_iload, sm_push, sm_cmp, sm_aload, sm_get, (sm_virt (sa_lc mo_X0_size sa_l0)), sm_iret, sm_aload, sm_get, sm_iload, (sm_virt (sa_lc mo_X0_has sa_l0)), sm_if, sm_aload, sm_get, sm_iload, (sm_virt (sa_lc mo_X0_at sa_l0)), sm_goto, sm_push, sm_iret, trivial⟩
theorem mo_X10_row : sa_mc ct_X10_row := sa_mct tm_X10_row
theorem cal_X10_row (fr lr : Nat) (h1 : 1 + 1 ≤ fr) (h2 : 8 + (2 + 11) + 21 ≤ lr) : sa_cal sa_EX yX10_row cX10_row 2 (some Jvm.ClassFile.FieldType.int) 1 21 ct_X10_row 1 2 fr lr := ⟨met_X10_row, wt_3_104, wt_1_1, ⟨by decide +kernel, by decide +kernel, by decide +kernel⟩, by decide, h1, h2⟩
def tb_X10_poke : sa_T := [(0, so_aload 0 1),
  (1, so_get [8] 1 4),
  (4, so_iload 1 5),
  (5, so_virt [(0, ct_X0_has)] 1 0 0 8),
  (8, so_if (fun x => x = 0) 18 11),
  (11, so_iload 2 12),
  (12, so_stat ct_X10_isByte 1 0 0 15),
  (15, so_if (fun x => x = 0) 18 21),
  (18, so_push (.inl (-2)) 20),
  (20, so_iret),
  (21, so_aload 0 22),
  (22, so_get [8] 1 25),
  (25, so_iload 1 26),
  (26, so_virt [(0, ct_X0_at)] 1 0 0 29),
  (29, so_istore 3 30),
  (30, so_aload 0 31),
  (31, so_get [8] 1 34),
  (34, so_iload 1 35),
  (35, so_iload 2 36),
  (36, so_virt [(0, ct_X0_change)] 2 0 0 39),
  (39, so_iload 3 40),
  (40, so_iret)]
def ct_X10_poke : sa_C := sa_ct tb_X10_poke 4
set_option maxRecDepth 100000 in
set_option maxHeartbeats 4000000 in
theorem met_X10_poke : sa_Met sa_EX yX10_poke cX10_poke 4 (some Jvm.ClassFile.FieldType.int) 1 22 ct_X10_poke := sa_met sa_EX_ok (by decide +kernel) ⟨ss_aload_n rfl dX10_poke_0 rfl,
  ss_get dX10_poke_1 (sa_lc ⟨_, _, _, rfl, by decide, inX10, wt_1_169⟩ sa_l0) rfl,
  ss_iload_n rfl dX10_poke_4 rfl,
  ss_virt dX10_poke_5 (sa_lc ⟨_, _, _, yX0_has, _, _, _, _, _, rfl, cal_X0_has _ _ (by decide) (by decide), wt_3_106, Or.inl ⟨wt_3_105, wt_3_107⟩⟩ sa_l0) rfl,
  ss_if_eq (tgt := 18) dX10_poke_8 (by decide) rfl,
  ss_iload_n rfl dX10_poke_11 rfl,
  ss_stat dX10_poke_12 (cal_X10_isByte _ _ (by decide) (by decide)) wt_2_35 wt_2_36 rfl,
  ss_if_ne (tgt := 21) dX10_poke_15 (by decide) rfl,
  ss_bipush dX10_poke_18 (by decide) rfl,
  ss_iret dX10_poke_20 rfl,
  ss_aload_n rfl dX10_poke_21 rfl,
  ss_get dX10_poke_22 (sa_lc ⟨_, _, _, rfl, by decide, inX10, wt_1_169⟩ sa_l0) rfl,
  ss_iload_n rfl dX10_poke_25 rfl,
  ss_virt dX10_poke_26 (sa_lc ⟨_, _, _, yX0_at, _, _, _, _, _, rfl, cal_X0_at _ _ (by decide) (by decide), wt_3_87, Or.inl ⟨wt_3_109, wt_3_88⟩⟩ sa_l0) rfl,
  ss_istore_n rfl dX10_poke_29 (by decide) rfl,
  ss_aload_n rfl dX10_poke_30 rfl,
  ss_get dX10_poke_31 (sa_lc ⟨_, _, _, rfl, by decide, inX10, wt_1_169⟩ sa_l0) rfl,
  ss_iload_n rfl dX10_poke_34 rfl,
  ss_iload_n rfl dX10_poke_35 rfl,
  ss_virt dX10_poke_36 (sa_lc ⟨_, _, _, yX0_change, _, _, _, _, _, rfl, cal_X0_change _ _ (by decide) (by decide), wt_3_115, Or.inl ⟨wt_3_114, wt_3_116⟩⟩ sa_l0) rfl,
  ss_iload_n rfl dX10_poke_39 rfl,
  ss_iret dX10_poke_40 rfl,
  trivial⟩
set_option maxRecDepth 100000 in
theorem tm_X10_poke : sa_tm tb_X10_poke := ⟨sm_aload, sm_get, sm_iload, (sm_virt (sa_lc mo_X0_has sa_l0)), sm_if, sm_iload, (sm_stat mo_X10_isByte), sm_if, sm_push, sm_iret, sm_aload, sm_get, sm_iload, (sm_virt (sa_lc mo_X0_at sa_l0)), sm_istore, sm_aload, sm_get, sm_iload, sm_iload, (sm_virt (sa_lc mo_X0_change sa_l0)), sm_iload, sm_iret, trivial⟩
theorem mo_X10_poke : sa_mc ct_X10_poke := sa_mct tm_X10_poke
theorem cal_X10_poke (fr lr : Nat) (h1 : 1 + 1 ≤ fr) (h2 : 8 + (4 + 11) + 22 ≤ lr) : sa_cal sa_EX yX10_poke cX10_poke 4 (some Jvm.ClassFile.FieldType.int) 1 22 ct_X10_poke 2 3 fr lr := ⟨met_X10_poke, wt_3_113, wt_1_1, ⟨by decide +kernel, by decide +kernel, by decide +kernel⟩, by decide, h1, h2⟩
def tb_X10_cut : sa_T := [(0, so_aload 0 1),
  (1, so_get [8] 1 4),
  (4, so_virt [(0, ct_X0_size)] 0 0 0 7),
  (7, so_istore 2 8),
  (8, so_iload 1 9),
  (9, so_if (fun x => x < 0) 17 12),
  (12, so_iload 1 13),
  (13, so_iload 2 14),
  (14, so_cmp (fun x y => x ≤ y) 20 17),
  (17, so_push (.inl (-2)) 19),
  (19, so_iret),
  (20, so_aload 0 21),
  (21, so_get [8] 1 24),
  (24, so_iload 1 25),
  (25, so_virt [(0, ct_X0_shorten)] 1 0 0 28),
  (28, so_iload 2 29),
  (29, so_iload 1 30),
  (30, so_bin (fun x y => x - y) 31),
  (31, so_iret)]
def ct_X10_cut : sa_C := sa_ct tb_X10_cut 3
set_option maxRecDepth 100000 in
set_option maxHeartbeats 4000000 in
theorem met_X10_cut : sa_Met sa_EX yX10_cut cX10_cut 3 (some Jvm.ClassFile.FieldType.int) 1 21 ct_X10_cut := sa_met sa_EX_ok (by decide +kernel) ⟨ss_aload_n rfl dX10_cut_0 rfl,
  ss_get dX10_cut_1 (sa_lc ⟨_, _, _, rfl, by decide, inX10, wt_1_169⟩ sa_l0) rfl,
  ss_virt dX10_cut_4 (sa_lc ⟨_, _, _, yX0_size, _, _, _, _, _, rfl, cal_X0_size _ _ (by decide) (by decide), wt_2_196, Or.inl ⟨wt_3_90, wt_2_197⟩⟩ sa_l0) rfl,
  ss_istore_n rfl dX10_cut_7 (by decide) rfl,
  ss_iload_n rfl dX10_cut_8 rfl,
  ss_if_lt (tgt := 17) dX10_cut_9 (by decide) rfl,
  ss_iload_n rfl dX10_cut_12 rfl,
  ss_iload_n rfl dX10_cut_13 rfl,
  ss_icmp_le (tgt := 20) dX10_cut_14 (by decide) rfl,
  ss_bipush dX10_cut_17 (by decide) rfl,
  ss_iret dX10_cut_19 rfl,
  ss_aload_n rfl dX10_cut_20 rfl,
  ss_get dX10_cut_21 (sa_lc ⟨_, _, _, rfl, by decide, inX10, wt_1_169⟩ sa_l0) rfl,
  ss_iload_n rfl dX10_cut_24 rfl,
  ss_virt dX10_cut_25 (sa_lc ⟨_, _, _, yX0_shorten, _, _, _, _, _, rfl, cal_X0_shorten _ _ (by decide) (by decide), wt_3_123, Or.inl ⟨wt_3_122, wt_3_124⟩⟩ sa_l0) rfl,
  ss_iload_n rfl dX10_cut_28 rfl,
  ss_iload_n rfl dX10_cut_29 rfl,
  ss_isub dX10_cut_30 rfl,
  ss_iret dX10_cut_31 rfl,
  trivial⟩
set_option maxRecDepth 100000 in
theorem tm_X10_cut : sa_tm tb_X10_cut := ⟨sm_aload, sm_get, (sm_virt (sa_lc mo_X0_size sa_l0)), sm_istore, sm_iload, sm_if, sm_iload, sm_iload, sm_cmp, sm_push, sm_iret, sm_aload, sm_get, sm_iload, (sm_virt (sa_lc mo_X0_shorten sa_l0)), sm_iload, sm_iload, sm_bin, sm_iret, trivial⟩
theorem mo_X10_cut : sa_mc ct_X10_cut := sa_mct tm_X10_cut
theorem cal_X10_cut (fr lr : Nat) (h1 : 1 + 1 ≤ fr) (h2 : 8 + (3 + 11) + 21 ≤ lr) : sa_cal sa_EX yX10_cut cX10_cut 3 (some Jvm.ClassFile.FieldType.int) 1 21 ct_X10_cut 1 2 fr lr := ⟨met_X10_cut, wt_3_121, wt_1_1, ⟨by decide +kernel, by decide +kernel, by decide +kernel⟩, by decide, h1, h2⟩
def tb_X10_read : sa_T := [(0, so_iload 1 1),
  (1, so_stat ct_X10_isForm 1 0 0 4),
  (4, so_if (fun x => x = 0) 7 10),
  (7, so_push (.inl (-2)) 9),
  (9, so_iret),
  (10, so_aload 0 11),
  (11, so_get [8] 3 14),
  (14, so_virt [(2, ct_X8_restart)] 0 0 0 17),
  (17, so_aload 0 18),
  (18, so_get [8] 4 21),
  (21, so_virt [(1, ct_X1_restart)] 0 0 0 24),
  (24, so_aload 0 25),
  (25, so_iload 1 26),
  (26, so_virt [(8, ct_X10_formOf)] 1 0 0 29),
  (29, so_aload 0 30),
  (30, so_get [8] 4 33),
  (33, so_aload 0 34),
  (34, so_get [8] 3 37),
  (37, so_virt [(4, ct_X5_unpack), (5, ct_X6_unpack), (6, ct_X7_unpack)] 2 0 0 40),
  (40, so_aload 0 41),
  (41, so_get [8] 4 44),
  (44, so_virt [(1, ct_X1_hasFinding)] 0 0 0 47),
  (47, so_if (fun x => x = 0) 63 50),
  (50, so_push (.inl (-20)) 52),
  (52, so_aload 0 53),
  (53, so_get [8] 4 56),
  (56, so_virt [(1, ct_X1_findingKind)] 0 0 0 59),
  (59, so_bin (fun x y => x - y) 60),
  (60, so_goto 70),
  (63, so_aload 0 64),
  (64, so_get [8] 3 67),
  (67, so_virt [(2, ct_X8_count)] 0 0 0 70),
  (70, so_iret)]
def ct_X10_read : sa_C := sa_ct tb_X10_read 2
set_option maxRecDepth 100000 in
set_option maxHeartbeats 4000000 in
theorem met_X10_read : sa_Met sa_EX yX10_read cX10_read 2 (some Jvm.ClassFile.FieldType.int) 7 160 ct_X10_read := sa_met sa_EX_ok (by decide +kernel) ⟨ss_iload_n rfl dX10_read_0 rfl,
  ss_stat dX10_read_1 (cal_X10_isForm _ _ (by decide) (by decide)) wt_2_95 wt_2_96 rfl,
  ss_if_ne (tgt := 10) dX10_read_4 (by decide) rfl,
  ss_bipush dX10_read_7 (by decide) rfl,
  ss_iret dX10_read_9 rfl,
  ss_aload_n rfl dX10_read_10 rfl,
  ss_get dX10_read_11 (sa_lc ⟨_, _, _, rfl, by decide, inX10, wt_1_171⟩ sa_l0) rfl,
  ss_virt dX10_read_14 (sa_lc ⟨_, _, _, yX8_restart, _, _, _, _, _, rfl, cal_X8_restart _ _ (by decide) (by decide), wt_2_85, Or.inr ⟨⟨RX2, "restart", "()V"⟩, RX8, wt_3_130, wt_3_131, wt_3_132, wn_2_83, ⟨by decide, by decide⟩, by decide +kernel⟩⟩ sa_l0) rfl,
  ss_aload_n rfl dX10_read_17 rfl,
  ss_get dX10_read_18 (sa_lc ⟨_, _, _, rfl, by decide, inX10, wt_1_172⟩ sa_l0) rfl,
  ss_virt dX10_read_21 (sa_lc ⟨_, _, _, yX1_restart, _, _, _, _, _, rfl, cal_X1_restart _ _ (by decide) (by decide), wt_3_134, Or.inl ⟨wt_3_133, wt_3_135⟩⟩ sa_l0) rfl,
  ss_aload_n rfl dX10_read_24 rfl,
  ss_iload_n rfl dX10_read_25 rfl,
  ss_virt dX10_read_26 (sa_lc ⟨_, _, _, yX10_formOf, _, _, _, _, _, rfl, cal_X10_formOf _ _ (by decide) (by decide), wt_2_168, Or.inl ⟨wt_2_166, wp_1⟩⟩ sa_l0) rfl,
  ss_aload_n rfl dX10_read_29 rfl,
  ss_get dX10_read_30 (sa_lc ⟨_, _, _, rfl, by decide, inX10, wt_1_172⟩ sa_l0) rfl,
  ss_aload_n rfl dX10_read_33 rfl,
  ss_get dX10_read_34 (sa_lc ⟨_, _, _, rfl, by decide, inX10, wt_1_171⟩ sa_l0) rfl,
  ss_virt dX10_read_37 (sa_lc ⟨_, _, _, yX5_unpack, _, _, _, _, _, rfl, cal_X5_unpack _ _ (by decide) (by decide), wt_3_142, Or.inr ⟨⟨RX4, "unpack", "(LSmallArchives$Cursor;LSmallArchives$Entries;)V"⟩, RX4, wt_3_138, wt_3_140, wt_3_141, wn_3_139, ⟨by decide, by decide⟩, by decide +kernel⟩⟩ (sa_lc ⟨_, _, _, yX6_unpack, _, _, _, _, _, rfl, cal_X6_unpack _ _ (by decide) (by decide), wt_4_36, Or.inr ⟨⟨RX4, "unpack", "(LSmallArchives$Cursor;LSmallArchives$Entries;)V"⟩, RX4, wt_3_138, wt_3_140, wt_4_35, wn_3_139, ⟨by decide, by decide⟩, by decide +kernel⟩⟩ (sa_lc ⟨_, _, _, yX7_unpack, _, _, _, _, _, rfl, cal_X7_unpack _ _ (by decide) (by decide), wt_4_70, Or.inr ⟨⟨RX4, "unpack", "(LSmallArchives$Cursor;LSmallArchives$Entries;)V"⟩, RX4, wt_3_138, wt_3_140, wt_4_69, wn_3_139, ⟨by decide, by decide⟩, by decide +kernel⟩⟩ sa_l0))) rfl,
  ss_aload_n rfl dX10_read_40 rfl,
  ss_get dX10_read_41 (sa_lc ⟨_, _, _, rfl, by decide, inX10, wt_1_172⟩ sa_l0) rfl,
  ss_virt dX10_read_44 (sa_lc ⟨_, _, _, yX1_hasFinding, _, _, _, _, _, rfl, cal_X1_hasFinding _ _ (by decide) (by decide), wt_4_129, Or.inl ⟨wt_4_151, wt_4_130⟩⟩ sa_l0) rfl,
  ss_if_eq (tgt := 63) dX10_read_47 (by decide) rfl,
  ss_bipush dX10_read_50 (by decide) rfl,
  ss_aload_n rfl dX10_read_52 rfl,
  ss_get dX10_read_53 (sa_lc ⟨_, _, _, rfl, by decide, inX10, wt_1_172⟩ sa_l0) rfl,
  ss_virt dX10_read_56 (sa_lc ⟨_, _, _, yX1_findingKind, _, _, _, _, _, rfl, cal_X1_findingKind _ _ (by decide) (by decide), wt_4_153, Or.inl ⟨wt_4_152, wt_4_154⟩⟩ sa_l0) rfl,
  ss_isub dX10_read_59 rfl,
  ss_goto (tgt := 70) dX10_read_60 (by decide),
  ss_aload_n rfl dX10_read_63 rfl,
  ss_get dX10_read_64 (sa_lc ⟨_, _, _, rfl, by decide, inX10, wt_1_171⟩ sa_l0) rfl,
  ss_virt dX10_read_67 (sa_lc ⟨_, _, _, yX8_count, _, _, _, _, _, rfl, cal_X8_count _ _ (by decide) (by decide), wt_1_205, Or.inr ⟨⟨RX2, "count", "()I"⟩, RX8, wt_4_156, wt_4_110, wt_4_111, wn_1_203, ⟨by decide, by decide⟩, by decide +kernel⟩⟩ sa_l0) rfl,
  ss_iret dX10_read_70 rfl,
  trivial⟩
set_option maxRecDepth 100000 in
theorem tm_X10_read : sa_tm tb_X10_read := ⟨sm_iload, (sm_stat mo_X10_isForm), sm_if, sm_push, sm_iret, sm_aload, sm_get, (sm_virt (sa_lc mo_X8_restart sa_l0)), sm_aload, sm_get, (sm_virt (sa_lc mo_X1_restart sa_l0)), sm_aload, sm_iload, (sm_virt (sa_lc mo_X10_formOf sa_l0)), sm_aload, sm_get, sm_aload, sm_get, (sm_virt (sa_lc mo_X5_unpack (sa_lc mo_X6_unpack (sa_lc mo_X7_unpack sa_l0)))), sm_aload, sm_get, (sm_virt (sa_lc mo_X1_hasFinding sa_l0)), sm_if, sm_push, sm_aload, sm_get, (sm_virt (sa_lc mo_X1_findingKind sa_l0)), sm_bin, sm_goto, sm_aload, sm_get, (sm_virt (sa_lc mo_X8_count sa_l0)), sm_iret, trivial⟩
theorem mo_X10_read : sa_mc ct_X10_read := sa_mct tm_X10_read
theorem cal_X10_read (fr lr : Nat) (h1 : 7 + 1 ≤ fr) (h2 : 8 + (2 + 11) + 160 ≤ lr) : sa_cal sa_EX yX10_read cX10_read 2 (some Jvm.ClassFile.FieldType.int) 7 160 ct_X10_read 1 2 fr lr := ⟨met_X10_read, wt_3_129, wt_1_1, ⟨by decide +kernel, by decide +kernel, by decide +kernel⟩, by decide, h1, h2⟩
def tb_X10_place : sa_T := [(0, so_aload 0 1),
  (1, so_get [8] 4 4),
  (4, so_virt [(1, ct_X1_findingPlace)] 0 0 0 7),
  (7, so_iret)]
def ct_X10_place : sa_C := sa_ct tb_X10_place 1
set_option maxRecDepth 100000 in
set_option maxHeartbeats 4000000 in
theorem met_X10_place : sa_Met sa_EX yX10_place cX10_place 1 (some Jvm.ClassFile.FieldType.int) 1 20 ct_X10_place := sa_met sa_EX_ok (by decide +kernel) ⟨ss_aload_n rfl dX10_place_0 rfl,
  ss_get dX10_place_1 (sa_lc ⟨_, _, _, rfl, by decide, inX10, wt_1_172⟩ sa_l0) rfl,
  ss_virt dX10_place_4 (sa_lc ⟨_, _, _, yX1_findingPlace, _, _, _, _, _, rfl, cal_X1_findingPlace _ _ (by decide) (by decide), wt_4_162, Or.inl ⟨wt_4_161, wt_4_163⟩⟩ sa_l0) rfl,
  ss_iret dX10_place_7 rfl,
  trivial⟩
set_option maxRecDepth 100000 in
theorem tm_X10_place : sa_tm tb_X10_place := ⟨sm_aload, sm_get, (sm_virt (sa_lc mo_X1_findingPlace sa_l0)), sm_iret, trivial⟩
theorem mo_X10_place : sa_mc ct_X10_place := sa_mct tm_X10_place
theorem cal_X10_place (fr lr : Nat) (h1 : 1 + 1 ≤ fr) (h2 : 8 + (1 + 11) + 20 ≤ lr) : sa_cal sa_EX yX10_place cX10_place 1 (some Jvm.ClassFile.FieldType.int) 1 20 ct_X10_place 0 1 fr lr := ⟨met_X10_place, wt_4_160, wt_1_1, ⟨by decide +kernel, by decide +kernel, by decide +kernel⟩, by decide, h1, h2⟩
def tb_X10_entries : sa_T := [(0, so_aload 0 1),
  (1, so_get [8] 3 4),
  (4, so_virt [(2, ct_X8_count)] 0 0 0 7),
  (7, so_iret)]
def ct_X10_entries : sa_C := sa_ct tb_X10_entries 1
set_option maxRecDepth 100000 in
set_option maxHeartbeats 4000000 in
theorem met_X10_entries : sa_Met sa_EX yX10_entries cX10_entries 1 (some Jvm.ClassFile.FieldType.int) 2 40 ct_X10_entries := sa_met sa_EX_ok (by decide +kernel) ⟨ss_aload_n rfl dX10_entries_0 rfl,
  ss_get dX10_entries_1 (sa_lc ⟨_, _, _, rfl, by decide, inX10, wt_1_171⟩ sa_l0) rfl,
  ss_virt dX10_entries_4 (sa_lc ⟨_, _, _, yX8_count, _, _, _, _, _, rfl, cal_X8_count _ _ (by decide) (by decide), wt_1_205, Or.inr ⟨⟨RX2, "count", "()I"⟩, RX8, wt_4_156, wt_4_110, wt_4_111, wn_1_203, ⟨by decide, by decide⟩, by decide +kernel⟩⟩ sa_l0) rfl,
  ss_iret dX10_entries_7 rfl,
  trivial⟩
set_option maxRecDepth 100000 in
theorem tm_X10_entries : sa_tm tb_X10_entries := ⟨sm_aload, sm_get, (sm_virt (sa_lc mo_X8_count sa_l0)), sm_iret, trivial⟩
theorem mo_X10_entries : sa_mc ct_X10_entries := sa_mct tm_X10_entries
theorem cal_X10_entries (fr lr : Nat) (h1 : 2 + 1 ≤ fr) (h2 : 8 + (1 + 11) + 40 ≤ lr) : sa_cal sa_EX yX10_entries cX10_entries 1 (some Jvm.ClassFile.FieldType.int) 2 40 ct_X10_entries 0 1 fr lr := ⟨met_X10_entries, wt_4_168, wt_1_1, ⟨by decide +kernel, by decide +kernel, by decide +kernel⟩, by decide, h1, h2⟩
theorem sa_t1_X10_told : ∀ x : Int32, (x.toInt < 0 ∨ 4 < x.toInt) → ((15 : Nat) : Int) + 79 = (sa_tgt [(0, 48), (1, 57), (2, 66), (3, 75), (4, 84)] 94 x : Int) := by
  intro x h
  have n0 : ¬ x = 0 := fun e => by subst e; exact absurd h (by decide)
  have n1 : ¬ x = 1 := fun e => by subst e; exact absurd h (by decide)
  have n2 : ¬ x = 2 := fun e => by subst e; exact absurd h (by decide)
  have n3 : ¬ x = 3 := fun e => by subst e; exact absurd h (by decide)
  have n4 : ¬ x = 4 := fun e => by subst e; exact absurd h (by decide)
  simp only [sa_tgt, if_neg n0, if_neg n1, if_neg n2, if_neg n3, if_neg n4]
  rfl
theorem sa_t2_X10_told : ∀ x : Int32, ¬ x.toInt < 0 → ¬ 4 < x.toInt → ∃ off, (#[33, 42, 51, 60, 69] : Array Int)[(x.toInt - 0).toNat]? = some off ∧ ((15 : Nat) : Int) + off = (sa_tgt [(0, 48), (1, 57), (2, 66), (3, 75), (4, 84)] 94 x : Int) := by
  intro x h1 h2
  have h3 : x.toInt = 0 ∨ x.toInt = 1 ∨ x.toInt = 2 ∨ x.toInt = 3 ∨ x.toInt = 4 := by omega
  rcases h3 with h | h | h | h | h
  · have h4 : x = 0 := Int32.toInt_inj.mp (h.trans rfl)
    subst h4; exact ⟨_, rfl, rfl⟩
  · have h4 : x = 1 := Int32.toInt_inj.mp (h.trans rfl)
    subst h4; exact ⟨_, rfl, rfl⟩
  · have h4 : x = 2 := Int32.toInt_inj.mp (h.trans rfl)
    subst h4; exact ⟨_, rfl, rfl⟩
  · have h4 : x = 3 := Int32.toInt_inj.mp (h.trans rfl)
    subst h4; exact ⟨_, rfl, rfl⟩
  · have h4 : x = 4 := Int32.toInt_inj.mp (h.trans rfl)
    subst h4; exact ⟨_, rfl, rfl⟩
def tb_X10_told : sa_T := [(0, so_aload 0 1),
  (1, so_get [8] 3 4),
  (4, so_iload 1 5),
  (5, so_virt [(2, ct_X8_has)] 1 0 0 8),
  (8, so_if (fun x => x = 0) 11 14),
  (11, so_push (.inl (-2)) 13),
  (13, so_iret),
  (14, so_iload 2 15),
  (15, so_sw [(0, 48), (1, 57), (2, 66), (3, 75), (4, 84)] 94),
  (48, so_aload 0 49),
  (49, so_get [8] 3 52),
  (52, so_iload 1 53),
  (53, so_virt [(2, ct_X8_nameLength)] 1 0 0 56),
  (56, so_iret),
  (57, so_aload 0 58),
  (58, so_get [8] 3 61),
  (61, so_iload 1 62),
  (62, so_virt [(2, ct_X8_contentsLength)] 1 0 0 65),
  (65, so_iret),
  (66, so_aload 0 67),
  (67, so_get [8] 3 70),
  (70, so_iload 1 71),
  (71, so_virt [(2, ct_X2_beginOf)] 1 0 0 74),
  (74, so_iret),
  (75, so_aload 0 76),
  (76, so_get [8] 3 79),
  (79, so_iload 1 80),
  (80, so_virt [(2, ct_X2_firstOfGroup)] 1 0 0 83),
  (83, so_iret),
  (84, so_aload 0 85),
  (85, so_get [8] 3 88),
  (88, so_iload 1 89),
  (89, so_iload 3 90),
  (90, so_virt [(2, ct_X8_nameByte)] 2 0 0 93),
  (93, so_iret),
  (94, so_push (.inl (-2)) 96),
  (96, so_iret)]
def ct_X10_told : sa_C := sa_ct tb_X10_told 4
set_option maxRecDepth 100000 in
set_option maxHeartbeats 4000000 in
theorem met_X10_told : sa_Met sa_EX yX10_told cX10_told 4 (some Jvm.ClassFile.FieldType.int) 5 106 ct_X10_told := sa_met sa_EX_ok (by decide +kernel) ⟨ss_aload_n rfl dX10_told_0 rfl,
  ss_get dX10_told_1 (sa_lc ⟨_, _, _, rfl, by decide, inX10, wt_1_171⟩ sa_l0) rfl,
  ss_iload_n rfl dX10_told_4 rfl,
  ss_virt dX10_told_5 (sa_lc ⟨_, _, _, yX8_has, _, _, _, _, _, rfl, cal_X8_has _ _ (by decide) (by decide), wt_2_15, Or.inr ⟨⟨RX2, "has", "(I)Z"⟩, RX8, wt_4_173, wt_2_60, wt_2_61, wn_2_13, ⟨by decide, by decide⟩, by decide +kernel⟩⟩ sa_l0) rfl,
  ss_if_ne (tgt := 14) dX10_told_8 (by decide) rfl,
  ss_bipush dX10_told_11 (by decide) rfl,
  ss_iret dX10_told_13 rfl,
  ss_iload_n rfl dX10_told_14 rfl,
  ss_tab dX10_told_15 sa_t1_X10_told sa_t2_X10_told,
  ss_aload_n rfl dX10_told_48 rfl,
  ss_get dX10_told_49 (sa_lc ⟨_, _, _, rfl, by decide, inX10, wt_1_171⟩ sa_l0) rfl,
  ss_iload_n rfl dX10_told_52 rfl,
  ss_virt dX10_told_53 (sa_lc ⟨_, _, _, yX8_nameLength, _, _, _, _, _, rfl, cal_X8_nameLength _ _ (by decide) (by decide), wt_1_221, Or.inr ⟨⟨RX2, "nameLength", "(I)I"⟩, RX8, wt_4_174, wt_4_54, wt_4_55, wn_1_219, ⟨by decide, by decide⟩, by decide +kernel⟩⟩ sa_l0) rfl,
  ss_iret dX10_told_56 rfl,
  ss_aload_n rfl dX10_told_57 rfl,
  ss_get dX10_told_58 (sa_lc ⟨_, _, _, rfl, by decide, inX10, wt_1_171⟩ sa_l0) rfl,
  ss_iload_n rfl dX10_told_61 rfl,
  ss_virt dX10_told_62 (sa_lc ⟨_, _, _, yX8_contentsLength, _, _, _, _, _, rfl, cal_X8_contentsLength _ _ (by decide) (by decide), wt_2_51, Or.inr ⟨⟨RX2, "contentsLength", "(I)I"⟩, RX8, wt_4_175, wt_4_176, wt_4_177, wn_2_49, ⟨by decide, by decide⟩, by decide +kernel⟩⟩ sa_l0) rfl,
  ss_iret dX10_told_65 rfl,
  ss_aload_n rfl dX10_told_66 rfl,
  ss_get dX10_told_67 (sa_lc ⟨_, _, _, rfl, by decide, inX10, wt_1_171⟩ sa_l0) rfl,
  ss_iload_n rfl dX10_told_70 rfl,
  ss_virt dX10_told_71 (sa_lc ⟨_, _, _, yX2_beginOf, _, _, _, _, _, rfl, cal_X2_beginOf _ _ (by decide) (by decide), wt_4_148, Or.inl ⟨wt_4_178, wt_4_149⟩⟩ sa_l0) rfl,
  ss_iret dX10_told_74 rfl,
  ss_aload_n rfl dX10_told_75 rfl,
  ss_get dX10_told_76 (sa_lc ⟨_, _, _, rfl, by decide, inX10, wt_1_171⟩ sa_l0) rfl,
  ss_iload_n rfl dX10_told_79 rfl,
  ss_virt dX10_told_80 (sa_lc ⟨_, _, _, yX2_firstOfGroup, _, _, _, _, _, rfl, cal_X2_firstOfGroup _ _ (by decide) (by decide), wt_4_180, Or.inl ⟨wt_4_179, wt_4_181⟩⟩ sa_l0) rfl,
  ss_iret dX10_told_83 rfl,
  ss_aload_n rfl dX10_told_84 rfl,
  ss_get dX10_told_85 (sa_lc ⟨_, _, _, rfl, by decide, inX10, wt_1_171⟩ sa_l0) rfl,
  ss_iload_n rfl dX10_told_88 rfl,
  ss_iload_n rfl dX10_told_89 rfl,
  ss_virt dX10_told_90 (sa_lc ⟨_, _, _, yX8_nameByte, _, _, _, _, _, rfl, cal_X8_nameByte _ _ (by decide) (by decide), wt_2_221, Or.inr ⟨⟨RX2, "nameByte", "(II)I"⟩, RX8, wt_4_183, wt_4_184, wt_4_185, wn_2_219, ⟨by decide, by decide⟩, by decide +kernel⟩⟩ sa_l0) rfl,
  ss_iret dX10_told_93 rfl,
  ss_bipush dX10_told_94 (by decide) rfl,
  ss_iret dX10_told_96 rfl,
  trivial⟩
set_option maxRecDepth 100000 in
theorem tm_X10_told : sa_tm tb_X10_told := ⟨sm_aload, sm_get, sm_iload, (sm_virt (sa_lc mo_X8_has sa_l0)), sm_if, sm_push, sm_iret, sm_iload, sm_sw, sm_aload, sm_get, sm_iload, (sm_virt (sa_lc mo_X8_nameLength sa_l0)), sm_iret, sm_aload, sm_get, sm_iload, (sm_virt (sa_lc mo_X8_contentsLength sa_l0)), sm_iret, sm_aload, sm_get, sm_iload, (sm_virt (sa_lc mo_X2_beginOf sa_l0)), sm_iret, sm_aload, sm_get, sm_iload, (sm_virt (sa_lc mo_X2_firstOfGroup sa_l0)), sm_iret, sm_aload, sm_get, sm_iload, sm_iload, (sm_virt (sa_lc mo_X8_nameByte sa_l0)), sm_iret, sm_push, sm_iret, trivial⟩
theorem mo_X10_told : sa_mc ct_X10_told := sa_mct tm_X10_told
theorem cal_X10_told (fr lr : Nat) (h1 : 5 + 1 ≤ fr) (h2 : 8 + (4 + 11) + 106 ≤ lr) : sa_cal sa_EX yX10_told cX10_told 4 (some Jvm.ClassFile.FieldType.int) 5 106 ct_X10_told 3 4 fr lr := ⟨met_X10_told, wt_4_172, wt_1_1, ⟨by decide +kernel, by decide +kernel, by decide +kernel⟩, by decide, h1, h2⟩
def tb_X10_same : sa_T := [(0, so_aload 0 1),
  (1, so_get [8] 3 4),
  (4, so_virt [(2, ct_X8_count)] 0 0 0 7),
  (7, so_aload 0 8),
  (8, so_get [8] 0 11),
  (11, so_virt [(3, ct_X8_count)] 0 0 0 14),
  (14, so_cmp (fun x y => x = y) 19 17),
  (17, so_push (.inl (0)) 18),
  (18, so_iret),
  (19, so_push (.inl (0)) 20),
  (20, so_istore 1 21),
  (21, so_iload 1 22),
  (22, so_aload 0 23),
  (23, so_get [8] 0 26),
  (26, so_virt [(3, ct_X8_count)] 0 0 0 29),
  (29, so_cmp (fun x y => y ≤ x) 70 32),
  (32, so_aload 0 33),
  (33, so_get [8] 3 36),
  (36, so_aload 0 37),
  (37, so_get [8] 0 40),
  (40, so_iload 1 41),
  (41, so_virt [(2, ct_X8_hasNameOf)] 2 0 0 44),
  (44, so_if (fun x => x = 0) 62 47),
  (47, so_aload 0 48),
  (48, so_get [8] 3 51),
  (51, so_aload 0 52),
  (52, so_get [8] 0 55),
  (55, so_iload 1 56),
  (56, so_virt [(2, ct_X8_hasContentsOf)] 2 0 0 59),
  (59, so_if (fun x => x = 0) 62 64),
  (62, so_push (.inl (0)) 63),
  (63, so_iret),
  (64, so_iinc 1 (1) 67),
  (67, so_goto 21),
  (70, so_push (.inl (1)) 71),
  (71, so_iret)]
def ct_X10_same : sa_C := sa_ct tb_X10_same 2
set_option maxRecDepth 100000 in
set_option maxHeartbeats 4000000 in
theorem met_X10_same : sa_Met sa_EX yX10_same cX10_same 2 (some Jvm.ClassFile.FieldType.int) 5 108 ct_X10_same := sa_met sa_EX_ok (by decide +kernel) ⟨ss_aload_n rfl dX10_same_0 rfl,
  ss_get dX10_same_1 (sa_lc ⟨_, _, _, rfl, by decide, inX10, wt_1_171⟩ sa_l0) rfl,
  ss_virt dX10_same_4 (sa_lc ⟨_, _, _, yX8_count, _, _, _, _, _, rfl, cal_X8_count _ _ (by decide) (by decide), wt_1_205, Or.inr ⟨⟨RX2, "count", "()I"⟩, RX8, wt_4_156, wt_4_110, wt_4_111, wn_1_203, ⟨by decide, by decide⟩, by decide +kernel⟩⟩ sa_l0) rfl,
  ss_aload_n rfl dX10_same_7 rfl,
  ss_get dX10_same_8 (sa_lc ⟨_, _, _, rfl, by decide, inX10, wt_1_168⟩ sa_l0) rfl,
  ss_virt dX10_same_11 (sa_lc ⟨_, _, _, yX8_count, _, _, _, _, _, rfl, cal_X8_count _ _ (by decide) (by decide), wt_1_205, Or.inr ⟨⟨RX3, "count", "()I"⟩, RX8, wt_1_227, wt_1_202, wt_1_204, wn_1_203, ⟨by decide, by decide⟩, by decide +kernel⟩⟩ sa_l0) rfl,
  ss_icmp_eq (tgt := 19) dX10_same_14 (by decide) rfl,
  ss_iconst dX10_same_17 (by decide) rfl,
  ss_iret dX10_same_18 rfl,
  ss_iconst dX10_same_19 (by decide) rfl,
  ss_istore_n rfl dX10_same_20 (by decide) rfl,
  ss_iload_n rfl dX10_same_21 rfl,
  ss_aload_n rfl dX10_same_22 rfl,
  ss_get dX10_same_23 (sa_lc ⟨_, _, _, rfl, by decide, inX10, wt_1_168⟩ sa_l0) rfl,
  ss_virt dX10_same_26 (sa_lc ⟨_, _, _, yX8_count, _, _, _, _, _, rfl, cal_X8_count _ _ (by decide) (by decide), wt_1_205, Or.inr ⟨⟨RX3, "count", "()I"⟩, RX8, wt_1_227, wt_1_202, wt_1_204, wn_1_203, ⟨by decide, by decide⟩, by decide +kernel⟩⟩ sa_l0) rfl,
  ss_icmp_ge (tgt := 70) dX10_same_29 (by decide) rfl,
  ss_aload_n rfl dX10_same_32 rfl,
  ss_get dX10_same_33 (sa_lc ⟨_, _, _, rfl, by decide, inX10, wt_1_171⟩ sa_l0) rfl,
  ss_aload_n rfl dX10_same_36 rfl,
  ss_get dX10_same_37 (sa_lc ⟨_, _, _, rfl, by decide, inX10, wt_1_168⟩ sa_l0) rfl,
  ss_iload_n rfl dX10_same_40 rfl,
  ss_virt dX10_same_41 (sa_lc ⟨_, _, _, yX8_hasNameOf, _, _, _, _, _, rfl, cal_X8_hasNameOf _ _ (by decide) (by decide), wt_4_194, Or.inr ⟨⟨RX2, "hasNameOf", "(LSmallArchives$Shelf;I)Z"⟩, RX8, wt_4_190, wt_4_191, wt_4_193, wn_4_192, ⟨by decide, by decide⟩, by decide +kernel⟩⟩ sa_l0) rfl,
  ss_if_eq (tgt := 62) dX10_same_44 (by decide) rfl,
  ss_aload_n rfl dX10_same_47 rfl,
  ss_get dX10_same_48 (sa_lc ⟨_, _, _, rfl, by decide, inX10, wt_1_171⟩ sa_l0) rfl,
  ss_aload_n rfl dX10_same_51 rfl,
  ss_get dX10_same_52 (sa_lc ⟨_, _, _, rfl, by decide, inX10, wt_1_168⟩ sa_l0) rfl,
  ss_iload_n rfl dX10_same_55 rfl,
  ss_virt dX10_same_56 (sa_lc ⟨_, _, _, yX8_hasContentsOf, _, _, _, _, _, rfl, cal_X8_hasContentsOf _ _ (by decide) (by decide), wt_4_202, Or.inr ⟨⟨RX2, "hasContentsOf", "(LSmallArchives$Shelf;I)Z"⟩, RX8, wt_4_198, wt_4_199, wt_4_201, wn_4_200, ⟨by decide, by decide⟩, by decide +kernel⟩⟩ sa_l0) rfl,
  ss_if_ne (tgt := 64) dX10_same_59 (by decide) rfl,
  ss_iconst dX10_same_62 (by decide) rfl,
  ss_iret dX10_same_63 rfl,
  ss_iinc dX10_same_64 (by decide) (by decide) rfl,
  ss_goto (tgt := 21) dX10_same_67 (by decide),
  ss_iconst dX10_same_70 (by decide) rfl,
  ss_iret dX10_same_71 rfl,
  trivial⟩
set_option maxRecDepth 100000 in
theorem tm_X10_same : sa_tm tb_X10_same := ⟨sm_aload, sm_get, (sm_virt (sa_lc mo_X8_count sa_l0)), sm_aload, sm_get, (sm_virt (sa_lc mo_X8_count sa_l0)), sm_cmp, sm_push, sm_iret, sm_push, sm_istore, sm_iload, sm_aload, sm_get, (sm_virt (sa_lc mo_X8_count sa_l0)), sm_cmp, sm_aload, sm_get, sm_aload, sm_get, sm_iload, (sm_virt (sa_lc mo_X8_hasNameOf sa_l0)), sm_if, sm_aload, sm_get, sm_aload, sm_get, sm_iload, (sm_virt (sa_lc mo_X8_hasContentsOf sa_l0)), sm_if, sm_push, sm_iret, sm_iinc, sm_goto, sm_push, sm_iret, trivial⟩
theorem mo_X10_same : sa_mc ct_X10_same := sa_mct tm_X10_same
theorem cal_X10_same (fr lr : Nat) (h1 : 5 + 1 ≤ fr) (h2 : 8 + (2 + 11) + 108 ≤ lr) : sa_cal sa_EX yX10_same cX10_same 2 (some Jvm.ClassFile.FieldType.int) 5 108 ct_X10_same 0 1 fr lr := ⟨met_X10_same, wt_4_189, wt_1_1, ⟨by decide +kernel, by decide +kernel, by decide +kernel⟩, by decide, h1, h2⟩
