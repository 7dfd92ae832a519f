theorem dX1_init_0 : decode cX1_init 0 = .ok (.aload_n 0, 1) := by decide +kernel
theorem dX1_init_1 : decode cX1_init 1 = .ok (.invokespecial 3, 3) := by decide +kernel
theorem dX1_init_4 : decode cX1_init 4 = .ok (.aload_n 0, 1) := by decide +kernel
theorem dX1_init_5 : decode cX1_init 5 = .ok (.aload_n 1, 1) := by decide +kernel
theorem dX1_init_6 : decode cX1_init 6 = .ok (.putfield 9, 3) := by decide +kernel
theorem dX1_init_9 : decode cX1_init 9 = .ok (.aload_n 0, 1) := by decide +kernel
theorem dX1_init_10 : decode cX1_init 10 = .ok (.iconst (-1), 1) := by decide +kernel
theorem dX1_init_11 : decode cX1_init 11 = .ok (.putfield 15, 3) := by decide +kernel
theorem dX1_init_14 : decode cX1_init 14 = .ok (.return_, 1) := by decide +kernel
theorem dX1_restart_0 : decode cX1_restart 0 = .ok (.aload_n 0, 1) := by decide +kernel
theorem dX1_restart_1 : decode cX1_restart 1 = .ok (.iconst 0, 1) := by decide +kernel
theorem dX1_restart_2 : decode cX1_restart 2 = .ok (.putfield 19, 3) := by decide +kernel
theorem dX1_restart_5 : decode cX1_restart 5 = .ok (.aload_n 0, 1) := by decide +kernel
theorem dX1_restart_6 : decode cX1_restart 6 = .ok (.aload_n 0, 1) := by decide +kernel
theorem dX1_restart_7 : decode cX1_restart 7 = .ok (.getfield 9, 3) := by decide +kernel
theorem dX1_restart_10 : decode cX1_restart 10 = .ok (.invokevirtual 22, 3) := by decide +kernel
theorem dX1_restart_13 : decode cX1_restart 13 = .ok (.putfield 28, 3) := by decide +kernel
theorem dX1_restart_16 : decode cX1_restart 16 = .ok (.aload_n 0, 1) := by decide +kernel
theorem dX1_restart_17 : decode cX1_restart 17 = .ok (.iconst 0, 1) := by decide +kernel
theorem dX1_restart_18 : decode cX1_restart 18 = .ok (.putfield 31, 3) := by decide +kernel
theorem dX1_restart_21 : decode cX1_restart 21 = .ok (.aload_n 0, 1) := by decide +kernel
theorem dX1_restart_22 : decode cX1_restart 22 = .ok (.iconst (-1), 1) := by decide +kernel
theorem dX1_restart_23 : decode cX1_restart 23 = .ok (.putfield 15, 3) := by decide +kernel
theorem dX1_restart_26 : decode cX1_restart 26 = .ok (.return_, 1) := by decide +kernel
theorem dX1_position_0 : decode cX1_position 0 = .ok (.aload_n 0, 1) := by decide +kernel
theorem dX1_position_1 : decode cX1_position 1 = .ok (.getfield 19, 3) := by decide +kernel
theorem dX1_position_4 : decode cX1_position 4 = .ok (.ireturn, 1) := by decide +kernel
theorem dX1_hasFinding_0 : decode cX1_hasFinding 0 = .ok (.aload_n 0, 1) := by decide +kernel
theorem dX1_hasFinding_1 : decode cX1_hasFinding 1 = .ok (.getfield 31, 3) := by decide +kernel
theorem dX1_hasFinding_4 : decode cX1_hasFinding 4 = .ok (.ifCond .eq 7, 3) := by decide +kernel
theorem dX1_hasFinding_7 : decode cX1_hasFinding 7 = .ok (.iconst 1, 1) := by decide +kernel
theorem dX1_hasFinding_8 : decode cX1_hasFinding 8 = .ok (.goto 4, 3) := by decide +kernel
theorem dX1_hasFinding_11 : decode cX1_hasFinding 11 = .ok (.iconst 0, 1) := by decide +kernel
theorem dX1_hasFinding_12 : decode cX1_hasFinding 12 = .ok (.ireturn, 1) := by decide +kernel
theorem dX1_findingKind_0 : decode cX1_findingKind 0 = .ok (.aload_n 0, 1) := by decide +kernel
theorem dX1_findingKind_1 : decode cX1_findingKind 1 = .ok (.getfield 31, 3) := by decide +kernel
theorem dX1_findingKind_4 : decode cX1_findingKind 4 = .ok (.ireturn, 1) := by decide +kernel
theorem dX1_findingPlace_0 : decode cX1_findingPlace 0 = .ok (.aload_n 0, 1) := by decide +kernel
theorem dX1_findingPlace_1 : decode cX1_findingPlace 1 = .ok (.getfield 15, 3) := by decide +kernel
theorem dX1_findingPlace_4 : decode cX1_findingPlace 4 = .ok (.ireturn, 1) := by decide +kernel
theorem dX1_hasMore_0 : decode cX1_hasMore 0 = .ok (.aload_n 0, 1) := by decide +kernel
theorem dX1_hasMore_1 : decode cX1_hasMore 1 = .ok (.getfield 31, 3) := by decide +kernel
theorem dX1_hasMore_4 : decode cX1_hasMore 4 = .ok (.ifCond .ne 18, 3) := by decide +kernel
theorem dX1_hasMore_7 : decode cX1_hasMore 7 = .ok (.aload_n 0, 1) := by decide +kernel
theorem dX1_hasMore_8 : decode cX1_hasMore 8 = .ok (.getfield 19, 3) := by decide +kernel
theorem dX1_hasMore_11 : decode cX1_hasMore 11 = .ok (.aload_n 0, 1) := by decide +kernel
theorem dX1_hasMore_12 : decode cX1_hasMore 12 = .ok (.getfield 28, 3) := by decide +kernel
theorem dX1_hasMore_15 : decode cX1_hasMore 15 = .ok (.if_icmp .ge 7, 3) := by decide +kernel
theorem dX1_hasMore_18 : decode cX1_hasMore 18 = .ok (.iconst 1, 1) := by decide +kernel
theorem dX1_hasMore_19 : decode cX1_hasMore 19 = .ok (.goto 4, 3) := by decide +kernel
theorem dX1_hasMore_22 : decode cX1_hasMore 22 = .ok (.iconst 0, 1) := by decide +kernel
theorem dX1_hasMore_23 : decode cX1_hasMore 23 = .ok (.ireturn, 1) := by decide +kernel
theorem dX1_byteAt_0 : decode cX1_byteAt 0 = .ok (.aload_n 0, 1) := by decide +kernel
theorem dX1_byteAt_1 : decode cX1_byteAt 1 = .ok (.getfield 9, 3) := by decide +kernel
theorem dX1_byteAt_4 : decode cX1_byteAt 4 = .ok (.iload_n 1, 1) := by decide +kernel
theorem dX1_byteAt_5 : decode cX1_byteAt 5 = .ok (.invokevirtual 34, 3) := by decide +kernel
theorem dX1_byteAt_8 : decode cX1_byteAt 8 = .ok (.ireturn, 1) := by decide +kernel
theorem dX1_peek_0 : decode cX1_peek 0 = .ok (.aload_n 0, 1) := by decide +kernel
theorem dX1_peek_1 : decode cX1_peek 1 = .ok (.getfield 9, 3) := by decide +kernel
theorem dX1_peek_4 : decode cX1_peek 4 = .ok (.aload_n 0, 1) := by decide +kernel
theorem dX1_peek_5 : decode cX1_peek 5 = .ok (.getfield 19, 3) := by decide +kernel
theorem dX1_peek_8 : decode cX1_peek 8 = .ok (.invokevirtual 34, 3) := by decide +kernel
theorem dX1_peek_11 : decode cX1_peek 11 = .ok (.ireturn, 1) := by decide +kernel
theorem dX1_take_0 : decode cX1_take 0 = .ok (.aload_n 0, 1) := by decide +kernel
theorem dX1_take_1 : decode cX1_take 1 = .ok (.getfield 9, 3) := by decide +kernel
theorem dX1_take_4 : decode cX1_take 4 = .ok (.aload_n 0, 1) := by decide +kernel
theorem dX1_take_5 : decode cX1_take 5 = .ok (.getfield 19, 3) := by decide +kernel
theorem dX1_take_8 : decode cX1_take 8 = .ok (.invokevirtual 34, 3) := by decide +kernel
theorem dX1_take_11 : decode cX1_take 11 = .ok (.istore_n 1, 1) := by decide +kernel
theorem dX1_take_12 : decode cX1_take 12 = .ok (.aload_n 0, 1) := by decide +kernel
theorem dX1_take_13 : decode cX1_take 13 = .ok (.getfield 19, 3) := by decide +kernel
theorem dX1_take_16 : decode cX1_take 16 = .ok (.aload_n 0, 1) := by decide +kernel
theorem dX1_take_17 : decode cX1_take 17 = .ok (.getfield 28, 3) := by decide +kernel
theorem dX1_take_20 : decode cX1_take 20 = .ok (.if_icmp .ge 13, 3) := by decide +kernel
theorem dX1_take_23 : decode cX1_take 23 = .ok (.aload_n 0, 1) := by decide +kernel
theorem dX1_take_24 : decode cX1_take 24 = .ok (.dup, 1) := by decide +kernel
theorem dX1_take_25 : decode cX1_take 25 = .ok (.getfield 19, 3) := by decide +kernel
theorem dX1_take_28 : decode cX1_take 28 = .ok (.iconst 1, 1) := by decide +kernel
theorem dX1_take_29 : decode cX1_take 29 = .ok (.iadd, 1) := by decide +kernel
theorem dX1_take_30 : decode cX1_take 30 = .ok (.putfield 19, 3) := by decide +kernel
theorem dX1_take_33 : decode cX1_take 33 = .ok (.iload_n 1, 1) := by decide +kernel
theorem dX1_take_34 : decode cX1_take 34 = .ok (.ireturn, 1) := by decide +kernel
theorem dX1_takeTwo_0 : decode cX1_takeTwo 0 = .ok (.aload_n 0, 1) := by decide +kernel
theorem dX1_takeTwo_1 : decode cX1_takeTwo 1 = .ok (.invokevirtual 37, 3) := by decide +kernel
theorem dX1_takeTwo_4 : decode cX1_takeTwo 4 = .ok (.istore_n 1, 1) := by decide +kernel
theorem dX1_takeTwo_5 : decode cX1_takeTwo 5 = .ok (.iload_n 1, 1) := by decide +kernel
theorem dX1_takeTwo_6 : decode cX1_takeTwo 6 = .ok (.bipush 8, 2) := by decide +kernel
theorem dX1_takeTwo_8 : decode cX1_takeTwo 8 = .ok (.ishl, 1) := by decide +kernel
theorem dX1_takeTwo_9 : decode cX1_takeTwo 9 = .ok (.aload_n 0, 1) := by decide +kernel
theorem dX1_takeTwo_10 : decode cX1_takeTwo 10 = .ok (.invokevirtual 37, 3) := by decide +kernel
theorem dX1_takeTwo_13 : decode cX1_takeTwo 13 = .ok (.ior, 1) := by decide +kernel
theorem dX1_takeTwo_14 : decode cX1_takeTwo 14 = .ok (.ireturn, 1) := by decide +kernel
theorem dX1_find_0 : decode cX1_find 0 = .ok (.aload_n 0, 1) := by decide +kernel
theorem dX1_find_1 : decode cX1_find 1 = .ok (.iload_n 1, 1) := by decide +kernel
theorem dX1_find_2 : decode cX1_find 2 = .ok (.putfield 31, 3) := by decide +kernel
theorem dX1_find_5 : decode cX1_find 5 = .ok (.aload_n 0, 1) := by decide +kernel
theorem dX1_find_6 : decode cX1_find 6 = .ok (.iload_n 2, 1) := by decide +kernel
theorem dX1_find_7 : decode cX1_find 7 = .ok (.putfield 15, 3) := by decide +kernel
theorem dX1_find_10 : decode cX1_find 10 = .ok (.iconst 0, 1) := by decide +kernel
theorem dX1_find_11 : decode cX1_find 11 = .ok (.ireturn, 1) := by decide +kernel
theorem dX1_refuseHere_0 : decode cX1_refuseHere 0 = .ok (.aload_n 0, 1) := by decide +kernel
theorem dX1_refuseHere_1 : decode cX1_refuseHere 1 = .ok (.getfield 19, 3) := by decide +kernel
theorem dX1_refuseHere_4 : decode cX1_refuseHere 4 = .ok (.aload_n 0, 1) := by decide +kernel
theorem dX1_refuseHere_5 : decode cX1_refuseHere 5 = .ok (.getfield 28, 3) := by decide +kernel
theorem dX1_refuseHere_8 : decode cX1_refuseHere 8 = .ok (.if_icmp .ge 15, 3) := by decide +kernel
theorem dX1_refuseHere_11 : decode cX1_refuseHere 11 = .ok (.aload_n 0, 1) := by decide +kernel
theorem dX1_refuseHere_12 : decode cX1_refuseHere 12 = .ok (.iconst 4, 1) := by decide +kernel
theorem dX1_refuseHere_13 : decode cX1_refuseHere 13 = .ok (.aload_n 0, 1) := by decide +kernel
theorem dX1_refuseHere_14 : decode cX1_refuseHere 14 = .ok (.getfield 19, 3) := by decide +kernel
theorem dX1_refuseHere_17 : decode cX1_refuseHere 17 = .ok (.invokevirtual 40, 3) := by decide +kernel
theorem dX1_refuseHere_20 : decode cX1_refuseHere 20 = .ok (.goto 12, 3) := by decide +kernel
theorem dX1_refuseHere_23 : decode cX1_refuseHere 23 = .ok (.aload_n 0, 1) := by decide +kernel
theorem dX1_refuseHere_24 : decode cX1_refuseHere 24 = .ok (.iconst 2, 1) := by decide +kernel
theorem dX1_refuseHere_25 : decode cX1_refuseHere 25 = .ok (.aload_n 0, 1) := by decide +kernel
theorem dX1_refuseHere_26 : decode cX1_refuseHere 26 = .ok (.getfield 28, 3) := by decide +kernel
theorem dX1_refuseHere_29 : decode cX1_refuseHere 29 = .ok (.invokevirtual 40, 3) := by decide +kernel
theorem dX1_refuseHere_32 : decode cX1_refuseHere 32 = .ok (.ireturn, 1) := by decide +kernel
theorem dX1_hasBytes_0 : decode cX1_hasBytes 0 = .ok (.iload_n 1, 1) := by decide +kernel
theorem dX1_hasBytes_1 : decode cX1_hasBytes 1 = .ok (.aload_n 0, 1) := by decide +kernel
theorem dX1_hasBytes_2 : decode cX1_hasBytes 2 = .ok (.getfield 28, 3) := by decide +kernel
theorem dX1_hasBytes_5 : decode cX1_hasBytes 5 = .ok (.aload_n 0, 1) := by decide +kernel
theorem dX1_hasBytes_6 : decode cX1_hasBytes 6 = .ok (.getfield 19, 3) := by decide +kernel
theorem dX1_hasBytes_9 : decode cX1_hasBytes 9 = .ok (.isub, 1) := by decide +kernel
theorem dX1_hasBytes_10 : decode cX1_hasBytes 10 = .ok (.if_icmp .le 15, 3) := by decide +kernel
theorem dX1_hasBytes_13 : decode cX1_hasBytes 13 = .ok (.aload_n 0, 1) := by decide +kernel
theorem dX1_hasBytes_14 : decode cX1_hasBytes 14 = .ok (.iconst 2, 1) := by decide +kernel
theorem dX1_hasBytes_15 : decode cX1_hasBytes 15 = .ok (.aload_n 0, 1) := by decide +kernel
theorem dX1_hasBytes_16 : decode cX1_hasBytes 16 = .ok (.getfield 28, 3) := by decide +kernel
theorem dX1_hasBytes_19 : decode cX1_hasBytes 19 = .ok (.invokevirtual 40, 3) := by decide +kernel
theorem dX1_hasBytes_22 : decode cX1_hasBytes 22 = .ok (.ifCond .eq 7, 3) := by decide +kernel
theorem dX1_hasBytes_25 : decode cX1_hasBytes 25 = .ok (.iconst 1, 1) := by decide +kernel
theorem dX1_hasBytes_26 : decode cX1_hasBytes 26 = .ok (.goto 4, 3) := by decide +kernel
theorem dX1_hasBytes_29 : decode cX1_hasBytes 29 = .ok (.iconst 0, 1) := by decide +kernel
theorem dX1_hasBytes_30 : decode cX1_hasBytes 30 = .ok (.ireturn, 1) := by decide +kernel
theorem dX1_expect_0 : decode cX1_expect 0 = .ok (.aload_n 0, 1) := by decide +kernel
theorem dX1_expect_1 : decode cX1_expect 1 = .ok (.getfield 9, 3) := by decide +kernel
theorem dX1_expect_4 : decode cX1_expect 4 = .ok (.aload_n 0, 1) := by decide +kernel
theorem dX1_expect_5 : decode cX1_expect 5 = .ok (.getfield 19, 3) := by decide +kernel
theorem dX1_expect_8 : decode cX1_expect 8 = .ok (.invokevirtual 34, 3) := by decide +kernel
theorem dX1_expect_11 : decode cX1_expect 11 = .ok (.iload_n 1, 1) := by decide +kernel
theorem dX1_expect_12 : decode cX1_expect 12 = .ok (.if_icmp .eq 8, 3) := by decide +kernel
theorem dX1_expect_15 : decode cX1_expect 15 = .ok (.aload_n 0, 1) := by decide +kernel
theorem dX1_expect_16 : decode cX1_expect 16 = .ok (.invokevirtual 44, 3) := by decide +kernel
theorem dX1_expect_19 : decode cX1_expect 19 = .ok (.ireturn, 1) := by decide +kernel
theorem dX1_expect_20 : decode cX1_expect 20 = .ok (.aload_n 0, 1) := by decide +kernel
theorem dX1_expect_21 : decode cX1_expect 21 = .ok (.dup, 1) := by decide +kernel
theorem dX1_expect_22 : decode cX1_expect 22 = .ok (.getfield 19, 3) := by decide +kernel
theorem dX1_expect_25 : decode cX1_expect 25 = .ok (.iconst 1, 1) := by decide +kernel
theorem dX1_expect_26 : decode cX1_expect 26 = .ok (.iadd, 1) := by decide +kernel
theorem dX1_expect_27 : decode cX1_expect 27 = .ok (.putfield 19, 3) := by decide +kernel
theorem dX1_expect_30 : decode cX1_expect 30 = .ok (.iconst 1, 1) := by decide +kernel
theorem dX1_expect_31 : decode cX1_expect 31 = .ok (.ireturn, 1) := by decide +kernel
theorem dX1_expectText_0 : decode cX1_expectText 0 = .ok (.iconst 0, 1) := by decide +kernel
theorem dX1_expectText_1 : decode cX1_expectText 1 = .ok (.istore_n 2, 1) := by decide +kernel
theorem dX1_expectText_2 : decode cX1_expectText 2 = .ok (.iload_n 2, 1) := by decide +kernel
theorem dX1_expectText_3 : decode cX1_expectText 3 = .ok (.aload_n 1, 1) := by decide +kernel
theorem dX1_expectText_4 : decode cX1_expectText 4 = .ok (.invokevirtual 48, 3) := by decide +kernel
theorem dX1_expectText_7 : decode cX1_expectText 7 = .ok (.if_icmp .ge 23, 3) := by decide +kernel
theorem dX1_expectText_10 : decode cX1_expectText 10 = .ok (.aload_n 0, 1) := by decide +kernel
theorem dX1_expectText_11 : decode cX1_expectText 11 = .ok (.aload_n 1, 1) := by decide +kernel
theorem dX1_expectText_12 : decode cX1_expectText 12 = .ok (.iload_n 2, 1) := by decide +kernel
theorem dX1_expectText_13 : decode cX1_expectText 13 = .ok (.invokevirtual 53, 3) := by decide +kernel
theorem dX1_expectText_16 : decode cX1_expectText 16 = .ok (.invokevirtual 57, 3) := by decide +kernel
theorem dX1_expectText_19 : decode cX1_expectText 19 = .ok (.ifCond .ne 5, 3) := by decide +kernel
theorem dX1_expectText_22 : decode cX1_expectText 22 = .ok (.iconst 0, 1) := by decide +kernel
theorem dX1_expectText_23 : decode cX1_expectText 23 = .ok (.ireturn, 1) := by decide +kernel
theorem dX1_expectText_24 : decode cX1_expectText 24 = .ok (.iinc 2 1, 3) := by decide +kernel
theorem dX1_expectText_27 : decode cX1_expectText 27 = .ok (.goto (-25), 3) := by decide +kernel
theorem dX1_expectText_30 : decode cX1_expectText 30 = .ok (.iconst 1, 1) := by decide +kernel
theorem dX1_expectText_31 : decode cX1_expectText 31 = .ok (.ireturn, 1) := by decide +kernel
theorem dX1_expectBlanksTo_0 : decode cX1_expectBlanksTo 0 = .ok (.iload_n 1, 1) := by decide +kernel
theorem dX1_expectBlanksTo_1 : decode cX1_expectBlanksTo 1 = .ok (.aload_n 0, 1) := by decide +kernel
theorem dX1_expectBlanksTo_2 : decode cX1_expectBlanksTo 2 = .ok (.getfield 19, 3) := by decide +kernel
theorem dX1_expectBlanksTo_5 : decode cX1_expectBlanksTo 5 = .ok (.isub, 1) := by decide +kernel
theorem dX1_expectBlanksTo_6 : decode cX1_expectBlanksTo 6 = .ok (.istore_n 2, 1) := by decide +kernel
theorem dX1_expectBlanksTo_7 : decode cX1_expectBlanksTo 7 = .ok (.iload_n 2, 1) := by decide +kernel
theorem dX1_expectBlanksTo_8 : decode cX1_expectBlanksTo 8 = .ok (.ifCond .le 20, 3) := by decide +kernel
theorem dX1_expectBlanksTo_11 : decode cX1_expectBlanksTo 11 = .ok (.aload_n 0, 1) := by decide +kernel
theorem dX1_expectBlanksTo_12 : decode cX1_expectBlanksTo 12 = .ok (.bipush 32, 2) := by decide +kernel
theorem dX1_expectBlanksTo_14 : decode cX1_expectBlanksTo 14 = .ok (.invokevirtual 57, 3) := by decide +kernel
theorem dX1_expectBlanksTo_17 : decode cX1_expectBlanksTo 17 = .ok (.ifCond .ne 5, 3) := by decide +kernel
theorem dX1_expectBlanksTo_20 : decode cX1_expectBlanksTo 20 = .ok (.iconst 0, 1) := by decide +kernel
theorem dX1_expectBlanksTo_21 : decode cX1_expectBlanksTo 21 = .ok (.ireturn, 1) := by decide +kernel
theorem dX1_expectBlanksTo_22 : decode cX1_expectBlanksTo 22 = .ok (.iinc 2 (-1), 3) := by decide +kernel
theorem dX1_expectBlanksTo_25 : decode cX1_expectBlanksTo 25 = .ok (.goto (-18), 3) := by decide +kernel
theorem dX1_expectBlanksTo_28 : decode cX1_expectBlanksTo 28 = .ok (.iconst 1, 1) := by decide +kernel
theorem dX1_expectBlanksTo_29 : decode cX1_expectBlanksTo 29 = .ok (.ireturn, 1) := by decide +kernel
theorem dX1_takeFigures_0 : decode cX1_takeFigures 0 = .ok (.aload_n 0, 1) := by decide +kernel
theorem dX1_takeFigures_1 : decode cX1_takeFigures 1 = .ok (.getfield 9, 3) := by decide +kernel
theorem dX1_takeFigures_4 : decode cX1_takeFigures 4 = .ok (.aload_n 0, 1) := by decide +kernel
theorem dX1_takeFigures_5 : decode cX1_takeFigures 5 = .ok (.getfield 19, 3) := by decide +kernel
theorem dX1_takeFigures_8 : decode cX1_takeFigures 8 = .ok (.invokevirtual 34, 3) := by decide +kernel
theorem dX1_takeFigures_11 : decode cX1_takeFigures 11 = .ok (.invokestatic 61, 3) := by decide +kernel
theorem dX1_takeFigures_14 : decode cX1_takeFigures 14 = .ok (.ifCond .ne 10, 3) := by decide +kernel
theorem dX1_takeFigures_17 : decode cX1_takeFigures 17 = .ok (.aload_n 0, 1) := by decide +kernel
theorem dX1_takeFigures_18 : decode cX1_takeFigures 18 = .ok (.invokevirtual 44, 3) := by decide +kernel
theorem dX1_takeFigures_21 : decode cX1_takeFigures 21 = .ok (.pop, 1) := by decide +kernel
theorem dX1_takeFigures_22 : decode cX1_takeFigures 22 = .ok (.iconst (-1), 1) := by decide +kernel
theorem dX1_takeFigures_23 : decode cX1_takeFigures 23 = .ok (.ireturn, 1) := by decide +kernel
theorem dX1_takeFigures_24 : decode cX1_takeFigures 24 = .ok (.iconst 0, 1) := by decide +kernel
theorem dX1_takeFigures_25 : decode cX1_takeFigures 25 = .ok (.istore_n 2, 1) := by decide +kernel
theorem dX1_takeFigures_26 : decode cX1_takeFigures 26 = .ok (.iload_n 1, 1) := by decide +kernel
theorem dX1_takeFigures_27 : decode cX1_takeFigures 27 = .ok (.aload_n 0, 1) := by decide +kernel
theorem dX1_takeFigures_28 : decode cX1_takeFigures 28 = .ok (.getfield 19, 3) := by decide +kernel
theorem dX1_takeFigures_31 : decode cX1_takeFigures 31 = .ok (.isub, 1) := by decide +kernel
theorem dX1_takeFigures_32 : decode cX1_takeFigures 32 = .ok (.istore_n 3, 1) := by decide +kernel
theorem dX1_takeFigures_33 : decode cX1_takeFigures 33 = .ok (.iload_n 3, 1) := by decide +kernel
theorem dX1_takeFigures_34 : decode cX1_takeFigures 34 = .ok (.ifCond .le 56, 3) := by decide +kernel
theorem dX1_takeFigures_37 : decode cX1_takeFigures 37 = .ok (.aload_n 0, 1) := by decide +kernel
theorem dX1_takeFigures_38 : decode cX1_takeFigures 38 = .ok (.getfield 9, 3) := by decide +kernel
theorem dX1_takeFigures_41 : decode cX1_takeFigures 41 = .ok (.aload_n 0, 1) := by decide +kernel
theorem dX1_takeFigures_42 : decode cX1_takeFigures 42 = .ok (.getfield 19, 3) := by decide +kernel
theorem dX1_takeFigures_45 : decode cX1_takeFigures 45 = .ok (.invokevirtual 34, 3) := by decide +kernel
theorem dX1_takeFigures_48 : decode cX1_takeFigures 48 = .ok (.invokestatic 61, 3) := by decide +kernel
theorem dX1_takeFigures_51 : decode cX1_takeFigures 51 = .ok (.ifCond .eq 39, 3) := by decide +kernel
theorem dX1_takeFigures_54 : decode cX1_takeFigures 54 = .ok (.iload_n 2, 1) := by decide +kernel
theorem dX1_takeFigures_55 : decode cX1_takeFigures 55 = .ok (.bipush 10, 2) := by decide +kernel
theorem dX1_takeFigures_57 : decode cX1_takeFigures 57 = .ok (.imul, 1) := by decide +kernel
theorem dX1_takeFigures_58 : decode cX1_takeFigures 58 = .ok (.aload_n 0, 1) := by decide +kernel
theorem dX1_takeFigures_59 : decode cX1_takeFigures 59 = .ok (.getfield 9, 3) := by decide +kernel
theorem dX1_takeFigures_62 : decode cX1_takeFigures 62 = .ok (.aload_n 0, 1) := by decide +kernel
theorem dX1_takeFigures_63 : decode cX1_takeFigures 63 = .ok (.getfield 19, 3) := by decide +kernel
theorem dX1_takeFigures_66 : decode cX1_takeFigures 66 = .ok (.invokevirtual 34, 3) := by decide +kernel
theorem dX1_takeFigures_69 : decode cX1_takeFigures 69 = .ok (.iadd, 1) := by decide +kernel
theorem dX1_takeFigures_70 : decode cX1_takeFigures 70 = .ok (.bipush 48, 2) := by decide +kernel
theorem dX1_takeFigures_72 : decode cX1_takeFigures 72 = .ok (.isub, 1) := by decide +kernel
theorem dX1_takeFigures_73 : decode cX1_takeFigures 73 = .ok (.istore_n 2, 1) := by decide +kernel
theorem dX1_takeFigures_74 : decode cX1_takeFigures 74 = .ok (.aload_n 0, 1) := by decide +kernel
theorem dX1_takeFigures_75 : decode cX1_takeFigures 75 = .ok (.dup, 1) := by decide +kernel
theorem dX1_takeFigures_76 : decode cX1_takeFigures 76 = .ok (.getfield 19, 3) := by decide +kernel
theorem dX1_takeFigures_79 : decode cX1_takeFigures 79 = .ok (.iconst 1, 1) := by decide +kernel
theorem dX1_takeFigures_80 : decode cX1_takeFigures 80 = .ok (.iadd, 1) := by decide +kernel
theorem dX1_takeFigures_81 : decode cX1_takeFigures 81 = .ok (.putfield 19, 3) := by decide +kernel
theorem dX1_takeFigures_84 : decode cX1_takeFigures 84 = .ok (.iinc 3 (-1), 3) := by decide +kernel
theorem dX1_takeFigures_87 : decode cX1_takeFigures 87 = .ok (.goto (-54), 3) := by decide +kernel
theorem dX1_takeFigures_90 : decode cX1_takeFigures 90 = .ok (.iload_n 2, 1) := by decide +kernel
theorem dX1_takeFigures_91 : decode cX1_takeFigures 91 = .ok (.ireturn, 1) := by decide +kernel
theorem dX1_skip_0 : decode cX1_skip 0 = .ok (.aload_n 0, 1) := by decide +kernel
theorem dX1_skip_1 : decode cX1_skip 1 = .ok (.iload_n 1, 1) := by decide +kernel
theorem dX1_skip_2 : decode cX1_skip 2 = .ok (.invokevirtual 64, 3) := by decide +kernel
theorem dX1_skip_5 : decode cX1_skip 5 = .ok (.ifCond .ne 5, 3) := by decide +kernel
theorem dX1_skip_8 : decode cX1_skip 8 = .ok (.iconst 0, 1) := by decide +kernel
theorem dX1_skip_9 : decode cX1_skip 9 = .ok (.ireturn, 1) := by decide +kernel
theorem dX1_skip_10 : decode cX1_skip 10 = .ok (.aload_n 0, 1) := by decide +kernel
theorem dX1_skip_11 : decode cX1_skip 11 = .ok (.dup, 1) := by decide +kernel
theorem dX1_skip_12 : decode cX1_skip 12 = .ok (.getfield 19, 3) := by decide +kernel
theorem dX1_skip_15 : decode cX1_skip 15 = .ok (.iload_n 1, 1) := by decide +kernel
theorem dX1_skip_16 : decode cX1_skip 16 = .ok (.iadd, 1) := by decide +kernel
theorem dX1_skip_17 : decode cX1_skip 17 = .ok (.putfield 19, 3) := by decide +kernel
theorem dX1_skip_20 : decode cX1_skip 20 = .ok (.iconst 1, 1) := by decide +kernel
theorem dX1_skip_21 : decode cX1_skip 21 = .ok (.ireturn, 1) := by decide +kernel
theorem dX1_takeContents_0 : decode cX1_takeContents 0 = .ok (.aload_n 0, 1) := by decide +kernel
theorem dX1_takeContents_1 : decode cX1_takeContents 1 = .ok (.iload_n 2, 1) := by decide +kernel
theorem dX1_takeContents_2 : decode cX1_takeContents 2 = .ok (.invokevirtual 64, 3) := by decide +kernel
theorem dX1_takeContents_5 : decode cX1_takeContents 5 = .ok (.ifCond .ne 5, 3) := by decide +kernel
theorem dX1_takeContents_8 : decode cX1_takeContents 8 = .ok (.iconst 0, 1) := by decide +kernel
theorem dX1_takeContents_9 : decode cX1_takeContents 9 = .ok (.ireturn, 1) := by decide +kernel
theorem dX1_takeContents_10 : decode cX1_takeContents 10 = .ok (.iconst 0, 1) := by decide +kernel
theorem dX1_takeContents_11 : decode cX1_takeContents 11 = .ok (.istore_n 3, 1) := by decide +kernel
theorem dX1_takeContents_12 : decode cX1_takeContents 12 = .ok (.iload_n 3, 1) := by decide +kernel
theorem dX1_takeContents_13 : decode cX1_takeContents 13 = .ok (.iload_n 2, 1) := by decide +kernel
theorem dX1_takeContents_14 : decode cX1_takeContents 14 = .ok (.if_icmp .ge 17, 3) := by decide +kernel
theorem dX1_takeContents_17 : decode cX1_takeContents 17 = .ok (.aload_n 1, 1) := by decide +kernel
theorem dX1_takeContents_18 : decode cX1_takeContents 18 = .ok (.aload_n 0, 1) := by decide +kernel
theorem dX1_takeContents_19 : decode cX1_takeContents 19 = .ok (.invokevirtual 37, 3) := by decide +kernel
theorem dX1_takeContents_22 : decode cX1_takeContents 22 = .ok (.invokevirtual 67, 3) := by decide +kernel
theorem dX1_takeContents_25 : decode cX1_takeContents 25 = .ok (.iinc 3 1, 3) := by decide +kernel
theorem dX1_takeContents_28 : decode cX1_takeContents 28 = .ok (.goto (-16), 3) := by decide +kernel
theorem dX1_takeContents_31 : decode cX1_takeContents 31 = .ok (.iconst 1, 1) := by decide +kernel
theorem dX1_takeContents_32 : decode cX1_takeContents 32 = .ok (.ireturn, 1) := by decide +kernel
