theorem dX0_init_0 : decode cX0_init 0 = .ok (.aload_n 0, 1) := by decide +kernel
theorem dX0_init_1 : decode cX0_init 1 = .ok (.invokespecial 3, 3) := by decide +kernel
theorem dX0_init_4 : decode cX0_init 4 = .ok (.aload_n 0, 1) := by decide +kernel
theorem dX0_init_5 : decode cX0_init 5 = .ok (.iconst 0, 1) := by decide +kernel
theorem dX0_init_6 : decode cX0_init 6 = .ok (.iload_n 1, 1) := by decide +kernel
theorem dX0_init_7 : decode cX0_init 7 = .ok (.invokestatic 9, 3) := by decide +kernel
theorem dX0_init_10 : decode cX0_init 10 = .ok (.newarray .int, 2) := by decide +kernel
theorem dX0_init_12 : decode cX0_init 12 = .ok (.putfield 15, 3) := by decide +kernel
theorem dX0_init_15 : decode cX0_init 15 = .ok (.return_, 1) := by decide +kernel
theorem dX0_size_0 : decode cX0_size 0 = .ok (.aload_n 0, 1) := by decide +kernel
theorem dX0_size_1 : decode cX0_size 1 = .ok (.getfield 21, 3) := by decide +kernel
theorem dX0_size_4 : decode cX0_size 4 = .ok (.ireturn, 1) := by decide +kernel
theorem dX0_has_0 : decode cX0_has 0 = .ok (.iload_n 1, 1) := by decide +kernel
theorem dX0_has_1 : decode cX0_has 1 = .ok (.ifCond .lt 15, 3) := by decide +kernel
theorem dX0_has_4 : decode cX0_has 4 = .ok (.iload_n 1, 1) := by decide +kernel
theorem dX0_has_5 : decode cX0_has 5 = .ok (.aload_n 0, 1) := by decide +kernel
theorem dX0_has_6 : decode cX0_has 6 = .ok (.getfield 21, 3) := by decide +kernel
theorem dX0_has_9 : decode cX0_has 9 = .ok (.if_icmp .ge 7, 3) := by decide +kernel
theorem dX0_has_12 : decode cX0_has 12 = .ok (.iconst 1, 1) := by decide +kernel
theorem dX0_has_13 : decode cX0_has 13 = .ok (.goto 4, 3) := by decide +kernel
theorem dX0_has_16 : decode cX0_has 16 = .ok (.iconst 0, 1) := by decide +kernel
theorem dX0_has_17 : decode cX0_has 17 = .ok (.ireturn, 1) := by decide +kernel
theorem dX0_isFull_0 : decode cX0_isFull 0 = .ok (.aload_n 0, 1) := by decide +kernel
theorem dX0_isFull_1 : decode cX0_isFull 1 = .ok (.getfield 21, 3) := by decide +kernel
theorem dX0_isFull_4 : decode cX0_isFull 4 = .ok (.aload_n 0, 1) := by decide +kernel
theorem dX0_isFull_5 : decode cX0_isFull 5 = .ok (.getfield 15, 3) := by decide +kernel
theorem dX0_isFull_8 : decode cX0_isFull 8 = .ok (.arraylength, 1) := by decide +kernel
theorem dX0_isFull_9 : decode cX0_isFull 9 = .ok (.if_icmp .lt 7, 3) := by decide +kernel
theorem dX0_isFull_12 : decode cX0_isFull 12 = .ok (.iconst 1, 1) := by decide +kernel
theorem dX0_isFull_13 : decode cX0_isFull 13 = .ok (.goto 4, 3) := by decide +kernel
theorem dX0_isFull_16 : decode cX0_isFull 16 = .ok (.iconst 0, 1) := by decide +kernel
theorem dX0_isFull_17 : decode cX0_isFull 17 = .ok (.ireturn, 1) := by decide +kernel
theorem dX0_hasOverflowed_0 : decode cX0_hasOverflowed 0 = .ok (.aload_n 0, 1) := by decide +kernel
theorem dX0_hasOverflowed_1 : decode cX0_hasOverflowed 1 = .ok (.getfield 25, 3) := by decide +kernel
theorem dX0_hasOverflowed_4 : decode cX0_hasOverflowed 4 = .ok (.ireturn, 1) := by decide +kernel
theorem dX0_at_0 : decode cX0_at 0 = .ok (.iload_n 1, 1) := by decide +kernel
theorem dX0_at_1 : decode cX0_at 1 = .ok (.ifCond .lt 20, 3) := by decide +kernel
theorem dX0_at_4 : decode cX0_at 4 = .ok (.iload_n 1, 1) := by decide +kernel
theorem dX0_at_5 : decode cX0_at 5 = .ok (.aload_n 0, 1) := by decide +kernel
theorem dX0_at_6 : decode cX0_at 6 = .ok (.getfield 21, 3) := by decide +kernel
theorem dX0_at_9 : decode cX0_at 9 = .ok (.if_icmp .ge 12, 3) := by decide +kernel
theorem dX0_at_12 : decode cX0_at 12 = .ok (.aload_n 0, 1) := by decide +kernel
theorem dX0_at_13 : decode cX0_at 13 = .ok (.getfield 15, 3) := by decide +kernel
theorem dX0_at_16 : decode cX0_at 16 = .ok (.iload_n 1, 1) := by decide +kernel
theorem dX0_at_17 : decode cX0_at 17 = .ok (.iaload, 1) := by decide +kernel
theorem dX0_at_18 : decode cX0_at 18 = .ok (.goto 4, 3) := by decide +kernel
theorem dX0_at_21 : decode cX0_at 21 = .ok (.iconst (-1), 1) := by decide +kernel
theorem dX0_at_22 : decode cX0_at 22 = .ok (.ireturn, 1) := by decide +kernel
theorem dX0_add_0 : decode cX0_add 0 = .ok (.aload_n 0, 1) := by decide +kernel
theorem dX0_add_1 : decode cX0_add 1 = .ok (.getfield 21, 3) := by decide +kernel
theorem dX0_add_4 : decode cX0_add 4 = .ok (.aload_n 0, 1) := by decide +kernel
theorem dX0_add_5 : decode cX0_add 5 = .ok (.getfield 15, 3) := by decide +kernel
theorem dX0_add_8 : decode cX0_add 8 = .ok (.arraylength, 1) := by decide +kernel
theorem dX0_add_9 : decode cX0_add 9 = .ok (.if_icmp .lt 9, 3) := by decide +kernel
theorem dX0_add_12 : decode cX0_add 12 = .ok (.aload_n 0, 1) := by decide +kernel
theorem dX0_add_13 : decode cX0_add 13 = .ok (.iconst 1, 1) := by decide +kernel
theorem dX0_add_14 : decode cX0_add 14 = .ok (.putfield 25, 3) := by decide +kernel
theorem dX0_add_17 : decode cX0_add 17 = .ok (.return_, 1) := by decide +kernel
theorem dX0_add_18 : decode cX0_add 18 = .ok (.aload_n 0, 1) := by decide +kernel
theorem dX0_add_19 : decode cX0_add 19 = .ok (.getfield 15, 3) := by decide +kernel
theorem dX0_add_22 : decode cX0_add 22 = .ok (.aload_n 0, 1) := by decide +kernel
theorem dX0_add_23 : decode cX0_add 23 = .ok (.getfield 21, 3) := by decide +kernel
theorem dX0_add_26 : decode cX0_add 26 = .ok (.iload_n 1, 1) := by decide +kernel
theorem dX0_add_27 : decode cX0_add 27 = .ok (.iastore, 1) := by decide +kernel
theorem dX0_add_28 : decode cX0_add 28 = .ok (.aload_n 0, 1) := by decide +kernel
theorem dX0_add_29 : decode cX0_add 29 = .ok (.dup, 1) := by decide +kernel
theorem dX0_add_30 : decode cX0_add 30 = .ok (.getfield 21, 3) := by decide +kernel
theorem dX0_add_33 : decode cX0_add 33 = .ok (.iconst 1, 1) := by decide +kernel
theorem dX0_add_34 : decode cX0_add 34 = .ok (.iadd, 1) := by decide +kernel
theorem dX0_add_35 : decode cX0_add 35 = .ok (.putfield 21, 3) := by decide +kernel
theorem dX0_add_38 : decode cX0_add 38 = .ok (.return_, 1) := by decide +kernel
theorem dX0_addTwo_0 : decode cX0_addTwo 0 = .ok (.aload_n 0, 1) := by decide +kernel
theorem dX0_addTwo_1 : decode cX0_addTwo 1 = .ok (.iload_n 1, 1) := by decide +kernel
theorem dX0_addTwo_2 : decode cX0_addTwo 2 = .ok (.bipush 8, 2) := by decide +kernel
theorem dX0_addTwo_4 : decode cX0_addTwo 4 = .ok (.ishr, 1) := by decide +kernel
theorem dX0_addTwo_5 : decode cX0_addTwo 5 = .ok (.sipush 255, 3) := by decide +kernel
theorem dX0_addTwo_8 : decode cX0_addTwo 8 = .ok (.iand, 1) := by decide +kernel
theorem dX0_addTwo_9 : decode cX0_addTwo 9 = .ok (.invokevirtual 29, 3) := by decide +kernel
theorem dX0_addTwo_12 : decode cX0_addTwo 12 = .ok (.aload_n 0, 1) := by decide +kernel
theorem dX0_addTwo_13 : decode cX0_addTwo 13 = .ok (.iload_n 1, 1) := by decide +kernel
theorem dX0_addTwo_14 : decode cX0_addTwo 14 = .ok (.sipush 255, 3) := by decide +kernel
theorem dX0_addTwo_17 : decode cX0_addTwo 17 = .ok (.iand, 1) := by decide +kernel
theorem dX0_addTwo_18 : decode cX0_addTwo 18 = .ok (.invokevirtual 29, 3) := by decide +kernel
theorem dX0_addTwo_21 : decode cX0_addTwo 21 = .ok (.return_, 1) := by decide +kernel
theorem dX0_addText_0 : decode cX0_addText 0 = .ok (.iconst 0, 1) := by decide +kernel
theorem dX0_addText_1 : decode cX0_addText 1 = .ok (.istore_n 2, 1) := by decide +kernel
theorem dX0_addText_2 : decode cX0_addText 2 = .ok (.iload_n 2, 1) := by decide +kernel
theorem dX0_addText_3 : decode cX0_addText 3 = .ok (.aload_n 1, 1) := by decide +kernel
theorem dX0_addText_4 : decode cX0_addText 4 = .ok (.invokevirtual 33, 3) := by decide +kernel
theorem dX0_addText_7 : decode cX0_addText 7 = .ok (.if_icmp .ge 18, 3) := by decide +kernel
theorem dX0_addText_10 : decode cX0_addText 10 = .ok (.aload_n 0, 1) := by decide +kernel
theorem dX0_addText_11 : decode cX0_addText 11 = .ok (.aload_n 1, 1) := by decide +kernel
theorem dX0_addText_12 : decode cX0_addText 12 = .ok (.iload_n 2, 1) := by decide +kernel
theorem dX0_addText_13 : decode cX0_addText 13 = .ok (.invokevirtual 38, 3) := by decide +kernel
theorem dX0_addText_16 : decode cX0_addText 16 = .ok (.invokevirtual 29, 3) := by decide +kernel
theorem dX0_addText_19 : decode cX0_addText 19 = .ok (.iinc 2 1, 3) := by decide +kernel
theorem dX0_addText_22 : decode cX0_addText 22 = .ok (.goto (-20), 3) := by decide +kernel
theorem dX0_addText_25 : decode cX0_addText 25 = .ok (.return_, 1) := by decide +kernel
theorem dX0_addFigures_0 : decode cX0_addFigures 0 = .ok (.sipush 1000, 3) := by decide +kernel
theorem dX0_addFigures_3 : decode cX0_addFigures 3 = .ok (.istore_n 2, 1) := by decide +kernel
theorem dX0_addFigures_4 : decode cX0_addFigures 4 = .ok (.iload_n 2, 1) := by decide +kernel
theorem dX0_addFigures_5 : decode cX0_addFigures 5 = .ok (.ifCond .le 34, 3) := by decide +kernel
theorem dX0_addFigures_8 : decode cX0_addFigures 8 = .ok (.iload_n 1, 1) := by decide +kernel
theorem dX0_addFigures_9 : decode cX0_addFigures 9 = .ok (.iload_n 2, 1) := by decide +kernel
theorem dX0_addFigures_10 : decode cX0_addFigures 10 = .ok (.if_icmp .ge 8, 3) := by decide +kernel
theorem dX0_addFigures_13 : decode cX0_addFigures 13 = .ok (.iload_n 2, 1) := by decide +kernel
theorem dX0_addFigures_14 : decode cX0_addFigures 14 = .ok (.iconst 1, 1) := by decide +kernel
theorem dX0_addFigures_15 : decode cX0_addFigures 15 = .ok (.if_icmp .ne 16, 3) := by decide +kernel
theorem dX0_addFigures_18 : decode cX0_addFigures 18 = .ok (.aload_n 0, 1) := by decide +kernel
theorem dX0_addFigures_19 : decode cX0_addFigures 19 = .ok (.bipush 48, 2) := by decide +kernel
theorem dX0_addFigures_21 : decode cX0_addFigures 21 = .ok (.iload_n 1, 1) := by decide +kernel
theorem dX0_addFigures_22 : decode cX0_addFigures 22 = .ok (.iload_n 2, 1) := by decide +kernel
theorem dX0_addFigures_23 : decode cX0_addFigures 23 = .ok (.idiv, 1) := by decide +kernel
theorem dX0_addFigures_24 : decode cX0_addFigures 24 = .ok (.bipush 10, 2) := by decide +kernel
theorem dX0_addFigures_26 : decode cX0_addFigures 26 = .ok (.irem, 1) := by decide +kernel
theorem dX0_addFigures_27 : decode cX0_addFigures 27 = .ok (.iadd, 1) := by decide +kernel
theorem dX0_addFigures_28 : decode cX0_addFigures 28 = .ok (.invokevirtual 29, 3) := by decide +kernel
theorem dX0_addFigures_31 : decode cX0_addFigures 31 = .ok (.iload_n 2, 1) := by decide +kernel
theorem dX0_addFigures_32 : decode cX0_addFigures 32 = .ok (.bipush 10, 2) := by decide +kernel
theorem dX0_addFigures_34 : decode cX0_addFigures 34 = .ok (.idiv, 1) := by decide +kernel
theorem dX0_addFigures_35 : decode cX0_addFigures 35 = .ok (.istore_n 2, 1) := by decide +kernel
theorem dX0_addFigures_36 : decode cX0_addFigures 36 = .ok (.goto (-32), 3) := by decide +kernel
theorem dX0_addFigures_39 : decode cX0_addFigures 39 = .ok (.return_, 1) := by decide +kernel
theorem dX0_addBlanksTo_0 : decode cX0_addBlanksTo 0 = .ok (.iload_n 1, 1) := by decide +kernel
theorem dX0_addBlanksTo_1 : decode cX0_addBlanksTo 1 = .ok (.aload_n 0, 1) := by decide +kernel
theorem dX0_addBlanksTo_2 : decode cX0_addBlanksTo 2 = .ok (.getfield 21, 3) := by decide +kernel
theorem dX0_addBlanksTo_5 : decode cX0_addBlanksTo 5 = .ok (.isub, 1) := by decide +kernel
theorem dX0_addBlanksTo_6 : decode cX0_addBlanksTo 6 = .ok (.istore_n 2, 1) := by decide +kernel
theorem dX0_addBlanksTo_7 : decode cX0_addBlanksTo 7 = .ok (.iload_n 2, 1) := by decide +kernel
theorem dX0_addBlanksTo_8 : decode cX0_addBlanksTo 8 = .ok (.ifCond .le 15, 3) := by decide +kernel
theorem dX0_addBlanksTo_11 : decode cX0_addBlanksTo 11 = .ok (.aload_n 0, 1) := by decide +kernel
theorem dX0_addBlanksTo_12 : decode cX0_addBlanksTo 12 = .ok (.bipush 32, 2) := by decide +kernel
theorem dX0_addBlanksTo_14 : decode cX0_addBlanksTo 14 = .ok (.invokevirtual 29, 3) := by decide +kernel
theorem dX0_addBlanksTo_17 : decode cX0_addBlanksTo 17 = .ok (.iinc 2 (-1), 3) := by decide +kernel
theorem dX0_addBlanksTo_20 : decode cX0_addBlanksTo 20 = .ok (.goto (-13), 3) := by decide +kernel
theorem dX0_addBlanksTo_23 : decode cX0_addBlanksTo 23 = .ok (.return_, 1) := by decide +kernel
theorem dX0_addName_0 : decode cX0_addName 0 = .ok (.iconst 0, 1) := by decide +kernel
theorem dX0_addName_1 : decode cX0_addName 1 = .ok (.istore_n 3, 1) := by decide +kernel
theorem dX0_addName_2 : decode cX0_addName 2 = .ok (.iload_n 3, 1) := by decide +kernel
theorem dX0_addName_3 : decode cX0_addName 3 = .ok (.aload_n 1, 1) := by decide +kernel
theorem dX0_addName_4 : decode cX0_addName 4 = .ok (.iload_n 2, 1) := by decide +kernel
theorem dX0_addName_5 : decode cX0_addName 5 = .ok (.invokevirtual 42, 3) := by decide +kernel
theorem dX0_addName_8 : decode cX0_addName 8 = .ok (.if_icmp .ge 19, 3) := by decide +kernel
theorem dX0_addName_11 : decode cX0_addName 11 = .ok (.aload_n 0, 1) := by decide +kernel
theorem dX0_addName_12 : decode cX0_addName 12 = .ok (.aload_n 1, 1) := by decide +kernel
theorem dX0_addName_13 : decode cX0_addName 13 = .ok (.iload_n 2, 1) := by decide +kernel
theorem dX0_addName_14 : decode cX0_addName 14 = .ok (.iload_n 3, 1) := by decide +kernel
theorem dX0_addName_15 : decode cX0_addName 15 = .ok (.invokevirtual 48, 3) := by decide +kernel
theorem dX0_addName_18 : decode cX0_addName 18 = .ok (.invokevirtual 29, 3) := by decide +kernel
theorem dX0_addName_21 : decode cX0_addName 21 = .ok (.iinc 3 1, 3) := by decide +kernel
theorem dX0_addName_24 : decode cX0_addName 24 = .ok (.goto (-22), 3) := by decide +kernel
theorem dX0_addName_27 : decode cX0_addName 27 = .ok (.return_, 1) := by decide +kernel
theorem dX0_addContents_0 : decode cX0_addContents 0 = .ok (.iconst 0, 1) := by decide +kernel
theorem dX0_addContents_1 : decode cX0_addContents 1 = .ok (.istore_n 3, 1) := by decide +kernel
theorem dX0_addContents_2 : decode cX0_addContents 2 = .ok (.iload_n 3, 1) := by decide +kernel
theorem dX0_addContents_3 : decode cX0_addContents 3 = .ok (.aload_n 1, 1) := by decide +kernel
theorem dX0_addContents_4 : decode cX0_addContents 4 = .ok (.iload_n 2, 1) := by decide +kernel
theorem dX0_addContents_5 : decode cX0_addContents 5 = .ok (.invokevirtual 51, 3) := by decide +kernel
theorem dX0_addContents_8 : decode cX0_addContents 8 = .ok (.if_icmp .ge 19, 3) := by decide +kernel
theorem dX0_addContents_11 : decode cX0_addContents 11 = .ok (.aload_n 0, 1) := by decide +kernel
theorem dX0_addContents_12 : decode cX0_addContents 12 = .ok (.aload_n 1, 1) := by decide +kernel
theorem dX0_addContents_13 : decode cX0_addContents 13 = .ok (.iload_n 2, 1) := by decide +kernel
theorem dX0_addContents_14 : decode cX0_addContents 14 = .ok (.iload_n 3, 1) := by decide +kernel
theorem dX0_addContents_15 : decode cX0_addContents 15 = .ok (.invokevirtual 54, 3) := by decide +kernel
theorem dX0_addContents_18 : decode cX0_addContents 18 = .ok (.invokevirtual 29, 3) := by decide +kernel
theorem dX0_addContents_21 : decode cX0_addContents 21 = .ok (.iinc 3 1, 3) := by decide +kernel
theorem dX0_addContents_24 : decode cX0_addContents 24 = .ok (.goto (-22), 3) := by decide +kernel
theorem dX0_addContents_27 : decode cX0_addContents 27 = .ok (.return_, 1) := by decide +kernel
theorem dX0_change_0 : decode cX0_change 0 = .ok (.iload_n 1, 1) := by decide +kernel
theorem dX0_change_1 : decode cX0_change 1 = .ok (.ifCond .lt 18, 3) := by decide +kernel
theorem dX0_change_4 : decode cX0_change 4 = .ok (.iload_n 1, 1) := by decide +kernel
theorem dX0_change_5 : decode cX0_change 5 = .ok (.aload_n 0, 1) := by decide +kernel
theorem dX0_change_6 : decode cX0_change 6 = .ok (.getfield 21, 3) := by decide +kernel
theorem dX0_change_9 : decode cX0_change 9 = .ok (.if_icmp .ge 10, 3) := by decide +kernel
theorem dX0_change_12 : decode cX0_change 12 = .ok (.aload_n 0, 1) := by decide +kernel
theorem dX0_change_13 : decode cX0_change 13 = .ok (.getfield 15, 3) := by decide +kernel
theorem dX0_change_16 : decode cX0_change 16 = .ok (.iload_n 1, 1) := by decide +kernel
theorem dX0_change_17 : decode cX0_change 17 = .ok (.iload_n 2, 1) := by decide +kernel
theorem dX0_change_18 : decode cX0_change 18 = .ok (.iastore, 1) := by decide +kernel
theorem dX0_change_19 : decode cX0_change 19 = .ok (.return_, 1) := by decide +kernel
theorem dX0_shorten_0 : decode cX0_shorten 0 = .ok (.iload_n 1, 1) := by decide +kernel
theorem dX0_shorten_1 : decode cX0_shorten 1 = .ok (.ifCond .lt 16, 3) := by decide +kernel
theorem dX0_shorten_4 : decode cX0_shorten 4 = .ok (.iload_n 1, 1) := by decide +kernel
theorem dX0_shorten_5 : decode cX0_shorten 5 = .ok (.aload_n 0, 1) := by decide +kernel
theorem dX0_shorten_6 : decode cX0_shorten 6 = .ok (.getfield 21, 3) := by decide +kernel
theorem dX0_shorten_9 : decode cX0_shorten 9 = .ok (.if_icmp .ge 8, 3) := by decide +kernel
theorem dX0_shorten_12 : decode cX0_shorten 12 = .ok (.aload_n 0, 1) := by decide +kernel
theorem dX0_shorten_13 : decode cX0_shorten 13 = .ok (.iload_n 1, 1) := by decide +kernel
theorem dX0_shorten_14 : decode cX0_shorten 14 = .ok (.putfield 21, 3) := by decide +kernel
theorem dX0_shorten_17 : decode cX0_shorten 17 = .ok (.return_, 1) := by decide +kernel
theorem dX0_restart_0 : decode cX0_restart 0 = .ok (.aload_n 0, 1) := by decide +kernel
theorem dX0_restart_1 : decode cX0_restart 1 = .ok (.iconst 0, 1) := by decide +kernel
theorem dX0_restart_2 : decode cX0_restart 2 = .ok (.putfield 21, 3) := by decide +kernel
theorem dX0_restart_5 : decode cX0_restart 5 = .ok (.aload_n 0, 1) := by decide +kernel
theorem dX0_restart_6 : decode cX0_restart 6 = .ok (.iconst 0, 1) := by decide +kernel
theorem dX0_restart_7 : decode cX0_restart 7 = .ok (.putfield 25, 3) := by decide +kernel
theorem dX0_restart_10 : decode cX0_restart 10 = .ok (.return_, 1) := by decide +kernel
theorem dX0_become_0 : decode cX0_become 0 = .ok (.aload_n 0, 1) := by decide +kernel
theorem dX0_become_1 : decode cX0_become 1 = .ok (.invokevirtual 57, 3) := by decide +kernel
theorem dX0_become_4 : decode cX0_become 4 = .ok (.iconst 0, 1) := by decide +kernel
theorem dX0_become_5 : decode cX0_become 5 = .ok (.istore_n 2, 1) := by decide +kernel
theorem dX0_become_6 : decode cX0_become 6 = .ok (.iload_n 2, 1) := by decide +kernel
theorem dX0_become_7 : decode cX0_become 7 = .ok (.aload_n 1, 1) := by decide +kernel
theorem dX0_become_8 : decode cX0_become 8 = .ok (.invokevirtual 60, 3) := by decide +kernel
theorem dX0_become_11 : decode cX0_become 11 = .ok (.if_icmp .ge 18, 3) := by decide +kernel
theorem dX0_become_14 : decode cX0_become 14 = .ok (.aload_n 0, 1) := by decide +kernel
theorem dX0_become_15 : decode cX0_become 15 = .ok (.aload_n 1, 1) := by decide +kernel
theorem dX0_become_16 : decode cX0_become 16 = .ok (.iload_n 2, 1) := by decide +kernel
theorem dX0_become_17 : decode cX0_become 17 = .ok (.invokevirtual 63, 3) := by decide +kernel
theorem dX0_become_20 : decode cX0_become 20 = .ok (.invokevirtual 29, 3) := by decide +kernel
theorem dX0_become_23 : decode cX0_become 23 = .ok (.iinc 2 1, 3) := by decide +kernel
theorem dX0_become_26 : decode cX0_become 26 = .ok (.goto (-20), 3) := by decide +kernel
theorem dX0_become_29 : decode cX0_become 29 = .ok (.return_, 1) := by decide +kernel
