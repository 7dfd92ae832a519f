theorem dX9_init_0 : decode cX9_init 0 = .ok (.aload_n 0, 1) := by decide +kernel
theorem dX9_init_1 : decode cX9_init 1 = .ok (.invokespecial 3, 3) := by decide +kernel
theorem dX9_init_4 : decode cX9_init 4 = .ok (.aload_n 0, 1) := by decide +kernel
theorem dX9_init_5 : decode cX9_init 5 = .ok (.iconst 0, 1) := by decide +kernel
theorem dX9_init_6 : decode cX9_init 6 = .ok (.iload_n 1, 1) := by decide +kernel
theorem dX9_init_7 : decode cX9_init 7 = .ok (.invokestatic 9, 3) := by decide +kernel
theorem dX9_init_10 : decode cX9_init 10 = .ok (.newarray .int, 2) := by decide +kernel
theorem dX9_init_12 : decode cX9_init 12 = .ok (.putfield 15, 3) := by decide +kernel
theorem dX9_init_15 : decode cX9_init 15 = .ok (.aload_n 0, 1) := by decide +kernel
theorem dX9_init_16 : decode cX9_init 16 = .ok (.iconst 0, 1) := by decide +kernel
theorem dX9_init_17 : decode cX9_init 17 = .ok (.iload_n 2, 1) := by decide +kernel
theorem dX9_init_18 : decode cX9_init 18 = .ok (.invokestatic 9, 3) := by decide +kernel
theorem dX9_init_21 : decode cX9_init 21 = .ok (.newarray .int, 2) := by decide +kernel
theorem dX9_init_23 : decode cX9_init 23 = .ok (.putfield 21, 3) := by decide +kernel
theorem dX9_init_26 : decode cX9_init 26 = .ok (.return_, 1) := by decide +kernel
theorem dX9_count_0 : decode cX9_count 0 = .ok (.aload_n 0, 1) := by decide +kernel
theorem dX9_count_1 : decode cX9_count 1 = .ok (.getfield 24, 3) := by decide +kernel
theorem dX9_count_4 : decode cX9_count 4 = .ok (.ireturn, 1) := by decide +kernel
theorem dX9_begin_0 : decode cX9_begin 0 = .ok (.aload_n 0, 1) := by decide +kernel
theorem dX9_begin_1 : decode cX9_begin 1 = .ok (.getfield 24, 3) := by decide +kernel
theorem dX9_begin_4 : decode cX9_begin 4 = .ok (.aload_n 0, 1) := by decide +kernel
theorem dX9_begin_5 : decode cX9_begin 5 = .ok (.getfield 15, 3) := by decide +kernel
theorem dX9_begin_8 : decode cX9_begin 8 = .ok (.arraylength, 1) := by decide +kernel
theorem dX9_begin_9 : decode cX9_begin 9 = .ok (.if_icmp .ge 26, 3) := by decide +kernel
theorem dX9_begin_12 : decode cX9_begin 12 = .ok (.aload_n 0, 1) := by decide +kernel
theorem dX9_begin_13 : decode cX9_begin 13 = .ok (.getfield 15, 3) := by decide +kernel
theorem dX9_begin_16 : decode cX9_begin 16 = .ok (.aload_n 0, 1) := by decide +kernel
theorem dX9_begin_17 : decode cX9_begin 17 = .ok (.getfield 24, 3) := by decide +kernel
theorem dX9_begin_20 : decode cX9_begin 20 = .ok (.aload_n 0, 1) := by decide +kernel
theorem dX9_begin_21 : decode cX9_begin 21 = .ok (.getfield 28, 3) := by decide +kernel
theorem dX9_begin_24 : decode cX9_begin 24 = .ok (.iastore, 1) := by decide +kernel
theorem dX9_begin_25 : decode cX9_begin 25 = .ok (.aload_n 0, 1) := by decide +kernel
theorem dX9_begin_26 : decode cX9_begin 26 = .ok (.dup, 1) := by decide +kernel
theorem dX9_begin_27 : decode cX9_begin 27 = .ok (.getfield 24, 3) := by decide +kernel
theorem dX9_begin_30 : decode cX9_begin 30 = .ok (.iconst 1, 1) := by decide +kernel
theorem dX9_begin_31 : decode cX9_begin 31 = .ok (.iadd, 1) := by decide +kernel
theorem dX9_begin_32 : decode cX9_begin 32 = .ok (.putfield 24, 3) := by decide +kernel
theorem dX9_begin_35 : decode cX9_begin 35 = .ok (.return_, 1) := by decide +kernel
theorem dX9_add_0 : decode cX9_add 0 = .ok (.aload_n 0, 1) := by decide +kernel
theorem dX9_add_1 : decode cX9_add 1 = .ok (.getfield 24, 3) := by decide +kernel
theorem dX9_add_4 : decode cX9_add 4 = .ok (.ifCond .le 35, 3) := by decide +kernel
theorem dX9_add_7 : decode cX9_add 7 = .ok (.aload_n 0, 1) := by decide +kernel
theorem dX9_add_8 : decode cX9_add 8 = .ok (.getfield 28, 3) := by decide +kernel
theorem dX9_add_11 : decode cX9_add 11 = .ok (.aload_n 0, 1) := by decide +kernel
theorem dX9_add_12 : decode cX9_add 12 = .ok (.getfield 21, 3) := by decide +kernel
theorem dX9_add_15 : decode cX9_add 15 = .ok (.arraylength, 1) := by decide +kernel
theorem dX9_add_16 : decode cX9_add 16 = .ok (.if_icmp .ge 23, 3) := by decide +kernel
theorem dX9_add_19 : decode cX9_add 19 = .ok (.aload_n 0, 1) := by decide +kernel
theorem dX9_add_20 : decode cX9_add 20 = .ok (.getfield 21, 3) := by decide +kernel
theorem dX9_add_23 : decode cX9_add 23 = .ok (.aload_n 0, 1) := by decide +kernel
theorem dX9_add_24 : decode cX9_add 24 = .ok (.getfield 28, 3) := by decide +kernel
theorem dX9_add_27 : decode cX9_add 27 = .ok (.iload_n 1, 1) := by decide +kernel
theorem dX9_add_28 : decode cX9_add 28 = .ok (.iastore, 1) := by decide +kernel
theorem dX9_add_29 : decode cX9_add 29 = .ok (.aload_n 0, 1) := by decide +kernel
theorem dX9_add_30 : decode cX9_add 30 = .ok (.dup, 1) := by decide +kernel
theorem dX9_add_31 : decode cX9_add 31 = .ok (.getfield 28, 3) := by decide +kernel
theorem dX9_add_34 : decode cX9_add 34 = .ok (.iconst 1, 1) := by decide +kernel
theorem dX9_add_35 : decode cX9_add 35 = .ok (.iadd, 1) := by decide +kernel
theorem dX9_add_36 : decode cX9_add 36 = .ok (.putfield 28, 3) := by decide +kernel
theorem dX9_add_39 : decode cX9_add 39 = .ok (.return_, 1) := by decide +kernel
theorem dX9_dropLast_0 : decode cX9_dropLast 0 = .ok (.aload_n 0, 1) := by decide +kernel
theorem dX9_dropLast_1 : decode cX9_dropLast 1 = .ok (.getfield 24, 3) := by decide +kernel
theorem dX9_dropLast_4 : decode cX9_dropLast 4 = .ok (.ifCond .le 26, 3) := by decide +kernel
theorem dX9_dropLast_7 : decode cX9_dropLast 7 = .ok (.aload_n 0, 1) := by decide +kernel
theorem dX9_dropLast_8 : decode cX9_dropLast 8 = .ok (.dup, 1) := by decide +kernel
theorem dX9_dropLast_9 : decode cX9_dropLast 9 = .ok (.getfield 24, 3) := by decide +kernel
theorem dX9_dropLast_12 : decode cX9_dropLast 12 = .ok (.iconst 1, 1) := by decide +kernel
theorem dX9_dropLast_13 : decode cX9_dropLast 13 = .ok (.isub, 1) := by decide +kernel
theorem dX9_dropLast_14 : decode cX9_dropLast 14 = .ok (.putfield 24, 3) := by decide +kernel
theorem dX9_dropLast_17 : decode cX9_dropLast 17 = .ok (.aload_n 0, 1) := by decide +kernel
theorem dX9_dropLast_18 : decode cX9_dropLast 18 = .ok (.aload_n 0, 1) := by decide +kernel
theorem dX9_dropLast_19 : decode cX9_dropLast 19 = .ok (.getfield 15, 3) := by decide +kernel
theorem dX9_dropLast_22 : decode cX9_dropLast 22 = .ok (.aload_n 0, 1) := by decide +kernel
theorem dX9_dropLast_23 : decode cX9_dropLast 23 = .ok (.getfield 24, 3) := by decide +kernel
theorem dX9_dropLast_26 : decode cX9_dropLast 26 = .ok (.iaload, 1) := by decide +kernel
theorem dX9_dropLast_27 : decode cX9_dropLast 27 = .ok (.putfield 28, 3) := by decide +kernel
theorem dX9_dropLast_30 : decode cX9_dropLast 30 = .ok (.return_, 1) := by decide +kernel
theorem dX9_restart_0 : decode cX9_restart 0 = .ok (.aload_n 0, 1) := by decide +kernel
theorem dX9_restart_1 : decode cX9_restart 1 = .ok (.iconst 0, 1) := by decide +kernel
theorem dX9_restart_2 : decode cX9_restart 2 = .ok (.putfield 28, 3) := by decide +kernel
theorem dX9_restart_5 : decode cX9_restart 5 = .ok (.aload_n 0, 1) := by decide +kernel
theorem dX9_restart_6 : decode cX9_restart 6 = .ok (.iconst 0, 1) := by decide +kernel
theorem dX9_restart_7 : decode cX9_restart 7 = .ok (.putfield 24, 3) := by decide +kernel
theorem dX9_restart_10 : decode cX9_restart 10 = .ok (.return_, 1) := by decide +kernel
theorem dX9_length_0 : decode cX9_length 0 = .ok (.iload_n 1, 1) := by decide +kernel
theorem dX9_length_1 : decode cX9_length 1 = .ok (.ifCond .lt 11, 3) := by decide +kernel
theorem dX9_length_4 : decode cX9_length 4 = .ok (.iload_n 1, 1) := by decide +kernel
theorem dX9_length_5 : decode cX9_length 5 = .ok (.aload_n 0, 1) := by decide +kernel
theorem dX9_length_6 : decode cX9_length 6 = .ok (.getfield 24, 3) := by decide +kernel
theorem dX9_length_9 : decode cX9_length 9 = .ok (.if_icmp .lt 5, 3) := by decide +kernel
theorem dX9_length_12 : decode cX9_length 12 = .ok (.iconst 0, 1) := by decide +kernel
theorem dX9_length_13 : decode cX9_length 13 = .ok (.ireturn, 1) := by decide +kernel
theorem dX9_length_14 : decode cX9_length 14 = .ok (.iload_n 1, 1) := by decide +kernel
theorem dX9_length_15 : decode cX9_length 15 = .ok (.iconst 1, 1) := by decide +kernel
theorem dX9_length_16 : decode cX9_length 16 = .ok (.iadd, 1) := by decide +kernel
theorem dX9_length_17 : decode cX9_length 17 = .ok (.aload_n 0, 1) := by decide +kernel
theorem dX9_length_18 : decode cX9_length 18 = .ok (.getfield 24, 3) := by decide +kernel
theorem dX9_length_21 : decode cX9_length 21 = .ok (.if_icmp .ge 14, 3) := by decide +kernel
theorem dX9_length_24 : decode cX9_length 24 = .ok (.aload_n 0, 1) := by decide +kernel
theorem dX9_length_25 : decode cX9_length 25 = .ok (.getfield 15, 3) := by decide +kernel
theorem dX9_length_28 : decode cX9_length 28 = .ok (.iload_n 1, 1) := by decide +kernel
theorem dX9_length_29 : decode cX9_length 29 = .ok (.iconst 1, 1) := by decide +kernel
theorem dX9_length_30 : decode cX9_length 30 = .ok (.iadd, 1) := by decide +kernel
theorem dX9_length_31 : decode cX9_length 31 = .ok (.iaload, 1) := by decide +kernel
theorem dX9_length_32 : decode cX9_length 32 = .ok (.goto 7, 3) := by decide +kernel
theorem dX9_length_35 : decode cX9_length 35 = .ok (.aload_n 0, 1) := by decide +kernel
theorem dX9_length_36 : decode cX9_length 36 = .ok (.getfield 28, 3) := by decide +kernel
theorem dX9_length_39 : decode cX9_length 39 = .ok (.istore_n 2, 1) := by decide +kernel
theorem dX9_length_40 : decode cX9_length 40 = .ok (.iload_n 2, 1) := by decide +kernel
theorem dX9_length_41 : decode cX9_length 41 = .ok (.aload_n 0, 1) := by decide +kernel
theorem dX9_length_42 : decode cX9_length 42 = .ok (.getfield 15, 3) := by decide +kernel
theorem dX9_length_45 : decode cX9_length 45 = .ok (.iload_n 1, 1) := by decide +kernel
theorem dX9_length_46 : decode cX9_length 46 = .ok (.iaload, 1) := by decide +kernel
theorem dX9_length_47 : decode cX9_length 47 = .ok (.isub, 1) := by decide +kernel
theorem dX9_length_48 : decode cX9_length 48 = .ok (.ireturn, 1) := by decide +kernel
theorem dX9_at_0 : decode cX9_at 0 = .ok (.iload_n 2, 1) := by decide +kernel
theorem dX9_at_1 : decode cX9_at 1 = .ok (.ifCond .lt 28, 3) := by decide +kernel
theorem dX9_at_4 : decode cX9_at 4 = .ok (.iload_n 2, 1) := by decide +kernel
theorem dX9_at_5 : decode cX9_at 5 = .ok (.aload_n 0, 1) := by decide +kernel
theorem dX9_at_6 : decode cX9_at 6 = .ok (.iload_n 1, 1) := by decide +kernel
theorem dX9_at_7 : decode cX9_at 7 = .ok (.invokevirtual 31, 3) := by decide +kernel
theorem dX9_at_10 : decode cX9_at 10 = .ok (.if_icmp .ge 19, 3) := by decide +kernel
theorem dX9_at_13 : decode cX9_at 13 = .ok (.aload_n 0, 1) := by decide +kernel
theorem dX9_at_14 : decode cX9_at 14 = .ok (.getfield 21, 3) := by decide +kernel
theorem dX9_at_17 : decode cX9_at 17 = .ok (.aload_n 0, 1) := by decide +kernel
theorem dX9_at_18 : decode cX9_at 18 = .ok (.getfield 15, 3) := by decide +kernel
theorem dX9_at_21 : decode cX9_at 21 = .ok (.iload_n 1, 1) := by decide +kernel
theorem dX9_at_22 : decode cX9_at 22 = .ok (.iaload, 1) := by decide +kernel
theorem dX9_at_23 : decode cX9_at 23 = .ok (.iload_n 2, 1) := by decide +kernel
theorem dX9_at_24 : decode cX9_at 24 = .ok (.iadd, 1) := by decide +kernel
theorem dX9_at_25 : decode cX9_at 25 = .ok (.iaload, 1) := by decide +kernel
theorem dX9_at_26 : decode cX9_at 26 = .ok (.goto 4, 3) := by decide +kernel
theorem dX9_at_29 : decode cX9_at 29 = .ok (.iconst (-1), 1) := by decide +kernel
theorem dX9_at_30 : decode cX9_at 30 = .ok (.ireturn, 1) := by decide +kernel
