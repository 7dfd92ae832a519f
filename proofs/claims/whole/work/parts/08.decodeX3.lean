theorem dX3_init_0 : decode cX3_init 0 = .ok (.aload_n 0, 1) := by decide +kernel
theorem dX3_init_1 : decode cX3_init 1 = .ok (.bipush 12, 2) := by decide +kernel
theorem dX3_init_3 : decode cX3_init 3 = .ok (.sipush 720, 3) := by decide +kernel
theorem dX3_init_6 : decode cX3_init 6 = .ok (.invokespecial 3, 3) := by decide +kernel
theorem dX3_init_9 : decode cX3_init 9 = .ok (.aload_n 0, 1) := by decide +kernel
theorem dX3_init_10 : decode cX3_init 10 = .ok (.bipush 12, 2) := by decide +kernel
theorem dX3_init_12 : decode cX3_init 12 = .ok (.newarray .int, 2) := by decide +kernel
theorem dX3_init_14 : decode cX3_init 14 = .ok (.putfield 9, 3) := by decide +kernel
theorem dX3_init_17 : decode cX3_init 17 = .ok (.return_, 1) := by decide +kernel
theorem dX3_begin_0 : decode cX3_begin 0 = .ok (.aload_n 0, 1) := by decide +kernel
theorem dX3_begin_1 : decode cX3_begin 1 = .ok (.invokevirtual 15, 3) := by decide +kernel
theorem dX3_begin_4 : decode cX3_begin 4 = .ok (.aload_n 0, 1) := by decide +kernel
theorem dX3_begin_5 : decode cX3_begin 5 = .ok (.iconst (-1), 1) := by decide +kernel
theorem dX3_begin_6 : decode cX3_begin 6 = .ok (.invokevirtual 19, 3) := by decide +kernel
theorem dX3_begin_9 : decode cX3_begin 9 = .ok (.return_, 1) := by decide +kernel
theorem dX3_linkLast_0 : decode cX3_linkLast 0 = .ok (.aload_n 0, 1) := by decide +kernel
theorem dX3_linkLast_1 : decode cX3_linkLast 1 = .ok (.iload_n 1, 1) := by decide +kernel
theorem dX3_linkLast_2 : decode cX3_linkLast 2 = .ok (.invokevirtual 19, 3) := by decide +kernel
theorem dX3_linkLast_5 : decode cX3_linkLast 5 = .ok (.return_, 1) := by decide +kernel
theorem dX3_setTarget_0 : decode cX3_setTarget 0 = .ok (.aload_n 0, 1) := by decide +kernel
theorem dX3_setTarget_1 : decode cX3_setTarget 1 = .ok (.invokevirtual 23, 3) := by decide +kernel
theorem dX3_setTarget_4 : decode cX3_setTarget 4 = .ok (.istore_n 2, 1) := by decide +kernel
theorem dX3_setTarget_5 : decode cX3_setTarget 5 = .ok (.iload_n 2, 1) := by decide +kernel
theorem dX3_setTarget_6 : decode cX3_setTarget 6 = .ok (.ifCond .lt 19, 3) := by decide +kernel
theorem dX3_setTarget_9 : decode cX3_setTarget 9 = .ok (.iload_n 2, 1) := by decide +kernel
theorem dX3_setTarget_10 : decode cX3_setTarget 10 = .ok (.aload_n 0, 1) := by decide +kernel
theorem dX3_setTarget_11 : decode cX3_setTarget 11 = .ok (.getfield 9, 3) := by decide +kernel
theorem dX3_setTarget_14 : decode cX3_setTarget 14 = .ok (.arraylength, 1) := by decide +kernel
theorem dX3_setTarget_15 : decode cX3_setTarget 15 = .ok (.if_icmp .ge 10, 3) := by decide +kernel
theorem dX3_setTarget_18 : decode cX3_setTarget 18 = .ok (.aload_n 0, 1) := by decide +kernel
theorem dX3_setTarget_19 : decode cX3_setTarget 19 = .ok (.getfield 9, 3) := by decide +kernel
theorem dX3_setTarget_22 : decode cX3_setTarget 22 = .ok (.iload_n 2, 1) := by decide +kernel
theorem dX3_setTarget_23 : decode cX3_setTarget 23 = .ok (.iload_n 1, 1) := by decide +kernel
theorem dX3_setTarget_24 : decode cX3_setTarget 24 = .ok (.iastore, 1) := by decide +kernel
theorem dX3_setTarget_25 : decode cX3_setTarget 25 = .ok (.return_, 1) := by decide +kernel
theorem dX3_isLink_0 : decode cX3_isLink 0 = .ok (.aload_n 0, 1) := by decide +kernel
theorem dX3_isLink_1 : decode cX3_isLink 1 = .ok (.iload_n 1, 1) := by decide +kernel
theorem dX3_isLink_2 : decode cX3_isLink 2 = .ok (.invokevirtual 27, 3) := by decide +kernel
theorem dX3_isLink_5 : decode cX3_isLink 5 = .ok (.iload_n 1, 1) := by decide +kernel
theorem dX3_isLink_6 : decode cX3_isLink 6 = .ok (.if_icmp .eq 7, 3) := by decide +kernel
theorem dX3_isLink_9 : decode cX3_isLink 9 = .ok (.iconst 1, 1) := by decide +kernel
theorem dX3_isLink_10 : decode cX3_isLink 10 = .ok (.goto 4, 3) := by decide +kernel
theorem dX3_isLink_13 : decode cX3_isLink 13 = .ok (.iconst 0, 1) := by decide +kernel
theorem dX3_isLink_14 : decode cX3_isLink 14 = .ok (.ireturn, 1) := by decide +kernel
theorem dX3_holder_0 : decode cX3_holder 0 = .ok (.aload_n 0, 1) := by decide +kernel
theorem dX3_holder_1 : decode cX3_holder 1 = .ok (.iload_n 1, 1) := by decide +kernel
theorem dX3_holder_2 : decode cX3_holder 2 = .ok (.invokevirtual 31, 3) := by decide +kernel
theorem dX3_holder_5 : decode cX3_holder 5 = .ok (.ifCond .eq 31, 3) := by decide +kernel
theorem dX3_holder_8 : decode cX3_holder 8 = .ok (.iload_n 1, 1) := by decide +kernel
theorem dX3_holder_9 : decode cX3_holder 9 = .ok (.aload_n 0, 1) := by decide +kernel
theorem dX3_holder_10 : decode cX3_holder 10 = .ok (.getfield 9, 3) := by decide +kernel
theorem dX3_holder_13 : decode cX3_holder 13 = .ok (.arraylength, 1) := by decide +kernel
theorem dX3_holder_14 : decode cX3_holder 14 = .ok (.if_icmp .ge 22, 3) := by decide +kernel
theorem dX3_holder_17 : decode cX3_holder 17 = .ok (.aload_n 0, 1) := by decide +kernel
theorem dX3_holder_18 : decode cX3_holder 18 = .ok (.getfield 9, 3) := by decide +kernel
theorem dX3_holder_21 : decode cX3_holder 21 = .ok (.iload_n 1, 1) := by decide +kernel
theorem dX3_holder_22 : decode cX3_holder 22 = .ok (.iaload, 1) := by decide +kernel
theorem dX3_holder_23 : decode cX3_holder 23 = .ok (.iconst (-1), 1) := by decide +kernel
theorem dX3_holder_24 : decode cX3_holder 24 = .ok (.if_icmp .eq 12, 3) := by decide +kernel
theorem dX3_holder_27 : decode cX3_holder 27 = .ok (.aload_n 0, 1) := by decide +kernel
theorem dX3_holder_28 : decode cX3_holder 28 = .ok (.getfield 9, 3) := by decide +kernel
theorem dX3_holder_31 : decode cX3_holder 31 = .ok (.iload_n 1, 1) := by decide +kernel
theorem dX3_holder_32 : decode cX3_holder 32 = .ok (.iaload, 1) := by decide +kernel
theorem dX3_holder_33 : decode cX3_holder 33 = .ok (.goto 4, 3) := by decide +kernel
theorem dX3_holder_36 : decode cX3_holder 36 = .ok (.iload_n 1, 1) := by decide +kernel
theorem dX3_holder_37 : decode cX3_holder 37 = .ok (.ireturn, 1) := by decide +kernel
theorem dX3_endsUnnamed_0 : decode cX3_endsUnnamed 0 = .ok (.aload_n 0, 1) := by decide +kernel
theorem dX3_endsUnnamed_1 : decode cX3_endsUnnamed 1 = .ok (.invokevirtual 35, 3) := by decide +kernel
theorem dX3_endsUnnamed_4 : decode cX3_endsUnnamed 4 = .ok (.ifCond .le 18, 3) := by decide +kernel
theorem dX3_endsUnnamed_7 : decode cX3_endsUnnamed 7 = .ok (.aload_n 0, 1) := by decide +kernel
theorem dX3_endsUnnamed_8 : decode cX3_endsUnnamed 8 = .ok (.aload_n 0, 1) := by decide +kernel
theorem dX3_endsUnnamed_9 : decode cX3_endsUnnamed 9 = .ok (.invokevirtual 23, 3) := by decide +kernel
theorem dX3_endsUnnamed_12 : decode cX3_endsUnnamed 12 = .ok (.invokevirtual 38, 3) := by decide +kernel
theorem dX3_endsUnnamed_15 : decode cX3_endsUnnamed 15 = .ok (.ifCond .ne 7, 3) := by decide +kernel
theorem dX3_endsUnnamed_18 : decode cX3_endsUnnamed 18 = .ok (.iconst 1, 1) := by decide +kernel
theorem dX3_endsUnnamed_19 : decode cX3_endsUnnamed 19 = .ok (.goto 4, 3) := by decide +kernel
theorem dX3_endsUnnamed_22 : decode cX3_endsUnnamed 22 = .ok (.iconst 0, 1) := by decide +kernel
theorem dX3_endsUnnamed_23 : decode cX3_endsUnnamed 23 = .ok (.ireturn, 1) := by decide +kernel
theorem dX3_hasTrailer_0 : decode cX3_hasTrailer 0 = .ok (.iconst 0, 1) := by decide +kernel
theorem dX3_hasTrailer_1 : decode cX3_hasTrailer 1 = .ok (.istore_n 1, 1) := by decide +kernel
theorem dX3_hasTrailer_2 : decode cX3_hasTrailer 2 = .ok (.iload_n 1, 1) := by decide +kernel
theorem dX3_hasTrailer_3 : decode cX3_hasTrailer 3 = .ok (.aload_n 0, 1) := by decide +kernel
theorem dX3_hasTrailer_4 : decode cX3_hasTrailer 4 = .ok (.invokevirtual 35, 3) := by decide +kernel
theorem dX3_hasTrailer_7 : decode cX3_hasTrailer 7 = .ok (.if_icmp .ge 21, 3) := by decide +kernel
theorem dX3_hasTrailer_10 : decode cX3_hasTrailer 10 = .ok (.aload_n 0, 1) := by decide +kernel
theorem dX3_hasTrailer_11 : decode cX3_hasTrailer 11 = .ok (.iload_n 1, 1) := by decide +kernel
theorem dX3_hasTrailer_12 : decode cX3_hasTrailer 12 = .ok (.ldc 41, 2) := by decide +kernel
theorem dX3_hasTrailer_14 : decode cX3_hasTrailer 14 = .ok (.invokevirtual 43, 3) := by decide +kernel
theorem dX3_hasTrailer_17 : decode cX3_hasTrailer 17 = .ok (.ifCond .eq 5, 3) := by decide +kernel
theorem dX3_hasTrailer_20 : decode cX3_hasTrailer 20 = .ok (.iconst 1, 1) := by decide +kernel
theorem dX3_hasTrailer_21 : decode cX3_hasTrailer 21 = .ok (.ireturn, 1) := by decide +kernel
theorem dX3_hasTrailer_22 : decode cX3_hasTrailer 22 = .ok (.iinc 1 1, 3) := by decide +kernel
theorem dX3_hasTrailer_25 : decode cX3_hasTrailer 25 = .ok (.goto (-23), 3) := by decide +kernel
theorem dX3_hasTrailer_28 : decode cX3_hasTrailer 28 = .ok (.iconst 0, 1) := by decide +kernel
theorem dX3_hasTrailer_29 : decode cX3_hasTrailer 29 = .ok (.ireturn, 1) := by decide +kernel
theorem dX3_numberOf_0 : decode cX3_numberOf 0 = .ok (.iconst 1, 1) := by decide +kernel
theorem dX3_numberOf_1 : decode cX3_numberOf 1 = .ok (.istore_n 2, 1) := by decide +kernel
theorem dX3_numberOf_2 : decode cX3_numberOf 2 = .ok (.iconst 0, 1) := by decide +kernel
theorem dX3_numberOf_3 : decode cX3_numberOf 3 = .ok (.istore_n 3, 1) := by decide +kernel
theorem dX3_numberOf_4 : decode cX3_numberOf 4 = .ok (.iload_n 3, 1) := by decide +kernel
theorem dX3_numberOf_5 : decode cX3_numberOf 5 = .ok (.aload_n 0, 1) := by decide +kernel
theorem dX3_numberOf_6 : decode cX3_numberOf 6 = .ok (.iload_n 1, 1) := by decide +kernel
theorem dX3_numberOf_7 : decode cX3_numberOf 7 = .ok (.invokevirtual 27, 3) := by decide +kernel
theorem dX3_numberOf_10 : decode cX3_numberOf 10 = .ok (.if_icmp .ge 20, 3) := by decide +kernel
theorem dX3_numberOf_13 : decode cX3_numberOf 13 = .ok (.aload_n 0, 1) := by decide +kernel
theorem dX3_numberOf_14 : decode cX3_numberOf 14 = .ok (.iload_n 3, 1) := by decide +kernel
theorem dX3_numberOf_15 : decode cX3_numberOf 15 = .ok (.invokevirtual 47, 3) := by decide +kernel
theorem dX3_numberOf_18 : decode cX3_numberOf 18 = .ok (.ifCond .ne 6, 3) := by decide +kernel
theorem dX3_numberOf_21 : decode cX3_numberOf 21 = .ok (.iinc 2 1, 3) := by decide +kernel
theorem dX3_numberOf_24 : decode cX3_numberOf 24 = .ok (.iinc 3 1, 3) := by decide +kernel
theorem dX3_numberOf_27 : decode cX3_numberOf 27 = .ok (.goto (-23), 3) := by decide +kernel
theorem dX3_numberOf_30 : decode cX3_numberOf 30 = .ok (.iload_n 2, 1) := by decide +kernel
theorem dX3_numberOf_31 : decode cX3_numberOf 31 = .ok (.ireturn, 1) := by decide +kernel
theorem dX3_linksOf_0 : decode cX3_linksOf 0 = .ok (.iconst 0, 1) := by decide +kernel
theorem dX3_linksOf_1 : decode cX3_linksOf 1 = .ok (.istore_n 2, 1) := by decide +kernel
theorem dX3_linksOf_2 : decode cX3_linksOf 2 = .ok (.iconst 0, 1) := by decide +kernel
theorem dX3_linksOf_3 : decode cX3_linksOf 3 = .ok (.istore_n 3, 1) := by decide +kernel
theorem dX3_linksOf_4 : decode cX3_linksOf 4 = .ok (.iload_n 3, 1) := by decide +kernel
theorem dX3_linksOf_5 : decode cX3_linksOf 5 = .ok (.aload_n 0, 1) := by decide +kernel
theorem dX3_linksOf_6 : decode cX3_linksOf 6 = .ok (.invokevirtual 35, 3) := by decide +kernel
theorem dX3_linksOf_9 : decode cX3_linksOf 9 = .ok (.if_icmp .ge 25, 3) := by decide +kernel
theorem dX3_linksOf_12 : decode cX3_linksOf 12 = .ok (.aload_n 0, 1) := by decide +kernel
theorem dX3_linksOf_13 : decode cX3_linksOf 13 = .ok (.iload_n 3, 1) := by decide +kernel
theorem dX3_linksOf_14 : decode cX3_linksOf 14 = .ok (.invokevirtual 27, 3) := by decide +kernel
theorem dX3_linksOf_17 : decode cX3_linksOf 17 = .ok (.aload_n 0, 1) := by decide +kernel
theorem dX3_linksOf_18 : decode cX3_linksOf 18 = .ok (.iload_n 1, 1) := by decide +kernel
theorem dX3_linksOf_19 : decode cX3_linksOf 19 = .ok (.invokevirtual 27, 3) := by decide +kernel
theorem dX3_linksOf_22 : decode cX3_linksOf 22 = .ok (.if_icmp .ne 6, 3) := by decide +kernel
theorem dX3_linksOf_25 : decode cX3_linksOf 25 = .ok (.iinc 2 1, 3) := by decide +kernel
theorem dX3_linksOf_28 : decode cX3_linksOf 28 = .ok (.iinc 3 1, 3) := by decide +kernel
theorem dX3_linksOf_31 : decode cX3_linksOf 31 = .ok (.goto (-27), 3) := by decide +kernel
theorem dX3_linksOf_34 : decode cX3_linksOf 34 = .ok (.iload_n 2, 1) := by decide +kernel
theorem dX3_linksOf_35 : decode cX3_linksOf 35 = .ok (.ireturn, 1) := by decide +kernel
theorem dX3_isLastOfGroup_0 : decode cX3_isLastOfGroup 0 = .ok (.iload_n 1, 1) := by decide +kernel
theorem dX3_isLastOfGroup_1 : decode cX3_isLastOfGroup 1 = .ok (.iconst 1, 1) := by decide +kernel
theorem dX3_isLastOfGroup_2 : decode cX3_isLastOfGroup 2 = .ok (.iadd, 1) := by decide +kernel
theorem dX3_isLastOfGroup_3 : decode cX3_isLastOfGroup 3 = .ok (.istore_n 2, 1) := by decide +kernel
theorem dX3_isLastOfGroup_4 : decode cX3_isLastOfGroup 4 = .ok (.iload_n 2, 1) := by decide +kernel
theorem dX3_isLastOfGroup_5 : decode cX3_isLastOfGroup 5 = .ok (.aload_n 0, 1) := by decide +kernel
theorem dX3_isLastOfGroup_6 : decode cX3_isLastOfGroup 6 = .ok (.invokevirtual 35, 3) := by decide +kernel
theorem dX3_isLastOfGroup_9 : decode cX3_isLastOfGroup 9 = .ok (.if_icmp .ge 24, 3) := by decide +kernel
theorem dX3_isLastOfGroup_12 : decode cX3_isLastOfGroup 12 = .ok (.aload_n 0, 1) := by decide +kernel
theorem dX3_isLastOfGroup_13 : decode cX3_isLastOfGroup 13 = .ok (.iload_n 2, 1) := by decide +kernel
theorem dX3_isLastOfGroup_14 : decode cX3_isLastOfGroup 14 = .ok (.invokevirtual 27, 3) := by decide +kernel
theorem dX3_isLastOfGroup_17 : decode cX3_isLastOfGroup 17 = .ok (.aload_n 0, 1) := by decide +kernel
theorem dX3_isLastOfGroup_18 : decode cX3_isLastOfGroup 18 = .ok (.iload_n 1, 1) := by decide +kernel
theorem dX3_isLastOfGroup_19 : decode cX3_isLastOfGroup 19 = .ok (.invokevirtual 27, 3) := by decide +kernel
theorem dX3_isLastOfGroup_22 : decode cX3_isLastOfGroup 22 = .ok (.if_icmp .ne 5, 3) := by decide +kernel
theorem dX3_isLastOfGroup_25 : decode cX3_isLastOfGroup 25 = .ok (.iconst 0, 1) := by decide +kernel
theorem dX3_isLastOfGroup_26 : decode cX3_isLastOfGroup 26 = .ok (.ireturn, 1) := by decide +kernel
theorem dX3_isLastOfGroup_27 : decode cX3_isLastOfGroup 27 = .ok (.iinc 2 1, 3) := by decide +kernel
theorem dX3_isLastOfGroup_30 : decode cX3_isLastOfGroup 30 = .ok (.goto (-26), 3) := by decide +kernel
theorem dX3_isLastOfGroup_33 : decode cX3_isLastOfGroup 33 = .ok (.iconst 1, 1) := by decide +kernel
theorem dX3_isLastOfGroup_34 : decode cX3_isLastOfGroup 34 = .ok (.ireturn, 1) := by decide +kernel
