theorem dX2_init_0 : decode cX2_init 0 = .ok (.aload_n 0, 1) := by decide +kernel
theorem dX2_init_1 : decode cX2_init 1 = .ok (.bipush 126, 2) := by decide +kernel
theorem dX2_init_3 : decode cX2_init 3 = .ok (.sipush 1500, 3) := by decide +kernel
theorem dX2_init_6 : decode cX2_init 6 = .ok (.invokespecial 3, 3) := by decide +kernel
theorem dX2_init_9 : decode cX2_init 9 = .ok (.aload_n 0, 1) := by decide +kernel
theorem dX2_init_10 : decode cX2_init 10 = .ok (.bipush 126, 2) := by decide +kernel
theorem dX2_init_12 : decode cX2_init 12 = .ok (.newarray .int, 2) := by decide +kernel
theorem dX2_init_14 : decode cX2_init 14 = .ok (.putfield 9, 3) := by decide +kernel
theorem dX2_init_17 : decode cX2_init 17 = .ok (.aload_n 0, 1) := by decide +kernel
theorem dX2_init_18 : decode cX2_init 18 = .ok (.bipush 126, 2) := by decide +kernel
theorem dX2_init_20 : decode cX2_init 20 = .ok (.newarray .int, 2) := by decide +kernel
theorem dX2_init_22 : decode cX2_init 22 = .ok (.putfield 15, 3) := by decide +kernel
theorem dX2_init_25 : decode cX2_init 25 = .ok (.aload_n 0, 1) := by decide +kernel
theorem dX2_init_26 : decode cX2_init 26 = .ok (.bipush 126, 2) := by decide +kernel
theorem dX2_init_28 : decode cX2_init 28 = .ok (.newarray .int, 2) := by decide +kernel
theorem dX2_init_30 : decode cX2_init 30 = .ok (.putfield 18, 3) := by decide +kernel
theorem dX2_init_33 : decode cX2_init 33 = .ok (.aload_n 0, 1) := by decide +kernel
theorem dX2_init_34 : decode cX2_init 34 = .ok (.bipush 126, 2) := by decide +kernel
theorem dX2_init_36 : decode cX2_init 36 = .ok (.newarray .int, 2) := by decide +kernel
theorem dX2_init_38 : decode cX2_init 38 = .ok (.putfield 21, 3) := by decide +kernel
theorem dX2_init_41 : decode cX2_init 41 = .ok (.return_, 1) := by decide +kernel
theorem dX2_begin_0 : decode cX2_begin 0 = .ok (.aload_n 0, 1) := by decide +kernel
theorem dX2_begin_1 : decode cX2_begin 1 = .ok (.invokevirtual 24, 3) := by decide +kernel
theorem dX2_begin_4 : decode cX2_begin 4 = .ok (.aload_n 0, 1) := by decide +kernel
theorem dX2_begin_5 : decode cX2_begin 5 = .ok (.invokevirtual 28, 3) := by decide +kernel
theorem dX2_begin_8 : decode cX2_begin 8 = .ok (.istore_n 2, 1) := by decide +kernel
theorem dX2_begin_9 : decode cX2_begin 9 = .ok (.iload_n 2, 1) := by decide +kernel
theorem dX2_begin_10 : decode cX2_begin 10 = .ok (.ifCond .lt 19, 3) := by decide +kernel
theorem dX2_begin_13 : decode cX2_begin 13 = .ok (.iload_n 2, 1) := by decide +kernel
theorem dX2_begin_14 : decode cX2_begin 14 = .ok (.aload_n 0, 1) := by decide +kernel
theorem dX2_begin_15 : decode cX2_begin 15 = .ok (.getfield 9, 3) := by decide +kernel
theorem dX2_begin_18 : decode cX2_begin 18 = .ok (.arraylength, 1) := by decide +kernel
theorem dX2_begin_19 : decode cX2_begin 19 = .ok (.if_icmp .ge 10, 3) := by decide +kernel
theorem dX2_begin_22 : decode cX2_begin 22 = .ok (.aload_n 0, 1) := by decide +kernel
theorem dX2_begin_23 : decode cX2_begin 23 = .ok (.getfield 9, 3) := by decide +kernel
theorem dX2_begin_26 : decode cX2_begin 26 = .ok (.iload_n 2, 1) := by decide +kernel
theorem dX2_begin_27 : decode cX2_begin 27 = .ok (.iload_n 1, 1) := by decide +kernel
theorem dX2_begin_28 : decode cX2_begin 28 = .ok (.iastore, 1) := by decide +kernel
theorem dX2_begin_29 : decode cX2_begin 29 = .ok (.aload_n 0, 1) := by decide +kernel
theorem dX2_begin_30 : decode cX2_begin 30 = .ok (.iconst 0, 1) := by decide +kernel
theorem dX2_begin_31 : decode cX2_begin 31 = .ok (.iconst 1, 1) := by decide +kernel
theorem dX2_begin_32 : decode cX2_begin 32 = .ok (.invokevirtual 32, 3) := by decide +kernel
theorem dX2_begin_35 : decode cX2_begin 35 = .ok (.aload_n 0, 1) := by decide +kernel
theorem dX2_begin_36 : decode cX2_begin 36 = .ok (.iload_n 2, 1) := by decide +kernel
theorem dX2_begin_37 : decode cX2_begin 37 = .ok (.iload_n 2, 1) := by decide +kernel
theorem dX2_begin_38 : decode cX2_begin 38 = .ok (.invokevirtual 35, 3) := by decide +kernel
theorem dX2_begin_41 : decode cX2_begin 41 = .ok (.return_, 1) := by decide +kernel
theorem dX2_setNumber_0 : decode cX2_setNumber 0 = .ok (.aload_n 0, 1) := by decide +kernel
theorem dX2_setNumber_1 : decode cX2_setNumber 1 = .ok (.invokevirtual 28, 3) := by decide +kernel
theorem dX2_setNumber_4 : decode cX2_setNumber 4 = .ok (.istore_n 3, 1) := by decide +kernel
theorem dX2_setNumber_5 : decode cX2_setNumber 5 = .ok (.iload_n 3, 1) := by decide +kernel
theorem dX2_setNumber_6 : decode cX2_setNumber 6 = .ok (.ifCond .lt 35, 3) := by decide +kernel
theorem dX2_setNumber_9 : decode cX2_setNumber 9 = .ok (.iload_n 3, 1) := by decide +kernel
theorem dX2_setNumber_10 : decode cX2_setNumber 10 = .ok (.aload_n 0, 1) := by decide +kernel
theorem dX2_setNumber_11 : decode cX2_setNumber 11 = .ok (.getfield 15, 3) := by decide +kernel
theorem dX2_setNumber_14 : decode cX2_setNumber 14 = .ok (.arraylength, 1) := by decide +kernel
theorem dX2_setNumber_15 : decode cX2_setNumber 15 = .ok (.if_icmp .ge 26, 3) := by decide +kernel
theorem dX2_setNumber_18 : decode cX2_setNumber 18 = .ok (.iload_n 3, 1) := by decide +kernel
theorem dX2_setNumber_19 : decode cX2_setNumber 19 = .ok (.aload_n 0, 1) := by decide +kernel
theorem dX2_setNumber_20 : decode cX2_setNumber 20 = .ok (.getfield 18, 3) := by decide +kernel
theorem dX2_setNumber_23 : decode cX2_setNumber 23 = .ok (.arraylength, 1) := by decide +kernel
theorem dX2_setNumber_24 : decode cX2_setNumber 24 = .ok (.if_icmp .ge 17, 3) := by decide +kernel
theorem dX2_setNumber_27 : decode cX2_setNumber 27 = .ok (.aload_n 0, 1) := by decide +kernel
theorem dX2_setNumber_28 : decode cX2_setNumber 28 = .ok (.getfield 15, 3) := by decide +kernel
theorem dX2_setNumber_31 : decode cX2_setNumber 31 = .ok (.iload_n 3, 1) := by decide +kernel
theorem dX2_setNumber_32 : decode cX2_setNumber 32 = .ok (.iload_n 1, 1) := by decide +kernel
theorem dX2_setNumber_33 : decode cX2_setNumber 33 = .ok (.iastore, 1) := by decide +kernel
theorem dX2_setNumber_34 : decode cX2_setNumber 34 = .ok (.aload_n 0, 1) := by decide +kernel
theorem dX2_setNumber_35 : decode cX2_setNumber 35 = .ok (.getfield 18, 3) := by decide +kernel
theorem dX2_setNumber_38 : decode cX2_setNumber 38 = .ok (.iload_n 3, 1) := by decide +kernel
theorem dX2_setNumber_39 : decode cX2_setNumber 39 = .ok (.iload_n 2, 1) := by decide +kernel
theorem dX2_setNumber_40 : decode cX2_setNumber 40 = .ok (.iastore, 1) := by decide +kernel
theorem dX2_setNumber_41 : decode cX2_setNumber 41 = .ok (.return_, 1) := by decide +kernel
theorem dX2_setHolder_0 : decode cX2_setHolder 0 = .ok (.iload_n 1, 1) := by decide +kernel
theorem dX2_setHolder_1 : decode cX2_setHolder 1 = .ok (.ifCond .lt 19, 3) := by decide +kernel
theorem dX2_setHolder_4 : decode cX2_setHolder 4 = .ok (.iload_n 1, 1) := by decide +kernel
theorem dX2_setHolder_5 : decode cX2_setHolder 5 = .ok (.aload_n 0, 1) := by decide +kernel
theorem dX2_setHolder_6 : decode cX2_setHolder 6 = .ok (.getfield 21, 3) := by decide +kernel
theorem dX2_setHolder_9 : decode cX2_setHolder 9 = .ok (.arraylength, 1) := by decide +kernel
theorem dX2_setHolder_10 : decode cX2_setHolder 10 = .ok (.if_icmp .ge 10, 3) := by decide +kernel
theorem dX2_setHolder_13 : decode cX2_setHolder 13 = .ok (.aload_n 0, 1) := by decide +kernel
theorem dX2_setHolder_14 : decode cX2_setHolder 14 = .ok (.getfield 21, 3) := by decide +kernel
theorem dX2_setHolder_17 : decode cX2_setHolder 17 = .ok (.iload_n 1, 1) := by decide +kernel
theorem dX2_setHolder_18 : decode cX2_setHolder 18 = .ok (.iload_n 2, 1) := by decide +kernel
theorem dX2_setHolder_19 : decode cX2_setHolder 19 = .ok (.iastore, 1) := by decide +kernel
theorem dX2_setHolder_20 : decode cX2_setHolder 20 = .ok (.return_, 1) := by decide +kernel
theorem dX2_beginOf_0 : decode cX2_beginOf 0 = .ok (.aload_n 0, 1) := by decide +kernel
theorem dX2_beginOf_1 : decode cX2_beginOf 1 = .ok (.iload_n 1, 1) := by decide +kernel
theorem dX2_beginOf_2 : decode cX2_beginOf 2 = .ok (.invokevirtual 38, 3) := by decide +kernel
theorem dX2_beginOf_5 : decode cX2_beginOf 5 = .ok (.ifCond .eq 21, 3) := by decide +kernel
theorem dX2_beginOf_8 : decode cX2_beginOf 8 = .ok (.iload_n 1, 1) := by decide +kernel
theorem dX2_beginOf_9 : decode cX2_beginOf 9 = .ok (.aload_n 0, 1) := by decide +kernel
theorem dX2_beginOf_10 : decode cX2_beginOf 10 = .ok (.getfield 9, 3) := by decide +kernel
theorem dX2_beginOf_13 : decode cX2_beginOf 13 = .ok (.arraylength, 1) := by decide +kernel
theorem dX2_beginOf_14 : decode cX2_beginOf 14 = .ok (.if_icmp .ge 12, 3) := by decide +kernel
theorem dX2_beginOf_17 : decode cX2_beginOf 17 = .ok (.aload_n 0, 1) := by decide +kernel
theorem dX2_beginOf_18 : decode cX2_beginOf 18 = .ok (.getfield 9, 3) := by decide +kernel
theorem dX2_beginOf_21 : decode cX2_beginOf 21 = .ok (.iload_n 1, 1) := by decide +kernel
theorem dX2_beginOf_22 : decode cX2_beginOf 22 = .ok (.iaload, 1) := by decide +kernel
theorem dX2_beginOf_23 : decode cX2_beginOf 23 = .ok (.goto 4, 3) := by decide +kernel
theorem dX2_beginOf_26 : decode cX2_beginOf 26 = .ok (.iconst (-1), 1) := by decide +kernel
theorem dX2_beginOf_27 : decode cX2_beginOf 27 = .ok (.ireturn, 1) := by decide +kernel
theorem dX2_numberAt_0 : decode cX2_numberAt 0 = .ok (.aload_n 0, 1) := by decide +kernel
theorem dX2_numberAt_1 : decode cX2_numberAt 1 = .ok (.iload_n 1, 1) := by decide +kernel
theorem dX2_numberAt_2 : decode cX2_numberAt 2 = .ok (.invokevirtual 38, 3) := by decide +kernel
theorem dX2_numberAt_5 : decode cX2_numberAt 5 = .ok (.ifCond .eq 21, 3) := by decide +kernel
theorem dX2_numberAt_8 : decode cX2_numberAt 8 = .ok (.iload_n 1, 1) := by decide +kernel
theorem dX2_numberAt_9 : decode cX2_numberAt 9 = .ok (.aload_n 0, 1) := by decide +kernel
theorem dX2_numberAt_10 : decode cX2_numberAt 10 = .ok (.getfield 15, 3) := by decide +kernel
theorem dX2_numberAt_13 : decode cX2_numberAt 13 = .ok (.arraylength, 1) := by decide +kernel
theorem dX2_numberAt_14 : decode cX2_numberAt 14 = .ok (.if_icmp .ge 12, 3) := by decide +kernel
theorem dX2_numberAt_17 : decode cX2_numberAt 17 = .ok (.aload_n 0, 1) := by decide +kernel
theorem dX2_numberAt_18 : decode cX2_numberAt 18 = .ok (.getfield 15, 3) := by decide +kernel
theorem dX2_numberAt_21 : decode cX2_numberAt 21 = .ok (.iload_n 1, 1) := by decide +kernel
theorem dX2_numberAt_22 : decode cX2_numberAt 22 = .ok (.iaload, 1) := by decide +kernel
theorem dX2_numberAt_23 : decode cX2_numberAt 23 = .ok (.goto 4, 3) := by decide +kernel
theorem dX2_numberAt_26 : decode cX2_numberAt 26 = .ok (.iconst 0, 1) := by decide +kernel
theorem dX2_numberAt_27 : decode cX2_numberAt 27 = .ok (.ireturn, 1) := by decide +kernel
theorem dX2_linksAt_0 : decode cX2_linksAt 0 = .ok (.aload_n 0, 1) := by decide +kernel
theorem dX2_linksAt_1 : decode cX2_linksAt 1 = .ok (.iload_n 1, 1) := by decide +kernel
theorem dX2_linksAt_2 : decode cX2_linksAt 2 = .ok (.invokevirtual 38, 3) := by decide +kernel
theorem dX2_linksAt_5 : decode cX2_linksAt 5 = .ok (.ifCond .eq 21, 3) := by decide +kernel
theorem dX2_linksAt_8 : decode cX2_linksAt 8 = .ok (.iload_n 1, 1) := by decide +kernel
theorem dX2_linksAt_9 : decode cX2_linksAt 9 = .ok (.aload_n 0, 1) := by decide +kernel
theorem dX2_linksAt_10 : decode cX2_linksAt 10 = .ok (.getfield 18, 3) := by decide +kernel
theorem dX2_linksAt_13 : decode cX2_linksAt 13 = .ok (.arraylength, 1) := by decide +kernel
theorem dX2_linksAt_14 : decode cX2_linksAt 14 = .ok (.if_icmp .ge 12, 3) := by decide +kernel
theorem dX2_linksAt_17 : decode cX2_linksAt 17 = .ok (.aload_n 0, 1) := by decide +kernel
theorem dX2_linksAt_18 : decode cX2_linksAt 18 = .ok (.getfield 18, 3) := by decide +kernel
theorem dX2_linksAt_21 : decode cX2_linksAt 21 = .ok (.iload_n 1, 1) := by decide +kernel
theorem dX2_linksAt_22 : decode cX2_linksAt 22 = .ok (.iaload, 1) := by decide +kernel
theorem dX2_linksAt_23 : decode cX2_linksAt 23 = .ok (.goto 4, 3) := by decide +kernel
theorem dX2_linksAt_26 : decode cX2_linksAt 26 = .ok (.iconst 1, 1) := by decide +kernel
theorem dX2_linksAt_27 : decode cX2_linksAt 27 = .ok (.ireturn, 1) := by decide +kernel
theorem dX2_areLinked_0 : decode cX2_areLinked 0 = .ok (.aload_n 0, 1) := by decide +kernel
theorem dX2_areLinked_1 : decode cX2_areLinked 1 = .ok (.iload_n 1, 1) := by decide +kernel
theorem dX2_areLinked_2 : decode cX2_areLinked 2 = .ok (.invokevirtual 42, 3) := by decide +kernel
theorem dX2_areLinked_5 : decode cX2_areLinked 5 = .ok (.iconst 1, 1) := by decide +kernel
theorem dX2_areLinked_6 : decode cX2_areLinked 6 = .ok (.if_icmp .le 29, 3) := by decide +kernel
theorem dX2_areLinked_9 : decode cX2_areLinked 9 = .ok (.aload_n 0, 1) := by decide +kernel
theorem dX2_areLinked_10 : decode cX2_areLinked 10 = .ok (.iload_n 2, 1) := by decide +kernel
theorem dX2_areLinked_11 : decode cX2_areLinked 11 = .ok (.invokevirtual 42, 3) := by decide +kernel
theorem dX2_areLinked_14 : decode cX2_areLinked 14 = .ok (.iconst 1, 1) := by decide +kernel
theorem dX2_areLinked_15 : decode cX2_areLinked 15 = .ok (.if_icmp .le 20, 3) := by decide +kernel
theorem dX2_areLinked_18 : decode cX2_areLinked 18 = .ok (.aload_n 0, 1) := by decide +kernel
theorem dX2_areLinked_19 : decode cX2_areLinked 19 = .ok (.iload_n 1, 1) := by decide +kernel
theorem dX2_areLinked_20 : decode cX2_areLinked 20 = .ok (.invokevirtual 46, 3) := by decide +kernel
theorem dX2_areLinked_23 : decode cX2_areLinked 23 = .ok (.aload_n 0, 1) := by decide +kernel
theorem dX2_areLinked_24 : decode cX2_areLinked 24 = .ok (.iload_n 2, 1) := by decide +kernel
theorem dX2_areLinked_25 : decode cX2_areLinked 25 = .ok (.invokevirtual 46, 3) := by decide +kernel
theorem dX2_areLinked_28 : decode cX2_areLinked 28 = .ok (.if_icmp .ne 7, 3) := by decide +kernel
theorem dX2_areLinked_31 : decode cX2_areLinked 31 = .ok (.iconst 1, 1) := by decide +kernel
theorem dX2_areLinked_32 : decode cX2_areLinked 32 = .ok (.goto 4, 3) := by decide +kernel
theorem dX2_areLinked_35 : decode cX2_areLinked 35 = .ok (.iconst 0, 1) := by decide +kernel
theorem dX2_areLinked_36 : decode cX2_areLinked 36 = .ok (.ireturn, 1) := by decide +kernel
theorem dX2_holder_0 : decode cX2_holder 0 = .ok (.aload_n 0, 1) := by decide +kernel
theorem dX2_holder_1 : decode cX2_holder 1 = .ok (.iload_n 1, 1) := by decide +kernel
theorem dX2_holder_2 : decode cX2_holder 2 = .ok (.invokevirtual 38, 3) := by decide +kernel
theorem dX2_holder_5 : decode cX2_holder 5 = .ok (.ifCond .eq 21, 3) := by decide +kernel
theorem dX2_holder_8 : decode cX2_holder 8 = .ok (.iload_n 1, 1) := by decide +kernel
theorem dX2_holder_9 : decode cX2_holder 9 = .ok (.aload_n 0, 1) := by decide +kernel
theorem dX2_holder_10 : decode cX2_holder 10 = .ok (.getfield 21, 3) := by decide +kernel
theorem dX2_holder_13 : decode cX2_holder 13 = .ok (.arraylength, 1) := by decide +kernel
theorem dX2_holder_14 : decode cX2_holder 14 = .ok (.if_icmp .ge 12, 3) := by decide +kernel
theorem dX2_holder_17 : decode cX2_holder 17 = .ok (.aload_n 0, 1) := by decide +kernel
theorem dX2_holder_18 : decode cX2_holder 18 = .ok (.getfield 21, 3) := by decide +kernel
theorem dX2_holder_21 : decode cX2_holder 21 = .ok (.iload_n 1, 1) := by decide +kernel
theorem dX2_holder_22 : decode cX2_holder 22 = .ok (.iaload, 1) := by decide +kernel
theorem dX2_holder_23 : decode cX2_holder 23 = .ok (.goto 4, 3) := by decide +kernel
theorem dX2_holder_26 : decode cX2_holder 26 = .ok (.iload_n 1, 1) := by decide +kernel
theorem dX2_holder_27 : decode cX2_holder 27 = .ok (.ireturn, 1) := by decide +kernel
theorem dX2_shareContents_0 : decode cX2_shareContents 0 = .ok (.iconst 0, 1) := by decide +kernel
theorem dX2_shareContents_1 : decode cX2_shareContents 1 = .ok (.istore_n 1, 1) := by decide +kernel
theorem dX2_shareContents_2 : decode cX2_shareContents 2 = .ok (.iload_n 1, 1) := by decide +kernel
theorem dX2_shareContents_3 : decode cX2_shareContents 3 = .ok (.aload_n 0, 1) := by decide +kernel
theorem dX2_shareContents_4 : decode cX2_shareContents 4 = .ok (.invokevirtual 49, 3) := by decide +kernel
theorem dX2_shareContents_7 : decode cX2_shareContents 7 = .ok (.if_icmp .ge 28, 3) := by decide +kernel
theorem dX2_shareContents_10 : decode cX2_shareContents 10 = .ok (.aload_n 0, 1) := by decide +kernel
theorem dX2_shareContents_11 : decode cX2_shareContents 11 = .ok (.iload_n 1, 1) := by decide +kernel
theorem dX2_shareContents_12 : decode cX2_shareContents 12 = .ok (.invokevirtual 42, 3) := by decide +kernel
theorem dX2_shareContents_15 : decode cX2_shareContents 15 = .ok (.iconst 1, 1) := by decide +kernel
theorem dX2_shareContents_16 : decode cX2_shareContents 16 = .ok (.if_icmp .le 13, 3) := by decide +kernel
theorem dX2_shareContents_19 : decode cX2_shareContents 19 = .ok (.aload_n 0, 1) := by decide +kernel
theorem dX2_shareContents_20 : decode cX2_shareContents 20 = .ok (.iload_n 1, 1) := by decide +kernel
theorem dX2_shareContents_21 : decode cX2_shareContents 21 = .ok (.aload_n 0, 1) := by decide +kernel
theorem dX2_shareContents_22 : decode cX2_shareContents 22 = .ok (.iload_n 1, 1) := by decide +kernel
theorem dX2_shareContents_23 : decode cX2_shareContents 23 = .ok (.invokevirtual 52, 3) := by decide +kernel
theorem dX2_shareContents_26 : decode cX2_shareContents 26 = .ok (.invokevirtual 35, 3) := by decide +kernel
theorem dX2_shareContents_29 : decode cX2_shareContents 29 = .ok (.iinc 1 1, 3) := by decide +kernel
theorem dX2_shareContents_32 : decode cX2_shareContents 32 = .ok (.goto (-30), 3) := by decide +kernel
theorem dX2_shareContents_35 : decode cX2_shareContents 35 = .ok (.return_, 1) := by decide +kernel
theorem dX2_lastOfGroup_0 : decode cX2_lastOfGroup 0 = .ok (.aload_n 0, 1) := by decide +kernel
theorem dX2_lastOfGroup_1 : decode cX2_lastOfGroup 1 = .ok (.invokevirtual 28, 3) := by decide +kernel
theorem dX2_lastOfGroup_4 : decode cX2_lastOfGroup 4 = .ok (.istore_n 2, 1) := by decide +kernel
theorem dX2_lastOfGroup_5 : decode cX2_lastOfGroup 5 = .ok (.iload_n 2, 1) := by decide +kernel
theorem dX2_lastOfGroup_6 : decode cX2_lastOfGroup 6 = .ok (.iload_n 1, 1) := by decide +kernel
theorem dX2_lastOfGroup_7 : decode cX2_lastOfGroup 7 = .ok (.if_icmp .le 20, 3) := by decide +kernel
theorem dX2_lastOfGroup_10 : decode cX2_lastOfGroup 10 = .ok (.aload_n 0, 1) := by decide +kernel
theorem dX2_lastOfGroup_11 : decode cX2_lastOfGroup 11 = .ok (.iload_n 1, 1) := by decide +kernel
theorem dX2_lastOfGroup_12 : decode cX2_lastOfGroup 12 = .ok (.iload_n 2, 1) := by decide +kernel
theorem dX2_lastOfGroup_13 : decode cX2_lastOfGroup 13 = .ok (.invokevirtual 55, 3) := by decide +kernel
theorem dX2_lastOfGroup_16 : decode cX2_lastOfGroup 16 = .ok (.ifCond .eq 5, 3) := by decide +kernel
theorem dX2_lastOfGroup_19 : decode cX2_lastOfGroup 19 = .ok (.iload_n 2, 1) := by decide +kernel
theorem dX2_lastOfGroup_20 : decode cX2_lastOfGroup 20 = .ok (.ireturn, 1) := by decide +kernel
theorem dX2_lastOfGroup_21 : decode cX2_lastOfGroup 21 = .ok (.iinc 2 (-1), 3) := by decide +kernel
theorem dX2_lastOfGroup_24 : decode cX2_lastOfGroup 24 = .ok (.goto (-19), 3) := by decide +kernel
theorem dX2_lastOfGroup_27 : decode cX2_lastOfGroup 27 = .ok (.iload_n 1, 1) := by decide +kernel
theorem dX2_lastOfGroup_28 : decode cX2_lastOfGroup 28 = .ok (.ireturn, 1) := by decide +kernel
theorem dX2_firstOfGroup_0 : decode cX2_firstOfGroup 0 = .ok (.iconst 0, 1) := by decide +kernel
theorem dX2_firstOfGroup_1 : decode cX2_firstOfGroup 1 = .ok (.istore_n 2, 1) := by decide +kernel
theorem dX2_firstOfGroup_2 : decode cX2_firstOfGroup 2 = .ok (.iload_n 2, 1) := by decide +kernel
theorem dX2_firstOfGroup_3 : decode cX2_firstOfGroup 3 = .ok (.iload_n 1, 1) := by decide +kernel
theorem dX2_firstOfGroup_4 : decode cX2_firstOfGroup 4 = .ok (.if_icmp .ge 28, 3) := by decide +kernel
theorem dX2_firstOfGroup_7 : decode cX2_firstOfGroup 7 = .ok (.iload_n 2, 1) := by decide +kernel
theorem dX2_firstOfGroup_8 : decode cX2_firstOfGroup 8 = .ok (.aload_n 0, 1) := by decide +kernel
theorem dX2_firstOfGroup_9 : decode cX2_firstOfGroup 9 = .ok (.invokevirtual 49, 3) := by decide +kernel
theorem dX2_firstOfGroup_12 : decode cX2_firstOfGroup 12 = .ok (.if_icmp .ge 20, 3) := by decide +kernel
theorem dX2_firstOfGroup_15 : decode cX2_firstOfGroup 15 = .ok (.aload_n 0, 1) := by decide +kernel
theorem dX2_firstOfGroup_16 : decode cX2_firstOfGroup 16 = .ok (.iload_n 1, 1) := by decide +kernel
theorem dX2_firstOfGroup_17 : decode cX2_firstOfGroup 17 = .ok (.iload_n 2, 1) := by decide +kernel
theorem dX2_firstOfGroup_18 : decode cX2_firstOfGroup 18 = .ok (.invokevirtual 55, 3) := by decide +kernel
theorem dX2_firstOfGroup_21 : decode cX2_firstOfGroup 21 = .ok (.ifCond .eq 5, 3) := by decide +kernel
theorem dX2_firstOfGroup_24 : decode cX2_firstOfGroup 24 = .ok (.iload_n 2, 1) := by decide +kernel
theorem dX2_firstOfGroup_25 : decode cX2_firstOfGroup 25 = .ok (.ireturn, 1) := by decide +kernel
theorem dX2_firstOfGroup_26 : decode cX2_firstOfGroup 26 = .ok (.iinc 2 1, 3) := by decide +kernel
theorem dX2_firstOfGroup_29 : decode cX2_firstOfGroup 29 = .ok (.goto (-27), 3) := by decide +kernel
theorem dX2_firstOfGroup_32 : decode cX2_firstOfGroup 32 = .ok (.iload_n 1, 1) := by decide +kernel
theorem dX2_firstOfGroup_33 : decode cX2_firstOfGroup 33 = .ok (.ireturn, 1) := by decide +kernel
theorem dX2_countAlike_0 : decode cX2_countAlike 0 = .ok (.iconst 0, 1) := by decide +kernel
theorem dX2_countAlike_1 : decode cX2_countAlike 1 = .ok (.istore_n 2, 1) := by decide +kernel
theorem dX2_countAlike_2 : decode cX2_countAlike 2 = .ok (.iconst 0, 1) := by decide +kernel
theorem dX2_countAlike_3 : decode cX2_countAlike 3 = .ok (.istore_n 3, 1) := by decide +kernel
theorem dX2_countAlike_4 : decode cX2_countAlike 4 = .ok (.iload_n 3, 1) := by decide +kernel
theorem dX2_countAlike_5 : decode cX2_countAlike 5 = .ok (.aload_n 0, 1) := by decide +kernel
theorem dX2_countAlike_6 : decode cX2_countAlike 6 = .ok (.invokevirtual 49, 3) := by decide +kernel
theorem dX2_countAlike_9 : decode cX2_countAlike 9 = .ok (.if_icmp .ge 38, 3) := by decide +kernel
theorem dX2_countAlike_12 : decode cX2_countAlike 12 = .ok (.aload_n 0, 1) := by decide +kernel
theorem dX2_countAlike_13 : decode cX2_countAlike 13 = .ok (.iload_n 3, 1) := by decide +kernel
theorem dX2_countAlike_14 : decode cX2_countAlike 14 = .ok (.invokevirtual 46, 3) := by decide +kernel
theorem dX2_countAlike_17 : decode cX2_countAlike 17 = .ok (.aload_n 0, 1) := by decide +kernel
theorem dX2_countAlike_18 : decode cX2_countAlike 18 = .ok (.iload_n 1, 1) := by decide +kernel
theorem dX2_countAlike_19 : decode cX2_countAlike 19 = .ok (.invokevirtual 46, 3) := by decide +kernel
theorem dX2_countAlike_22 : decode cX2_countAlike 22 = .ok (.if_icmp .ne 19, 3) := by decide +kernel
theorem dX2_countAlike_25 : decode cX2_countAlike 25 = .ok (.aload_n 0, 1) := by decide +kernel
theorem dX2_countAlike_26 : decode cX2_countAlike 26 = .ok (.iload_n 3, 1) := by decide +kernel
theorem dX2_countAlike_27 : decode cX2_countAlike 27 = .ok (.invokevirtual 42, 3) := by decide +kernel
theorem dX2_countAlike_30 : decode cX2_countAlike 30 = .ok (.aload_n 0, 1) := by decide +kernel
theorem dX2_countAlike_31 : decode cX2_countAlike 31 = .ok (.iload_n 1, 1) := by decide +kernel
theorem dX2_countAlike_32 : decode cX2_countAlike 32 = .ok (.invokevirtual 42, 3) := by decide +kernel
theorem dX2_countAlike_35 : decode cX2_countAlike 35 = .ok (.if_icmp .ne 6, 3) := by decide +kernel
theorem dX2_countAlike_38 : decode cX2_countAlike 38 = .ok (.iinc 2 1, 3) := by decide +kernel
theorem dX2_countAlike_41 : decode cX2_countAlike 41 = .ok (.iinc 3 1, 3) := by decide +kernel
theorem dX2_countAlike_44 : decode cX2_countAlike 44 = .ok (.goto (-40), 3) := by decide +kernel
theorem dX2_countAlike_47 : decode cX2_countAlike 47 = .ok (.iload_n 2, 1) := by decide +kernel
theorem dX2_countAlike_48 : decode cX2_countAlike 48 = .ok (.ireturn, 1) := by decide +kernel
theorem dX2_firstLost_0 : decode cX2_firstLost 0 = .ok (.iconst 0, 1) := by decide +kernel
theorem dX2_firstLost_1 : decode cX2_firstLost 1 = .ok (.istore_n 1, 1) := by decide +kernel
theorem dX2_firstLost_2 : decode cX2_firstLost 2 = .ok (.iload_n 1, 1) := by decide +kernel
theorem dX2_firstLost_3 : decode cX2_firstLost 3 = .ok (.aload_n 0, 1) := by decide +kernel
theorem dX2_firstLost_4 : decode cX2_firstLost 4 = .ok (.invokevirtual 49, 3) := by decide +kernel
theorem dX2_firstLost_7 : decode cX2_firstLost 7 = .ok (.if_icmp .ge 33, 3) := by decide +kernel
theorem dX2_firstLost_10 : decode cX2_firstLost 10 = .ok (.aload_n 0, 1) := by decide +kernel
theorem dX2_firstLost_11 : decode cX2_firstLost 11 = .ok (.iload_n 1, 1) := by decide +kernel
theorem dX2_firstLost_12 : decode cX2_firstLost 12 = .ok (.invokevirtual 42, 3) := by decide +kernel
theorem dX2_firstLost_15 : decode cX2_firstLost 15 = .ok (.iconst 1, 1) := by decide +kernel
theorem dX2_firstLost_16 : decode cX2_firstLost 16 = .ok (.if_icmp .le 18, 3) := by decide +kernel
theorem dX2_firstLost_19 : decode cX2_firstLost 19 = .ok (.aload_n 0, 1) := by decide +kernel
theorem dX2_firstLost_20 : decode cX2_firstLost 20 = .ok (.iload_n 1, 1) := by decide +kernel
theorem dX2_firstLost_21 : decode cX2_firstLost 21 = .ok (.invokevirtual 59, 3) := by decide +kernel
theorem dX2_firstLost_24 : decode cX2_firstLost 24 = .ok (.aload_n 0, 1) := by decide +kernel
theorem dX2_firstLost_25 : decode cX2_firstLost 25 = .ok (.iload_n 1, 1) := by decide +kernel
theorem dX2_firstLost_26 : decode cX2_firstLost 26 = .ok (.invokevirtual 42, 3) := by decide +kernel
theorem dX2_firstLost_29 : decode cX2_firstLost 29 = .ok (.if_icmp .eq 5, 3) := by decide +kernel
theorem dX2_firstLost_32 : decode cX2_firstLost 32 = .ok (.iload_n 1, 1) := by decide +kernel
theorem dX2_firstLost_33 : decode cX2_firstLost 33 = .ok (.ireturn, 1) := by decide +kernel
theorem dX2_firstLost_34 : decode cX2_firstLost 34 = .ok (.iinc 1 1, 3) := by decide +kernel
theorem dX2_firstLost_37 : decode cX2_firstLost 37 = .ok (.goto (-35), 3) := by decide +kernel
theorem dX2_firstLost_40 : decode cX2_firstLost 40 = .ok (.iconst (-1), 1) := by decide +kernel
theorem dX2_firstLost_41 : decode cX2_firstLost 41 = .ok (.ireturn, 1) := by decide +kernel
