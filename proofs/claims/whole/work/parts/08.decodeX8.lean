theorem dX8_init_0 : decode cX8_init 0 = .ok (.aload_n 0, 1) := by decide +kernel
theorem dX8_init_1 : decode cX8_init 1 = .ok (.invokespecial 3, 3) := by decide +kernel
theorem dX8_init_4 : decode cX8_init 4 = .ok (.aload_n 0, 1) := by decide +kernel
theorem dX8_init_5 : decode cX8_init 5 = .ok (.new 9, 3) := by decide +kernel
theorem dX8_init_8 : decode cX8_init 8 = .ok (.dup, 1) := by decide +kernel
theorem dX8_init_9 : decode cX8_init 9 = .ok (.iload_n 1, 1) := by decide +kernel
theorem dX8_init_10 : decode cX8_init 10 = .ok (.iload_n 1, 1) := by decide +kernel
theorem dX8_init_11 : decode cX8_init 11 = .ok (.bipush 20, 2) := by decide +kernel
theorem dX8_init_13 : decode cX8_init 13 = .ok (.imul, 1) := by decide +kernel
theorem dX8_init_14 : decode cX8_init 14 = .ok (.invokespecial 11, 3) := by decide +kernel
theorem dX8_init_17 : decode cX8_init 17 = .ok (.putfield 14, 3) := by decide +kernel
theorem dX8_init_20 : decode cX8_init 20 = .ok (.aload_n 0, 1) := by decide +kernel
theorem dX8_init_21 : decode cX8_init 21 = .ok (.new 9, 3) := by decide +kernel
theorem dX8_init_24 : decode cX8_init 24 = .ok (.dup, 1) := by decide +kernel
theorem dX8_init_25 : decode cX8_init 25 = .ok (.iload_n 1, 1) := by decide +kernel
theorem dX8_init_26 : decode cX8_init 26 = .ok (.iload_n 2, 1) := by decide +kernel
theorem dX8_init_27 : decode cX8_init 27 = .ok (.invokespecial 11, 3) := by decide +kernel
theorem dX8_init_30 : decode cX8_init 30 = .ok (.putfield 20, 3) := by decide +kernel
theorem dX8_init_33 : decode cX8_init 33 = .ok (.return_, 1) := by decide +kernel
theorem dX8_count_0 : decode cX8_count 0 = .ok (.aload_n 0, 1) := by decide +kernel
theorem dX8_count_1 : decode cX8_count 1 = .ok (.getfield 14, 3) := by decide +kernel
theorem dX8_count_4 : decode cX8_count 4 = .ok (.invokevirtual 23, 3) := by decide +kernel
theorem dX8_count_7 : decode cX8_count 7 = .ok (.ireturn, 1) := by decide +kernel
theorem dX8_last_0 : decode cX8_last 0 = .ok (.aload_n 0, 1) := by decide +kernel
theorem dX8_last_1 : decode cX8_last 1 = .ok (.getfield 14, 3) := by decide +kernel
theorem dX8_last_4 : decode cX8_last 4 = .ok (.invokevirtual 23, 3) := by decide +kernel
theorem dX8_last_7 : decode cX8_last 7 = .ok (.iconst 1, 1) := by decide +kernel
theorem dX8_last_8 : decode cX8_last 8 = .ok (.isub, 1) := by decide +kernel
theorem dX8_last_9 : decode cX8_last 9 = .ok (.ireturn, 1) := by decide +kernel
theorem dX8_has_0 : decode cX8_has 0 = .ok (.iload_n 1, 1) := by decide +kernel
theorem dX8_has_1 : decode cX8_has 1 = .ok (.ifCond .lt 18, 3) := by decide +kernel
theorem dX8_has_4 : decode cX8_has 4 = .ok (.iload_n 1, 1) := by decide +kernel
theorem dX8_has_5 : decode cX8_has 5 = .ok (.aload_n 0, 1) := by decide +kernel
theorem dX8_has_6 : decode cX8_has 6 = .ok (.getfield 14, 3) := by decide +kernel
theorem dX8_has_9 : decode cX8_has 9 = .ok (.invokevirtual 23, 3) := by decide +kernel
theorem dX8_has_12 : decode cX8_has 12 = .ok (.if_icmp .ge 7, 3) := by decide +kernel
theorem dX8_has_15 : decode cX8_has 15 = .ok (.iconst 1, 1) := by decide +kernel
theorem dX8_has_16 : decode cX8_has 16 = .ok (.goto 4, 3) := by decide +kernel
theorem dX8_has_19 : decode cX8_has 19 = .ok (.iconst 0, 1) := by decide +kernel
theorem dX8_has_20 : decode cX8_has 20 = .ok (.ireturn, 1) := by decide +kernel
theorem dX8_addThing_0 : decode cX8_addThing 0 = .ok (.aload_n 0, 1) := by decide +kernel
theorem dX8_addThing_1 : decode cX8_addThing 1 = .ok (.getfield 14, 3) := by decide +kernel
theorem dX8_addThing_4 : decode cX8_addThing 4 = .ok (.invokevirtual 27, 3) := by decide +kernel
theorem dX8_addThing_7 : decode cX8_addThing 7 = .ok (.aload_n 0, 1) := by decide +kernel
theorem dX8_addThing_8 : decode cX8_addThing 8 = .ok (.getfield 20, 3) := by decide +kernel
theorem dX8_addThing_11 : decode cX8_addThing 11 = .ok (.invokevirtual 27, 3) := by decide +kernel
theorem dX8_addThing_14 : decode cX8_addThing 14 = .ok (.return_, 1) := by decide +kernel
theorem dX8_dropLast_0 : decode cX8_dropLast 0 = .ok (.aload_n 0, 1) := by decide +kernel
theorem dX8_dropLast_1 : decode cX8_dropLast 1 = .ok (.getfield 14, 3) := by decide +kernel
theorem dX8_dropLast_4 : decode cX8_dropLast 4 = .ok (.invokevirtual 30, 3) := by decide +kernel
theorem dX8_dropLast_7 : decode cX8_dropLast 7 = .ok (.aload_n 0, 1) := by decide +kernel
theorem dX8_dropLast_8 : decode cX8_dropLast 8 = .ok (.getfield 20, 3) := by decide +kernel
theorem dX8_dropLast_11 : decode cX8_dropLast 11 = .ok (.invokevirtual 30, 3) := by decide +kernel
theorem dX8_dropLast_14 : decode cX8_dropLast 14 = .ok (.return_, 1) := by decide +kernel
theorem dX8_restart_0 : decode cX8_restart 0 = .ok (.aload_n 0, 1) := by decide +kernel
theorem dX8_restart_1 : decode cX8_restart 1 = .ok (.getfield 14, 3) := by decide +kernel
theorem dX8_restart_4 : decode cX8_restart 4 = .ok (.invokevirtual 33, 3) := by decide +kernel
theorem dX8_restart_7 : decode cX8_restart 7 = .ok (.aload_n 0, 1) := by decide +kernel
theorem dX8_restart_8 : decode cX8_restart 8 = .ok (.getfield 20, 3) := by decide +kernel
theorem dX8_restart_11 : decode cX8_restart 11 = .ok (.invokevirtual 33, 3) := by decide +kernel
theorem dX8_restart_14 : decode cX8_restart 14 = .ok (.return_, 1) := by decide +kernel
theorem dX8_addNameByte_0 : decode cX8_addNameByte 0 = .ok (.aload_n 0, 1) := by decide +kernel
theorem dX8_addNameByte_1 : decode cX8_addNameByte 1 = .ok (.getfield 14, 3) := by decide +kernel
theorem dX8_addNameByte_4 : decode cX8_addNameByte 4 = .ok (.iload_n 1, 1) := by decide +kernel
theorem dX8_addNameByte_5 : decode cX8_addNameByte 5 = .ok (.invokevirtual 36, 3) := by decide +kernel
theorem dX8_addNameByte_8 : decode cX8_addNameByte 8 = .ok (.return_, 1) := by decide +kernel
theorem dX8_addContentsByte_0 : decode cX8_addContentsByte 0 = .ok (.aload_n 0, 1) := by decide +kernel
theorem dX8_addContentsByte_1 : decode cX8_addContentsByte 1 = .ok (.getfield 20, 3) := by decide +kernel
theorem dX8_addContentsByte_4 : decode cX8_addContentsByte 4 = .ok (.iload_n 1, 1) := by decide +kernel
theorem dX8_addContentsByte_5 : decode cX8_addContentsByte 5 = .ok (.invokevirtual 36, 3) := by decide +kernel
theorem dX8_addContentsByte_8 : decode cX8_addContentsByte 8 = .ok (.return_, 1) := by decide +kernel
theorem dX8_nameLength_0 : decode cX8_nameLength 0 = .ok (.aload_n 0, 1) := by decide +kernel
theorem dX8_nameLength_1 : decode cX8_nameLength 1 = .ok (.getfield 14, 3) := by decide +kernel
theorem dX8_nameLength_4 : decode cX8_nameLength 4 = .ok (.iload_n 1, 1) := by decide +kernel
theorem dX8_nameLength_5 : decode cX8_nameLength 5 = .ok (.invokevirtual 40, 3) := by decide +kernel
theorem dX8_nameLength_8 : decode cX8_nameLength 8 = .ok (.ireturn, 1) := by decide +kernel
theorem dX8_nameByte_0 : decode cX8_nameByte 0 = .ok (.aload_n 0, 1) := by decide +kernel
theorem dX8_nameByte_1 : decode cX8_nameByte 1 = .ok (.getfield 14, 3) := by decide +kernel
theorem dX8_nameByte_4 : decode cX8_nameByte 4 = .ok (.iload_n 1, 1) := by decide +kernel
theorem dX8_nameByte_5 : decode cX8_nameByte 5 = .ok (.iload_n 2, 1) := by decide +kernel
theorem dX8_nameByte_6 : decode cX8_nameByte 6 = .ok (.invokevirtual 44, 3) := by decide +kernel
theorem dX8_nameByte_9 : decode cX8_nameByte 9 = .ok (.ireturn, 1) := by decide +kernel
theorem dX8_contentsLength_0 : decode cX8_contentsLength 0 = .ok (.aload_n 0, 1) := by decide +kernel
theorem dX8_contentsLength_1 : decode cX8_contentsLength 1 = .ok (.getfield 20, 3) := by decide +kernel
theorem dX8_contentsLength_4 : decode cX8_contentsLength 4 = .ok (.aload_n 0, 1) := by decide +kernel
theorem dX8_contentsLength_5 : decode cX8_contentsLength 5 = .ok (.iload_n 1, 1) := by decide +kernel
theorem dX8_contentsLength_6 : decode cX8_contentsLength 6 = .ok (.invokevirtual 48, 3) := by decide +kernel
theorem dX8_contentsLength_9 : decode cX8_contentsLength 9 = .ok (.invokevirtual 40, 3) := by decide +kernel
theorem dX8_contentsLength_12 : decode cX8_contentsLength 12 = .ok (.ireturn, 1) := by decide +kernel
theorem dX8_contentsByte_0 : decode cX8_contentsByte 0 = .ok (.aload_n 0, 1) := by decide +kernel
theorem dX8_contentsByte_1 : decode cX8_contentsByte 1 = .ok (.getfield 20, 3) := by decide +kernel
theorem dX8_contentsByte_4 : decode cX8_contentsByte 4 = .ok (.aload_n 0, 1) := by decide +kernel
theorem dX8_contentsByte_5 : decode cX8_contentsByte 5 = .ok (.iload_n 1, 1) := by decide +kernel
theorem dX8_contentsByte_6 : decode cX8_contentsByte 6 = .ok (.invokevirtual 48, 3) := by decide +kernel
theorem dX8_contentsByte_9 : decode cX8_contentsByte 9 = .ok (.iload_n 2, 1) := by decide +kernel
theorem dX8_contentsByte_10 : decode cX8_contentsByte 10 = .ok (.invokevirtual 44, 3) := by decide +kernel
theorem dX8_contentsByte_13 : decode cX8_contentsByte 13 = .ok (.ireturn, 1) := by decide +kernel
theorem dX8_contentsSum_0 : decode cX8_contentsSum 0 = .ok (.aload_n 0, 1) := by decide +kernel
theorem dX8_contentsSum_1 : decode cX8_contentsSum 1 = .ok (.iload_n 1, 1) := by decide +kernel
theorem dX8_contentsSum_2 : decode cX8_contentsSum 2 = .ok (.invokevirtual 48, 3) := by decide +kernel
theorem dX8_contentsSum_5 : decode cX8_contentsSum 5 = .ok (.istore_n 2, 1) := by decide +kernel
theorem dX8_contentsSum_6 : decode cX8_contentsSum 6 = .ok (.iconst 0, 1) := by decide +kernel
theorem dX8_contentsSum_7 : decode cX8_contentsSum 7 = .ok (.istore_n 3, 1) := by decide +kernel
theorem dX8_contentsSum_8 : decode cX8_contentsSum 8 = .ok (.iconst 0, 1) := by decide +kernel
theorem dX8_contentsSum_9 : decode cX8_contentsSum 9 = .ok (.istore 4, 2) := by decide +kernel
theorem dX8_contentsSum_11 : decode cX8_contentsSum 11 = .ok (.iload 4, 2) := by decide +kernel
theorem dX8_contentsSum_13 : decode cX8_contentsSum 13 = .ok (.aload_n 0, 1) := by decide +kernel
theorem dX8_contentsSum_14 : decode cX8_contentsSum 14 = .ok (.getfield 20, 3) := by decide +kernel
theorem dX8_contentsSum_17 : decode cX8_contentsSum 17 = .ok (.iload_n 2, 1) := by decide +kernel
theorem dX8_contentsSum_18 : decode cX8_contentsSum 18 = .ok (.invokevirtual 40, 3) := by decide +kernel
theorem dX8_contentsSum_21 : decode cX8_contentsSum 21 = .ok (.if_icmp .ge 22, 3) := by decide +kernel
theorem dX8_contentsSum_24 : decode cX8_contentsSum 24 = .ok (.iload_n 3, 1) := by decide +kernel
theorem dX8_contentsSum_25 : decode cX8_contentsSum 25 = .ok (.aload_n 0, 1) := by decide +kernel
theorem dX8_contentsSum_26 : decode cX8_contentsSum 26 = .ok (.getfield 20, 3) := by decide +kernel
theorem dX8_contentsSum_29 : decode cX8_contentsSum 29 = .ok (.iload_n 2, 1) := by decide +kernel
theorem dX8_contentsSum_30 : decode cX8_contentsSum 30 = .ok (.iload 4, 2) := by decide +kernel
theorem dX8_contentsSum_32 : decode cX8_contentsSum 32 = .ok (.invokevirtual 44, 3) := by decide +kernel
theorem dX8_contentsSum_35 : decode cX8_contentsSum 35 = .ok (.iadd, 1) := by decide +kernel
theorem dX8_contentsSum_36 : decode cX8_contentsSum 36 = .ok (.istore_n 3, 1) := by decide +kernel
theorem dX8_contentsSum_37 : decode cX8_contentsSum 37 = .ok (.iinc 4 1, 3) := by decide +kernel
theorem dX8_contentsSum_40 : decode cX8_contentsSum 40 = .ok (.goto (-29), 3) := by decide +kernel
theorem dX8_contentsSum_43 : decode cX8_contentsSum 43 = .ok (.iload_n 3, 1) := by decide +kernel
theorem dX8_contentsSum_44 : decode cX8_contentsSum 44 = .ok (.ldc 51, 2) := by decide +kernel
theorem dX8_contentsSum_46 : decode cX8_contentsSum 46 = .ok (.iand, 1) := by decide +kernel
theorem dX8_contentsSum_47 : decode cX8_contentsSum 47 = .ok (.ireturn, 1) := by decide +kernel
theorem dX8_isNamed_0 : decode cX8_isNamed 0 = .ok (.aload_n 0, 1) := by decide +kernel
theorem dX8_isNamed_1 : decode cX8_isNamed 1 = .ok (.getfield 14, 3) := by decide +kernel
theorem dX8_isNamed_4 : decode cX8_isNamed 4 = .ok (.iload_n 1, 1) := by decide +kernel
theorem dX8_isNamed_5 : decode cX8_isNamed 5 = .ok (.invokevirtual 40, 3) := by decide +kernel
theorem dX8_isNamed_8 : decode cX8_isNamed 8 = .ok (.aload_n 2, 1) := by decide +kernel
theorem dX8_isNamed_9 : decode cX8_isNamed 9 = .ok (.invokevirtual 52, 3) := by decide +kernel
theorem dX8_isNamed_12 : decode cX8_isNamed 12 = .ok (.if_icmp .eq 5, 3) := by decide +kernel
theorem dX8_isNamed_15 : decode cX8_isNamed 15 = .ok (.iconst 0, 1) := by decide +kernel
theorem dX8_isNamed_16 : decode cX8_isNamed 16 = .ok (.ireturn, 1) := by decide +kernel
theorem dX8_isNamed_17 : decode cX8_isNamed 17 = .ok (.iconst 0, 1) := by decide +kernel
theorem dX8_isNamed_18 : decode cX8_isNamed 18 = .ok (.istore_n 3, 1) := by decide +kernel
theorem dX8_isNamed_19 : decode cX8_isNamed 19 = .ok (.iload_n 3, 1) := by decide +kernel
theorem dX8_isNamed_20 : decode cX8_isNamed 20 = .ok (.aload_n 2, 1) := by decide +kernel
theorem dX8_isNamed_21 : decode cX8_isNamed 21 = .ok (.invokevirtual 52, 3) := by decide +kernel
theorem dX8_isNamed_24 : decode cX8_isNamed 24 = .ok (.if_icmp .ge 28, 3) := by decide +kernel
theorem dX8_isNamed_27 : decode cX8_isNamed 27 = .ok (.aload_n 0, 1) := by decide +kernel
theorem dX8_isNamed_28 : decode cX8_isNamed 28 = .ok (.getfield 14, 3) := by decide +kernel
theorem dX8_isNamed_31 : decode cX8_isNamed 31 = .ok (.iload_n 1, 1) := by decide +kernel
theorem dX8_isNamed_32 : decode cX8_isNamed 32 = .ok (.iload_n 3, 1) := by decide +kernel
theorem dX8_isNamed_33 : decode cX8_isNamed 33 = .ok (.invokevirtual 44, 3) := by decide +kernel
theorem dX8_isNamed_36 : decode cX8_isNamed 36 = .ok (.aload_n 2, 1) := by decide +kernel
theorem dX8_isNamed_37 : decode cX8_isNamed 37 = .ok (.iload_n 3, 1) := by decide +kernel
theorem dX8_isNamed_38 : decode cX8_isNamed 38 = .ok (.invokevirtual 56, 3) := by decide +kernel
theorem dX8_isNamed_41 : decode cX8_isNamed 41 = .ok (.if_icmp .eq 5, 3) := by decide +kernel
theorem dX8_isNamed_44 : decode cX8_isNamed 44 = .ok (.iconst 0, 1) := by decide +kernel
theorem dX8_isNamed_45 : decode cX8_isNamed 45 = .ok (.ireturn, 1) := by decide +kernel
theorem dX8_isNamed_46 : decode cX8_isNamed 46 = .ok (.iinc 3 1, 3) := by decide +kernel
theorem dX8_isNamed_49 : decode cX8_isNamed 49 = .ok (.goto (-30), 3) := by decide +kernel
theorem dX8_isNamed_52 : decode cX8_isNamed 52 = .ok (.iconst 1, 1) := by decide +kernel
theorem dX8_isNamed_53 : decode cX8_isNamed 53 = .ok (.ireturn, 1) := by decide +kernel
theorem dX8_hasNameOf_0 : decode cX8_hasNameOf 0 = .ok (.aload_n 0, 1) := by decide +kernel
theorem dX8_hasNameOf_1 : decode cX8_hasNameOf 1 = .ok (.iload_n 2, 1) := by decide +kernel
theorem dX8_hasNameOf_2 : decode cX8_hasNameOf 2 = .ok (.invokevirtual 60, 3) := by decide +kernel
theorem dX8_hasNameOf_5 : decode cX8_hasNameOf 5 = .ok (.aload_n 1, 1) := by decide +kernel
theorem dX8_hasNameOf_6 : decode cX8_hasNameOf 6 = .ok (.iload_n 2, 1) := by decide +kernel
theorem dX8_hasNameOf_7 : decode cX8_hasNameOf 7 = .ok (.invokevirtual 60, 3) := by decide +kernel
theorem dX8_hasNameOf_10 : decode cX8_hasNameOf 10 = .ok (.if_icmp .eq 5, 3) := by decide +kernel
theorem dX8_hasNameOf_13 : decode cX8_hasNameOf 13 = .ok (.iconst 0, 1) := by decide +kernel
theorem dX8_hasNameOf_14 : decode cX8_hasNameOf 14 = .ok (.ireturn, 1) := by decide +kernel
theorem dX8_hasNameOf_15 : decode cX8_hasNameOf 15 = .ok (.iconst 0, 1) := by decide +kernel
theorem dX8_hasNameOf_16 : decode cX8_hasNameOf 16 = .ok (.istore_n 3, 1) := by decide +kernel
theorem dX8_hasNameOf_17 : decode cX8_hasNameOf 17 = .ok (.iload_n 3, 1) := by decide +kernel
theorem dX8_hasNameOf_18 : decode cX8_hasNameOf 18 = .ok (.aload_n 0, 1) := by decide +kernel
theorem dX8_hasNameOf_19 : decode cX8_hasNameOf 19 = .ok (.iload_n 2, 1) := by decide +kernel
theorem dX8_hasNameOf_20 : decode cX8_hasNameOf 20 = .ok (.invokevirtual 60, 3) := by decide +kernel
theorem dX8_hasNameOf_23 : decode cX8_hasNameOf 23 = .ok (.if_icmp .ge 26, 3) := by decide +kernel
theorem dX8_hasNameOf_26 : decode cX8_hasNameOf 26 = .ok (.aload_n 0, 1) := by decide +kernel
theorem dX8_hasNameOf_27 : decode cX8_hasNameOf 27 = .ok (.iload_n 2, 1) := by decide +kernel
theorem dX8_hasNameOf_28 : decode cX8_hasNameOf 28 = .ok (.iload_n 3, 1) := by decide +kernel
theorem dX8_hasNameOf_29 : decode cX8_hasNameOf 29 = .ok (.invokevirtual 63, 3) := by decide +kernel
theorem dX8_hasNameOf_32 : decode cX8_hasNameOf 32 = .ok (.aload_n 1, 1) := by decide +kernel
theorem dX8_hasNameOf_33 : decode cX8_hasNameOf 33 = .ok (.iload_n 2, 1) := by decide +kernel
theorem dX8_hasNameOf_34 : decode cX8_hasNameOf 34 = .ok (.iload_n 3, 1) := by decide +kernel
theorem dX8_hasNameOf_35 : decode cX8_hasNameOf 35 = .ok (.invokevirtual 63, 3) := by decide +kernel
theorem dX8_hasNameOf_38 : decode cX8_hasNameOf 38 = .ok (.if_icmp .eq 5, 3) := by decide +kernel
theorem dX8_hasNameOf_41 : decode cX8_hasNameOf 41 = .ok (.iconst 0, 1) := by decide +kernel
theorem dX8_hasNameOf_42 : decode cX8_hasNameOf 42 = .ok (.ireturn, 1) := by decide +kernel
theorem dX8_hasNameOf_43 : decode cX8_hasNameOf 43 = .ok (.iinc 3 1, 3) := by decide +kernel
theorem dX8_hasNameOf_46 : decode cX8_hasNameOf 46 = .ok (.goto (-29), 3) := by decide +kernel
theorem dX8_hasNameOf_49 : decode cX8_hasNameOf 49 = .ok (.iconst 1, 1) := by decide +kernel
theorem dX8_hasNameOf_50 : decode cX8_hasNameOf 50 = .ok (.ireturn, 1) := by decide +kernel
theorem dX8_hasContentsOf_0 : decode cX8_hasContentsOf 0 = .ok (.aload_n 0, 1) := by decide +kernel
theorem dX8_hasContentsOf_1 : decode cX8_hasContentsOf 1 = .ok (.iload_n 2, 1) := by decide +kernel
theorem dX8_hasContentsOf_2 : decode cX8_hasContentsOf 2 = .ok (.invokevirtual 66, 3) := by decide +kernel
theorem dX8_hasContentsOf_5 : decode cX8_hasContentsOf 5 = .ok (.istore_n 3, 1) := by decide +kernel
theorem dX8_hasContentsOf_6 : decode cX8_hasContentsOf 6 = .ok (.iload_n 3, 1) := by decide +kernel
theorem dX8_hasContentsOf_7 : decode cX8_hasContentsOf 7 = .ok (.aload_n 1, 1) := by decide +kernel
theorem dX8_hasContentsOf_8 : decode cX8_hasContentsOf 8 = .ok (.iload_n 2, 1) := by decide +kernel
theorem dX8_hasContentsOf_9 : decode cX8_hasContentsOf 9 = .ok (.invokevirtual 66, 3) := by decide +kernel
theorem dX8_hasContentsOf_12 : decode cX8_hasContentsOf 12 = .ok (.if_icmp .eq 5, 3) := by decide +kernel
theorem dX8_hasContentsOf_15 : decode cX8_hasContentsOf 15 = .ok (.iconst 0, 1) := by decide +kernel
theorem dX8_hasContentsOf_16 : decode cX8_hasContentsOf 16 = .ok (.ireturn, 1) := by decide +kernel
theorem dX8_hasContentsOf_17 : decode cX8_hasContentsOf 17 = .ok (.iconst 0, 1) := by decide +kernel
theorem dX8_hasContentsOf_18 : decode cX8_hasContentsOf 18 = .ok (.istore 4, 2) := by decide +kernel
theorem dX8_hasContentsOf_20 : decode cX8_hasContentsOf 20 = .ok (.iload 4, 2) := by decide +kernel
theorem dX8_hasContentsOf_22 : decode cX8_hasContentsOf 22 = .ok (.iload_n 3, 1) := by decide +kernel
theorem dX8_hasContentsOf_23 : decode cX8_hasContentsOf 23 = .ok (.if_icmp .ge 28, 3) := by decide +kernel
theorem dX8_hasContentsOf_26 : decode cX8_hasContentsOf 26 = .ok (.aload_n 0, 1) := by decide +kernel
theorem dX8_hasContentsOf_27 : decode cX8_hasContentsOf 27 = .ok (.iload_n 2, 1) := by decide +kernel
theorem dX8_hasContentsOf_28 : decode cX8_hasContentsOf 28 = .ok (.iload 4, 2) := by decide +kernel
theorem dX8_hasContentsOf_30 : decode cX8_hasContentsOf 30 = .ok (.invokevirtual 69, 3) := by decide +kernel
theorem dX8_hasContentsOf_33 : decode cX8_hasContentsOf 33 = .ok (.aload_n 1, 1) := by decide +kernel
theorem dX8_hasContentsOf_34 : decode cX8_hasContentsOf 34 = .ok (.iload_n 2, 1) := by decide +kernel
theorem dX8_hasContentsOf_35 : decode cX8_hasContentsOf 35 = .ok (.iload 4, 2) := by decide +kernel
theorem dX8_hasContentsOf_37 : decode cX8_hasContentsOf 37 = .ok (.invokevirtual 69, 3) := by decide +kernel
theorem dX8_hasContentsOf_40 : decode cX8_hasContentsOf 40 = .ok (.if_icmp .eq 5, 3) := by decide +kernel
theorem dX8_hasContentsOf_43 : decode cX8_hasContentsOf 43 = .ok (.iconst 0, 1) := by decide +kernel
theorem dX8_hasContentsOf_44 : decode cX8_hasContentsOf 44 = .ok (.ireturn, 1) := by decide +kernel
theorem dX8_hasContentsOf_45 : decode cX8_hasContentsOf 45 = .ok (.iinc 4 1, 3) := by decide +kernel
theorem dX8_hasContentsOf_48 : decode cX8_hasContentsOf 48 = .ok (.goto (-28), 3) := by decide +kernel
theorem dX8_hasContentsOf_51 : decode cX8_hasContentsOf 51 = .ok (.iconst 1, 1) := by decide +kernel
theorem dX8_hasContentsOf_52 : decode cX8_hasContentsOf 52 = .ok (.ireturn, 1) := by decide +kernel
