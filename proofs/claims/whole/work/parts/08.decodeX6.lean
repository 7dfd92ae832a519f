theorem dX6_init_0 : decode cX6_init 0 = .ok (.aload_n 0, 1) := by decide +kernel
theorem dX6_init_1 : decode cX6_init 1 = .ok (.invokespecial 3, 3) := by decide +kernel
theorem dX6_init_4 : decode cX6_init 4 = .ok (.return_, 1) := by decide +kernel
theorem dX6_pack_0 : decode cX6_pack 0 = .ok (.iconst 0, 1) := by decide +kernel
theorem dX6_pack_1 : decode cX6_pack 1 = .ok (.istore_n 3, 1) := by decide +kernel
theorem dX6_pack_2 : decode cX6_pack 2 = .ok (.iload_n 3, 1) := by decide +kernel
theorem dX6_pack_3 : decode cX6_pack 3 = .ok (.aload_n 1, 1) := by decide +kernel
theorem dX6_pack_4 : decode cX6_pack 4 = .ok (.invokevirtual 9, 3) := by decide +kernel
theorem dX6_pack_7 : decode cX6_pack 7 = .ok (.if_icmp .ge 72, 3) := by decide +kernel
theorem dX6_pack_10 : decode cX6_pack 10 = .ok (.aload_n 2, 1) := by decide +kernel
theorem dX6_pack_11 : decode cX6_pack 11 = .ok (.ldc 17, 2) := by decide +kernel
theorem dX6_pack_13 : decode cX6_pack 13 = .ok (.invokevirtual 19, 3) := by decide +kernel
theorem dX6_pack_16 : decode cX6_pack 16 = .ok (.aload_n 2, 1) := by decide +kernel
theorem dX6_pack_17 : decode cX6_pack 17 = .ok (.aload_n 1, 1) := by decide +kernel
theorem dX6_pack_18 : decode cX6_pack 18 = .ok (.iload_n 3, 1) := by decide +kernel
theorem dX6_pack_19 : decode cX6_pack 19 = .ok (.invokevirtual 25, 3) := by decide +kernel
theorem dX6_pack_22 : decode cX6_pack 22 = .ok (.aload_n 2, 1) := by decide +kernel
theorem dX6_pack_23 : decode cX6_pack 23 = .ok (.bipush 10, 2) := by decide +kernel
theorem dX6_pack_25 : decode cX6_pack 25 = .ok (.invokevirtual 29, 3) := by decide +kernel
theorem dX6_pack_28 : decode cX6_pack 28 = .ok (.iconst 0, 1) := by decide +kernel
theorem dX6_pack_29 : decode cX6_pack 29 = .ok (.istore 4, 2) := by decide +kernel
theorem dX6_pack_31 : decode cX6_pack 31 = .ok (.iload 4, 2) := by decide +kernel
theorem dX6_pack_33 : decode cX6_pack 33 = .ok (.aload_n 1, 1) := by decide +kernel
theorem dX6_pack_34 : decode cX6_pack 34 = .ok (.iload_n 3, 1) := by decide +kernel
theorem dX6_pack_35 : decode cX6_pack 35 = .ok (.invokevirtual 33, 3) := by decide +kernel
theorem dX6_pack_38 : decode cX6_pack 38 = .ok (.if_icmp .ge 17, 3) := by decide +kernel
theorem dX6_pack_41 : decode cX6_pack 41 = .ok (.aload_n 1, 1) := by decide +kernel
theorem dX6_pack_42 : decode cX6_pack 42 = .ok (.iload_n 3, 1) := by decide +kernel
theorem dX6_pack_43 : decode cX6_pack 43 = .ok (.iload 4, 2) := by decide +kernel
theorem dX6_pack_45 : decode cX6_pack 45 = .ok (.aload_n 2, 1) := by decide +kernel
theorem dX6_pack_46 : decode cX6_pack 46 = .ok (.invokestatic 37, 3) := by decide +kernel
theorem dX6_pack_49 : decode cX6_pack 49 = .ok (.iinc 4 15, 3) := by decide +kernel
theorem dX6_pack_52 : decode cX6_pack 52 = .ok (.goto (-21), 3) := by decide +kernel
theorem dX6_pack_55 : decode cX6_pack 55 = .ok (.aload_n 2, 1) := by decide +kernel
theorem dX6_pack_56 : decode cX6_pack 56 = .ok (.bipush 96, 2) := by decide +kernel
theorem dX6_pack_58 : decode cX6_pack 58 = .ok (.invokevirtual 29, 3) := by decide +kernel
theorem dX6_pack_61 : decode cX6_pack 61 = .ok (.aload_n 2, 1) := by decide +kernel
theorem dX6_pack_62 : decode cX6_pack 62 = .ok (.bipush 10, 2) := by decide +kernel
theorem dX6_pack_64 : decode cX6_pack 64 = .ok (.invokevirtual 29, 3) := by decide +kernel
theorem dX6_pack_67 : decode cX6_pack 67 = .ok (.aload_n 2, 1) := by decide +kernel
theorem dX6_pack_68 : decode cX6_pack 68 = .ok (.ldc 41, 2) := by decide +kernel
theorem dX6_pack_70 : decode cX6_pack 70 = .ok (.invokevirtual 19, 3) := by decide +kernel
theorem dX6_pack_73 : decode cX6_pack 73 = .ok (.iinc 3 1, 3) := by decide +kernel
theorem dX6_pack_76 : decode cX6_pack 76 = .ok (.goto (-74), 3) := by decide +kernel
theorem dX6_pack_79 : decode cX6_pack 79 = .ok (.return_, 1) := by decide +kernel
theorem dX6_packLine_0 : decode cX6_packLine 0 = .ok (.iload_n 2, 1) := by decide +kernel
theorem dX6_packLine_1 : decode cX6_packLine 1 = .ok (.bipush 15, 2) := by decide +kernel
theorem dX6_packLine_3 : decode cX6_packLine 3 = .ok (.iadd, 1) := by decide +kernel
theorem dX6_packLine_4 : decode cX6_packLine 4 = .ok (.aload_n 0, 1) := by decide +kernel
theorem dX6_packLine_5 : decode cX6_packLine 5 = .ok (.iload_n 1, 1) := by decide +kernel
theorem dX6_packLine_6 : decode cX6_packLine 6 = .ok (.invokevirtual 33, 3) := by decide +kernel
theorem dX6_packLine_9 : decode cX6_packLine 9 = .ok (.invokestatic 43, 3) := by decide +kernel
theorem dX6_packLine_12 : decode cX6_packLine 12 = .ok (.istore 4, 2) := by decide +kernel
theorem dX6_packLine_14 : decode cX6_packLine 14 = .ok (.aload_n 3, 1) := by decide +kernel
theorem dX6_packLine_15 : decode cX6_packLine 15 = .ok (.iload 4, 2) := by decide +kernel
theorem dX6_packLine_17 : decode cX6_packLine 17 = .ok (.iload_n 2, 1) := by decide +kernel
theorem dX6_packLine_18 : decode cX6_packLine 18 = .ok (.isub, 1) := by decide +kernel
theorem dX6_packLine_19 : decode cX6_packLine 19 = .ok (.invokestatic 49, 3) := by decide +kernel
theorem dX6_packLine_22 : decode cX6_packLine 22 = .ok (.invokevirtual 29, 3) := by decide +kernel
theorem dX6_packLine_25 : decode cX6_packLine 25 = .ok (.iload_n 2, 1) := by decide +kernel
theorem dX6_packLine_26 : decode cX6_packLine 26 = .ok (.istore 5, 2) := by decide +kernel
theorem dX6_packLine_28 : decode cX6_packLine 28 = .ok (.iload 5, 2) := by decide +kernel
theorem dX6_packLine_30 : decode cX6_packLine 30 = .ok (.iload 4, 2) := by decide +kernel
theorem dX6_packLine_32 : decode cX6_packLine 32 = .ok (.if_icmp .ge 82, 3) := by decide +kernel
theorem dX6_packLine_35 : decode cX6_packLine 35 = .ok (.aload_n 0, 1) := by decide +kernel
theorem dX6_packLine_36 : decode cX6_packLine 36 = .ok (.iload_n 1, 1) := by decide +kernel
theorem dX6_packLine_37 : decode cX6_packLine 37 = .ok (.iload 5, 2) := by decide +kernel
theorem dX6_packLine_39 : decode cX6_packLine 39 = .ok (.invokestatic 52, 3) := by decide +kernel
theorem dX6_packLine_42 : decode cX6_packLine 42 = .ok (.bipush 16, 2) := by decide +kernel
theorem dX6_packLine_44 : decode cX6_packLine 44 = .ok (.ishl, 1) := by decide +kernel
theorem dX6_packLine_45 : decode cX6_packLine 45 = .ok (.istore 6, 2) := by decide +kernel
theorem dX6_packLine_47 : decode cX6_packLine 47 = .ok (.iload 6, 2) := by decide +kernel
theorem dX6_packLine_49 : decode cX6_packLine 49 = .ok (.aload_n 0, 1) := by decide +kernel
theorem dX6_packLine_50 : decode cX6_packLine 50 = .ok (.iload_n 1, 1) := by decide +kernel
theorem dX6_packLine_51 : decode cX6_packLine 51 = .ok (.iload 5, 2) := by decide +kernel
theorem dX6_packLine_53 : decode cX6_packLine 53 = .ok (.iconst 1, 1) := by decide +kernel
theorem dX6_packLine_54 : decode cX6_packLine 54 = .ok (.iadd, 1) := by decide +kernel
theorem dX6_packLine_55 : decode cX6_packLine 55 = .ok (.invokestatic 52, 3) := by decide +kernel
theorem dX6_packLine_58 : decode cX6_packLine 58 = .ok (.bipush 8, 2) := by decide +kernel
theorem dX6_packLine_60 : decode cX6_packLine 60 = .ok (.ishl, 1) := by decide +kernel
theorem dX6_packLine_61 : decode cX6_packLine 61 = .ok (.ior, 1) := by decide +kernel
theorem dX6_packLine_62 : decode cX6_packLine 62 = .ok (.istore 6, 2) := by decide +kernel
theorem dX6_packLine_64 : decode cX6_packLine 64 = .ok (.iload 6, 2) := by decide +kernel
theorem dX6_packLine_66 : decode cX6_packLine 66 = .ok (.aload_n 0, 1) := by decide +kernel
theorem dX6_packLine_67 : decode cX6_packLine 67 = .ok (.iload_n 1, 1) := by decide +kernel
theorem dX6_packLine_68 : decode cX6_packLine 68 = .ok (.iload 5, 2) := by decide +kernel
theorem dX6_packLine_70 : decode cX6_packLine 70 = .ok (.iconst 2, 1) := by decide +kernel
theorem dX6_packLine_71 : decode cX6_packLine 71 = .ok (.iadd, 1) := by decide +kernel
theorem dX6_packLine_72 : decode cX6_packLine 72 = .ok (.invokestatic 52, 3) := by decide +kernel
theorem dX6_packLine_75 : decode cX6_packLine 75 = .ok (.ior, 1) := by decide +kernel
theorem dX6_packLine_76 : decode cX6_packLine 76 = .ok (.istore 6, 2) := by decide +kernel
theorem dX6_packLine_78 : decode cX6_packLine 78 = .ok (.bipush 18, 2) := by decide +kernel
theorem dX6_packLine_80 : decode cX6_packLine 80 = .ok (.istore 7, 2) := by decide +kernel
theorem dX6_packLine_82 : decode cX6_packLine 82 = .ok (.iload 7, 2) := by decide +kernel
theorem dX6_packLine_84 : decode cX6_packLine 84 = .ok (.ifCond .lt 24, 3) := by decide +kernel
theorem dX6_packLine_87 : decode cX6_packLine 87 = .ok (.aload_n 3, 1) := by decide +kernel
theorem dX6_packLine_88 : decode cX6_packLine 88 = .ok (.iload 6, 2) := by decide +kernel
theorem dX6_packLine_90 : decode cX6_packLine 90 = .ok (.iload 7, 2) := by decide +kernel
theorem dX6_packLine_92 : decode cX6_packLine 92 = .ok (.ishr, 1) := by decide +kernel
theorem dX6_packLine_93 : decode cX6_packLine 93 = .ok (.bipush 63, 2) := by decide +kernel
theorem dX6_packLine_95 : decode cX6_packLine 95 = .ok (.iand, 1) := by decide +kernel
theorem dX6_packLine_96 : decode cX6_packLine 96 = .ok (.invokestatic 49, 3) := by decide +kernel
theorem dX6_packLine_99 : decode cX6_packLine 99 = .ok (.invokevirtual 29, 3) := by decide +kernel
theorem dX6_packLine_102 : decode cX6_packLine 102 = .ok (.iinc 7 (-6), 3) := by decide +kernel
theorem dX6_packLine_105 : decode cX6_packLine 105 = .ok (.goto (-23), 3) := by decide +kernel
theorem dX6_packLine_108 : decode cX6_packLine 108 = .ok (.iinc 5 3, 3) := by decide +kernel
theorem dX6_packLine_111 : decode cX6_packLine 111 = .ok (.goto (-83), 3) := by decide +kernel
theorem dX6_packLine_114 : decode cX6_packLine 114 = .ok (.aload_n 3, 1) := by decide +kernel
theorem dX6_packLine_115 : decode cX6_packLine 115 = .ok (.bipush 10, 2) := by decide +kernel
theorem dX6_packLine_117 : decode cX6_packLine 117 = .ok (.invokevirtual 29, 3) := by decide +kernel
theorem dX6_packLine_120 : decode cX6_packLine 120 = .ok (.return_, 1) := by decide +kernel
theorem dX6_byteOr0_0 : decode cX6_byteOr0 0 = .ok (.iconst 0, 1) := by decide +kernel
theorem dX6_byteOr0_1 : decode cX6_byteOr0 1 = .ok (.aload_n 0, 1) := by decide +kernel
theorem dX6_byteOr0_2 : decode cX6_byteOr0 2 = .ok (.iload_n 1, 1) := by decide +kernel
theorem dX6_byteOr0_3 : decode cX6_byteOr0 3 = .ok (.iload_n 2, 1) := by decide +kernel
theorem dX6_byteOr0_4 : decode cX6_byteOr0 4 = .ok (.invokevirtual 56, 3) := by decide +kernel
theorem dX6_byteOr0_7 : decode cX6_byteOr0 7 = .ok (.invokestatic 59, 3) := by decide +kernel
theorem dX6_byteOr0_10 : decode cX6_byteOr0 10 = .ok (.ireturn, 1) := by decide +kernel
theorem dX6_signFor_0 : decode cX6_signFor 0 = .ok (.iload_n 0, 1) := by decide +kernel
theorem dX6_signFor_1 : decode cX6_signFor 1 = .ok (.ifCond .ne 8, 3) := by decide +kernel
theorem dX6_signFor_4 : decode cX6_signFor 4 = .ok (.bipush 96, 2) := by decide +kernel
theorem dX6_signFor_6 : decode cX6_signFor 6 = .ok (.goto 7, 3) := by decide +kernel
theorem dX6_signFor_9 : decode cX6_signFor 9 = .ok (.bipush 32, 2) := by decide +kernel
theorem dX6_signFor_11 : decode cX6_signFor 11 = .ok (.iload_n 0, 1) := by decide +kernel
theorem dX6_signFor_12 : decode cX6_signFor 12 = .ok (.iadd, 1) := by decide +kernel
theorem dX6_signFor_13 : decode cX6_signFor 13 = .ok (.ireturn, 1) := by decide +kernel
theorem dX6_unpack_0 : decode cX6_unpack 0 = .ok (.iconst 0, 1) := by decide +kernel
theorem dX6_unpack_1 : decode cX6_unpack 1 = .ok (.istore_n 3, 1) := by decide +kernel
theorem dX6_unpack_2 : decode cX6_unpack 2 = .ok (.iload_n 3, 1) := by decide +kernel
theorem dX6_unpack_3 : decode cX6_unpack 3 = .ok (.bipush 126, 2) := by decide +kernel
theorem dX6_unpack_5 : decode cX6_unpack 5 = .ok (.if_icmp .ge 36, 3) := by decide +kernel
theorem dX6_unpack_8 : decode cX6_unpack 8 = .ok (.aload_n 1, 1) := by decide +kernel
theorem dX6_unpack_9 : decode cX6_unpack 9 = .ok (.invokevirtual 62, 3) := by decide +kernel
theorem dX6_unpack_12 : decode cX6_unpack 12 = .ok (.ifCond .eq 29, 3) := by decide +kernel
theorem dX6_unpack_15 : decode cX6_unpack 15 = .ok (.aload_n 2, 1) := by decide +kernel
theorem dX6_unpack_16 : decode cX6_unpack 16 = .ok (.aload_n 1, 1) := by decide +kernel
theorem dX6_unpack_17 : decode cX6_unpack 17 = .ok (.invokevirtual 68, 3) := by decide +kernel
theorem dX6_unpack_20 : decode cX6_unpack 20 = .ok (.invokevirtual 71, 3) := by decide +kernel
theorem dX6_unpack_23 : decode cX6_unpack 23 = .ok (.aload_n 1, 1) := by decide +kernel
theorem dX6_unpack_24 : decode cX6_unpack 24 = .ok (.aload_n 2, 1) := by decide +kernel
theorem dX6_unpack_25 : decode cX6_unpack 25 = .ok (.invokestatic 76, 3) := by decide +kernel
theorem dX6_unpack_28 : decode cX6_unpack 28 = .ok (.ifCond .ne 7, 3) := by decide +kernel
theorem dX6_unpack_31 : decode cX6_unpack 31 = .ok (.aload_n 2, 1) := by decide +kernel
theorem dX6_unpack_32 : decode cX6_unpack 32 = .ok (.invokevirtual 80, 3) := by decide +kernel
theorem dX6_unpack_35 : decode cX6_unpack 35 = .ok (.iinc 3 1, 3) := by decide +kernel
theorem dX6_unpack_38 : decode cX6_unpack 38 = .ok (.goto (-36), 3) := by decide +kernel
theorem dX6_unpack_41 : decode cX6_unpack 41 = .ok (.return_, 1) := by decide +kernel
theorem dX6_unpackEntry_0 : decode cX6_unpackEntry 0 = .ok (.aload_n 0, 1) := by decide +kernel
theorem dX6_unpackEntry_1 : decode cX6_unpackEntry 1 = .ok (.ldc 17, 2) := by decide +kernel
theorem dX6_unpackEntry_3 : decode cX6_unpackEntry 3 = .ok (.invokevirtual 83, 3) := by decide +kernel
theorem dX6_unpackEntry_6 : decode cX6_unpackEntry 6 = .ok (.ifCond .eq 41, 3) := by decide +kernel
theorem dX6_unpackEntry_9 : decode cX6_unpackEntry 9 = .ok (.aload_n 0, 1) := by decide +kernel
theorem dX6_unpackEntry_10 : decode cX6_unpackEntry 10 = .ok (.aload_n 1, 1) := by decide +kernel
theorem dX6_unpackEntry_11 : decode cX6_unpackEntry 11 = .ok (.invokestatic 87, 3) := by decide +kernel
theorem dX6_unpackEntry_14 : decode cX6_unpackEntry 14 = .ok (.ifCond .eq 33, 3) := by decide +kernel
theorem dX6_unpackEntry_17 : decode cX6_unpackEntry 17 = .ok (.aload_n 0, 1) := by decide +kernel
theorem dX6_unpackEntry_18 : decode cX6_unpackEntry 18 = .ok (.aload_n 1, 1) := by decide +kernel
theorem dX6_unpackEntry_19 : decode cX6_unpackEntry 19 = .ok (.invokestatic 90, 3) := by decide +kernel
theorem dX6_unpackEntry_22 : decode cX6_unpackEntry 22 = .ok (.ifCond .eq 25, 3) := by decide +kernel
theorem dX6_unpackEntry_25 : decode cX6_unpackEntry 25 = .ok (.aload_n 0, 1) := by decide +kernel
theorem dX6_unpackEntry_26 : decode cX6_unpackEntry 26 = .ok (.bipush 10, 2) := by decide +kernel
theorem dX6_unpackEntry_28 : decode cX6_unpackEntry 28 = .ok (.invokevirtual 93, 3) := by decide +kernel
theorem dX6_unpackEntry_31 : decode cX6_unpackEntry 31 = .ok (.ifCond .eq 16, 3) := by decide +kernel
theorem dX6_unpackEntry_34 : decode cX6_unpackEntry 34 = .ok (.aload_n 0, 1) := by decide +kernel
theorem dX6_unpackEntry_35 : decode cX6_unpackEntry 35 = .ok (.ldc 41, 2) := by decide +kernel
theorem dX6_unpackEntry_37 : decode cX6_unpackEntry 37 = .ok (.invokevirtual 83, 3) := by decide +kernel
theorem dX6_unpackEntry_40 : decode cX6_unpackEntry 40 = .ok (.ifCond .eq 7, 3) := by decide +kernel
theorem dX6_unpackEntry_43 : decode cX6_unpackEntry 43 = .ok (.iconst 1, 1) := by decide +kernel
theorem dX6_unpackEntry_44 : decode cX6_unpackEntry 44 = .ok (.goto 4, 3) := by decide +kernel
theorem dX6_unpackEntry_47 : decode cX6_unpackEntry 47 = .ok (.iconst 0, 1) := by decide +kernel
theorem dX6_unpackEntry_48 : decode cX6_unpackEntry 48 = .ok (.ireturn, 1) := by decide +kernel
theorem dX6_unpackName_0 : decode cX6_unpackName 0 = .ok (.iconst 0, 1) := by decide +kernel
theorem dX6_unpackName_1 : decode cX6_unpackName 1 = .ok (.istore_n 2, 1) := by decide +kernel
theorem dX6_unpackName_2 : decode cX6_unpackName 2 = .ok (.iload_n 2, 1) := by decide +kernel
theorem dX6_unpackName_3 : decode cX6_unpackName 3 = .ok (.bipush 20, 2) := by decide +kernel
theorem dX6_unpackName_5 : decode cX6_unpackName 5 = .ok (.if_icmp .ge 27, 3) := by decide +kernel
theorem dX6_unpackName_8 : decode cX6_unpackName 8 = .ok (.aload_n 0, 1) := by decide +kernel
theorem dX6_unpackName_9 : decode cX6_unpackName 9 = .ok (.invokevirtual 97, 3) := by decide +kernel
theorem dX6_unpackName_12 : decode cX6_unpackName 12 = .ok (.invokestatic 100, 3) := by decide +kernel
theorem dX6_unpackName_15 : decode cX6_unpackName 15 = .ok (.ifCond .eq 17, 3) := by decide +kernel
theorem dX6_unpackName_18 : decode cX6_unpackName 18 = .ok (.aload_n 1, 1) := by decide +kernel
theorem dX6_unpackName_19 : decode cX6_unpackName 19 = .ok (.aload_n 0, 1) := by decide +kernel
theorem dX6_unpackName_20 : decode cX6_unpackName 20 = .ok (.invokevirtual 103, 3) := by decide +kernel
theorem dX6_unpackName_23 : decode cX6_unpackName 23 = .ok (.invokevirtual 106, 3) := by decide +kernel
theorem dX6_unpackName_26 : decode cX6_unpackName 26 = .ok (.iinc 2 1, 3) := by decide +kernel
theorem dX6_unpackName_29 : decode cX6_unpackName 29 = .ok (.goto (-27), 3) := by decide +kernel
theorem dX6_unpackName_32 : decode cX6_unpackName 32 = .ok (.aload_n 1, 1) := by decide +kernel
theorem dX6_unpackName_33 : decode cX6_unpackName 33 = .ok (.aload_n 1, 1) := by decide +kernel
theorem dX6_unpackName_34 : decode cX6_unpackName 34 = .ok (.invokevirtual 109, 3) := by decide +kernel
theorem dX6_unpackName_37 : decode cX6_unpackName 37 = .ok (.invokevirtual 112, 3) := by decide +kernel
theorem dX6_unpackName_40 : decode cX6_unpackName 40 = .ok (.ifCond .le 12, 3) := by decide +kernel
theorem dX6_unpackName_43 : decode cX6_unpackName 43 = .ok (.aload_n 0, 1) := by decide +kernel
theorem dX6_unpackName_44 : decode cX6_unpackName 44 = .ok (.bipush 10, 2) := by decide +kernel
theorem dX6_unpackName_46 : decode cX6_unpackName 46 = .ok (.invokevirtual 93, 3) := by decide +kernel
theorem dX6_unpackName_49 : decode cX6_unpackName 49 = .ok (.goto 7, 3) := by decide +kernel
theorem dX6_unpackName_52 : decode cX6_unpackName 52 = .ok (.aload_n 0, 1) := by decide +kernel
theorem dX6_unpackName_53 : decode cX6_unpackName 53 = .ok (.invokevirtual 115, 3) := by decide +kernel
theorem dX6_unpackName_56 : decode cX6_unpackName 56 = .ok (.ireturn, 1) := by decide +kernel
theorem dX6_unpackLines_0 : decode cX6_unpackLines 0 = .ok (.iconst 0, 1) := by decide +kernel
theorem dX6_unpackLines_1 : decode cX6_unpackLines 1 = .ok (.istore_n 2, 1) := by decide +kernel
theorem dX6_unpackLines_2 : decode cX6_unpackLines 2 = .ok (.bipush 15, 2) := by decide +kernel
theorem dX6_unpackLines_4 : decode cX6_unpackLines 4 = .ok (.istore_n 3, 1) := by decide +kernel
theorem dX6_unpackLines_5 : decode cX6_unpackLines 5 = .ok (.iconst 0, 1) := by decide +kernel
theorem dX6_unpackLines_6 : decode cX6_unpackLines 6 = .ok (.istore 4, 2) := by decide +kernel
theorem dX6_unpackLines_8 : decode cX6_unpackLines 8 = .ok (.iload 4, 2) := by decide +kernel
theorem dX6_unpackLines_10 : decode cX6_unpackLines 10 = .ok (.bipush 60, 2) := by decide +kernel
theorem dX6_unpackLines_12 : decode cX6_unpackLines 12 = .ok (.if_icmp .gt 99, 3) := by decide +kernel
theorem dX6_unpackLines_15 : decode cX6_unpackLines 15 = .ok (.aload_n 0, 1) := by decide +kernel
theorem dX6_unpackLines_16 : decode cX6_unpackLines 16 = .ok (.invokestatic 118, 3) := by decide +kernel
theorem dX6_unpackLines_19 : decode cX6_unpackLines 19 = .ok (.istore 5, 2) := by decide +kernel
theorem dX6_unpackLines_21 : decode cX6_unpackLines 21 = .ok (.iload 5, 2) := by decide +kernel
theorem dX6_unpackLines_23 : decode cX6_unpackLines 23 = .ok (.iconst (-1), 1) := by decide +kernel
theorem dX6_unpackLines_24 : decode cX6_unpackLines 24 = .ok (.if_icmp .eq 10, 3) := by decide +kernel
theorem dX6_unpackLines_27 : decode cX6_unpackLines 27 = .ok (.iload 5, 2) := by decide +kernel
theorem dX6_unpackLines_29 : decode cX6_unpackLines 29 = .ok (.bipush 15, 2) := by decide +kernel
theorem dX6_unpackLines_31 : decode cX6_unpackLines 31 = .ok (.if_icmp .le 8, 3) := by decide +kernel
theorem dX6_unpackLines_34 : decode cX6_unpackLines 34 = .ok (.aload_n 0, 1) := by decide +kernel
theorem dX6_unpackLines_35 : decode cX6_unpackLines 35 = .ok (.invokevirtual 115, 3) := by decide +kernel
theorem dX6_unpackLines_38 : decode cX6_unpackLines 38 = .ok (.ireturn, 1) := by decide +kernel
theorem dX6_unpackLines_39 : decode cX6_unpackLines 39 = .ok (.iload 5, 2) := by decide +kernel
theorem dX6_unpackLines_41 : decode cX6_unpackLines 41 = .ok (.ifCond .le 23, 3) := by decide +kernel
theorem dX6_unpackLines_44 : decode cX6_unpackLines 44 = .ok (.iload_n 3, 1) := by decide +kernel
theorem dX6_unpackLines_45 : decode cX6_unpackLines 45 = .ok (.bipush 15, 2) := by decide +kernel
theorem dX6_unpackLines_47 : decode cX6_unpackLines 47 = .ok (.if_icmp .lt 12, 3) := by decide +kernel
theorem dX6_unpackLines_50 : decode cX6_unpackLines 50 = .ok (.iload_n 2, 1) := by decide +kernel
theorem dX6_unpackLines_51 : decode cX6_unpackLines 51 = .ok (.iload 5, 2) := by decide +kernel
theorem dX6_unpackLines_53 : decode cX6_unpackLines 53 = .ok (.iadd, 1) := by decide +kernel
theorem dX6_unpackLines_54 : decode cX6_unpackLines 54 = .ok (.bipush 60, 2) := by decide +kernel
theorem dX6_unpackLines_56 : decode cX6_unpackLines 56 = .ok (.if_icmp .le 8, 3) := by decide +kernel
theorem dX6_unpackLines_59 : decode cX6_unpackLines 59 = .ok (.aload_n 0, 1) := by decide +kernel
theorem dX6_unpackLines_60 : decode cX6_unpackLines 60 = .ok (.invokevirtual 115, 3) := by decide +kernel
theorem dX6_unpackLines_63 : decode cX6_unpackLines 63 = .ok (.ireturn, 1) := by decide +kernel
theorem dX6_unpackLines_64 : decode cX6_unpackLines 64 = .ok (.aload_n 0, 1) := by decide +kernel
theorem dX6_unpackLines_65 : decode cX6_unpackLines 65 = .ok (.invokevirtual 103, 3) := by decide +kernel
theorem dX6_unpackLines_68 : decode cX6_unpackLines 68 = .ok (.pop, 1) := by decide +kernel
theorem dX6_unpackLines_69 : decode cX6_unpackLines 69 = .ok (.iload 5, 2) := by decide +kernel
theorem dX6_unpackLines_71 : decode cX6_unpackLines 71 = .ok (.ifCond .ne 5, 3) := by decide +kernel
theorem dX6_unpackLines_74 : decode cX6_unpackLines 74 = .ok (.iconst 1, 1) := by decide +kernel
theorem dX6_unpackLines_75 : decode cX6_unpackLines 75 = .ok (.ireturn, 1) := by decide +kernel
theorem dX6_unpackLines_76 : decode cX6_unpackLines 76 = .ok (.aload_n 0, 1) := by decide +kernel
theorem dX6_unpackLines_77 : decode cX6_unpackLines 77 = .ok (.aload_n 1, 1) := by decide +kernel
theorem dX6_unpackLines_78 : decode cX6_unpackLines 78 = .ok (.iload 5, 2) := by decide +kernel
theorem dX6_unpackLines_80 : decode cX6_unpackLines 80 = .ok (.invokestatic 122, 3) := by decide +kernel
theorem dX6_unpackLines_83 : decode cX6_unpackLines 83 = .ok (.ifCond .eq 12, 3) := by decide +kernel
theorem dX6_unpackLines_86 : decode cX6_unpackLines 86 = .ok (.aload_n 0, 1) := by decide +kernel
theorem dX6_unpackLines_87 : decode cX6_unpackLines 87 = .ok (.bipush 10, 2) := by decide +kernel
theorem dX6_unpackLines_89 : decode cX6_unpackLines 89 = .ok (.invokevirtual 93, 3) := by decide +kernel
theorem dX6_unpackLines_92 : decode cX6_unpackLines 92 = .ok (.ifCond .ne 5, 3) := by decide +kernel
theorem dX6_unpackLines_95 : decode cX6_unpackLines 95 = .ok (.iconst 0, 1) := by decide +kernel
theorem dX6_unpackLines_96 : decode cX6_unpackLines 96 = .ok (.ireturn, 1) := by decide +kernel
theorem dX6_unpackLines_97 : decode cX6_unpackLines 97 = .ok (.iload_n 2, 1) := by decide +kernel
theorem dX6_unpackLines_98 : decode cX6_unpackLines 98 = .ok (.iload 5, 2) := by decide +kernel
theorem dX6_unpackLines_100 : decode cX6_unpackLines 100 = .ok (.iadd, 1) := by decide +kernel
theorem dX6_unpackLines_101 : decode cX6_unpackLines 101 = .ok (.istore_n 2, 1) := by decide +kernel
theorem dX6_unpackLines_102 : decode cX6_unpackLines 102 = .ok (.iload 5, 2) := by decide +kernel
theorem dX6_unpackLines_104 : decode cX6_unpackLines 104 = .ok (.istore_n 3, 1) := by decide +kernel
theorem dX6_unpackLines_105 : decode cX6_unpackLines 105 = .ok (.iinc 4 1, 3) := by decide +kernel
theorem dX6_unpackLines_108 : decode cX6_unpackLines 108 = .ok (.goto (-100), 3) := by decide +kernel
theorem dX6_unpackLines_111 : decode cX6_unpackLines 111 = .ok (.iconst 0, 1) := by decide +kernel
theorem dX6_unpackLines_112 : decode cX6_unpackLines 112 = .ok (.ireturn, 1) := by decide +kernel
theorem dX6_unpackSigns_0 : decode cX6_unpackSigns 0 = .ok (.iconst 0, 1) := by decide +kernel
theorem dX6_unpackSigns_1 : decode cX6_unpackSigns 1 = .ok (.istore_n 3, 1) := by decide +kernel
theorem dX6_unpackSigns_2 : decode cX6_unpackSigns 2 = .ok (.iload_n 3, 1) := by decide +kernel
theorem dX6_unpackSigns_3 : decode cX6_unpackSigns 3 = .ok (.iload_n 2, 1) := by decide +kernel
theorem dX6_unpackSigns_4 : decode cX6_unpackSigns 4 = .ok (.if_icmp .ge 101, 3) := by decide +kernel
theorem dX6_unpackSigns_7 : decode cX6_unpackSigns 7 = .ok (.iconst 0, 1) := by decide +kernel
theorem dX6_unpackSigns_8 : decode cX6_unpackSigns 8 = .ok (.istore 4, 2) := by decide +kernel
theorem dX6_unpackSigns_10 : decode cX6_unpackSigns 10 = .ok (.iconst 0, 1) := by decide +kernel
theorem dX6_unpackSigns_11 : decode cX6_unpackSigns 11 = .ok (.istore 5, 2) := by decide +kernel
theorem dX6_unpackSigns_13 : decode cX6_unpackSigns 13 = .ok (.iload 5, 2) := by decide +kernel
theorem dX6_unpackSigns_15 : decode cX6_unpackSigns 15 = .ok (.iconst 4, 1) := by decide +kernel
theorem dX6_unpackSigns_16 : decode cX6_unpackSigns 16 = .ok (.if_icmp .ge 41, 3) := by decide +kernel
theorem dX6_unpackSigns_19 : decode cX6_unpackSigns 19 = .ok (.aload_n 0, 1) := by decide +kernel
theorem dX6_unpackSigns_20 : decode cX6_unpackSigns 20 = .ok (.invokestatic 118, 3) := by decide +kernel
theorem dX6_unpackSigns_23 : decode cX6_unpackSigns 23 = .ok (.istore 6, 2) := by decide +kernel
theorem dX6_unpackSigns_25 : decode cX6_unpackSigns 25 = .ok (.iload 6, 2) := by decide +kernel
theorem dX6_unpackSigns_27 : decode cX6_unpackSigns 27 = .ok (.iconst (-1), 1) := by decide +kernel
theorem dX6_unpackSigns_28 : decode cX6_unpackSigns 28 = .ok (.if_icmp .ne 8, 3) := by decide +kernel
theorem dX6_unpackSigns_31 : decode cX6_unpackSigns 31 = .ok (.aload_n 0, 1) := by decide +kernel
theorem dX6_unpackSigns_32 : decode cX6_unpackSigns 32 = .ok (.invokevirtual 115, 3) := by decide +kernel
theorem dX6_unpackSigns_35 : decode cX6_unpackSigns 35 = .ok (.ireturn, 1) := by decide +kernel
theorem dX6_unpackSigns_36 : decode cX6_unpackSigns 36 = .ok (.aload_n 0, 1) := by decide +kernel
theorem dX6_unpackSigns_37 : decode cX6_unpackSigns 37 = .ok (.invokevirtual 103, 3) := by decide +kernel
theorem dX6_unpackSigns_40 : decode cX6_unpackSigns 40 = .ok (.pop, 1) := by decide +kernel
theorem dX6_unpackSigns_41 : decode cX6_unpackSigns 41 = .ok (.iload 4, 2) := by decide +kernel
theorem dX6_unpackSigns_43 : decode cX6_unpackSigns 43 = .ok (.bipush 6, 2) := by decide +kernel
theorem dX6_unpackSigns_45 : decode cX6_unpackSigns 45 = .ok (.ishl, 1) := by decide +kernel
theorem dX6_unpackSigns_46 : decode cX6_unpackSigns 46 = .ok (.iload 6, 2) := by decide +kernel
theorem dX6_unpackSigns_48 : decode cX6_unpackSigns 48 = .ok (.ior, 1) := by decide +kernel
theorem dX6_unpackSigns_49 : decode cX6_unpackSigns 49 = .ok (.istore 4, 2) := by decide +kernel
theorem dX6_unpackSigns_51 : decode cX6_unpackSigns 51 = .ok (.iinc 5 1, 3) := by decide +kernel
theorem dX6_unpackSigns_54 : decode cX6_unpackSigns 54 = .ok (.goto (-41), 3) := by decide +kernel
theorem dX6_unpackSigns_57 : decode cX6_unpackSigns 57 = .ok (.iconst 0, 1) := by decide +kernel
theorem dX6_unpackSigns_58 : decode cX6_unpackSigns 58 = .ok (.istore 5, 2) := by decide +kernel
theorem dX6_unpackSigns_60 : decode cX6_unpackSigns 60 = .ok (.iload 5, 2) := by decide +kernel
theorem dX6_unpackSigns_62 : decode cX6_unpackSigns 62 = .ok (.iconst 3, 1) := by decide +kernel
theorem dX6_unpackSigns_63 : decode cX6_unpackSigns 63 = .ok (.if_icmp .ge 36, 3) := by decide +kernel
theorem dX6_unpackSigns_66 : decode cX6_unpackSigns 66 = .ok (.iload_n 3, 1) := by decide +kernel
theorem dX6_unpackSigns_67 : decode cX6_unpackSigns 67 = .ok (.iload 5, 2) := by decide +kernel
theorem dX6_unpackSigns_69 : decode cX6_unpackSigns 69 = .ok (.iadd, 1) := by decide +kernel
theorem dX6_unpackSigns_70 : decode cX6_unpackSigns 70 = .ok (.iload_n 2, 1) := by decide +kernel
theorem dX6_unpackSigns_71 : decode cX6_unpackSigns 71 = .ok (.if_icmp .ge 28, 3) := by decide +kernel
theorem dX6_unpackSigns_74 : decode cX6_unpackSigns 74 = .ok (.aload_n 1, 1) := by decide +kernel
theorem dX6_unpackSigns_75 : decode cX6_unpackSigns 75 = .ok (.iload 4, 2) := by decide +kernel
theorem dX6_unpackSigns_77 : decode cX6_unpackSigns 77 = .ok (.bipush 16, 2) := by decide +kernel
theorem dX6_unpackSigns_79 : decode cX6_unpackSigns 79 = .ok (.bipush 8, 2) := by decide +kernel
theorem dX6_unpackSigns_81 : decode cX6_unpackSigns 81 = .ok (.iload 5, 2) := by decide +kernel
theorem dX6_unpackSigns_83 : decode cX6_unpackSigns 83 = .ok (.imul, 1) := by decide +kernel
theorem dX6_unpackSigns_84 : decode cX6_unpackSigns 84 = .ok (.isub, 1) := by decide +kernel
theorem dX6_unpackSigns_85 : decode cX6_unpackSigns 85 = .ok (.ishr, 1) := by decide +kernel
theorem dX6_unpackSigns_86 : decode cX6_unpackSigns 86 = .ok (.sipush 255, 3) := by decide +kernel
theorem dX6_unpackSigns_89 : decode cX6_unpackSigns 89 = .ok (.iand, 1) := by decide +kernel
theorem dX6_unpackSigns_90 : decode cX6_unpackSigns 90 = .ok (.invokevirtual 126, 3) := by decide +kernel
theorem dX6_unpackSigns_93 : decode cX6_unpackSigns 93 = .ok (.iinc 5 1, 3) := by decide +kernel
theorem dX6_unpackSigns_96 : decode cX6_unpackSigns 96 = .ok (.goto (-36), 3) := by decide +kernel
theorem dX6_unpackSigns_99 : decode cX6_unpackSigns 99 = .ok (.iinc 3 3, 3) := by decide +kernel
theorem dX6_unpackSigns_102 : decode cX6_unpackSigns 102 = .ok (.goto (-100), 3) := by decide +kernel
theorem dX6_unpackSigns_105 : decode cX6_unpackSigns 105 = .ok (.iconst 1, 1) := by decide +kernel
theorem dX6_unpackSigns_106 : decode cX6_unpackSigns 106 = .ok (.ireturn, 1) := by decide +kernel
theorem dX6_signAt_0 : decode cX6_signAt 0 = .ok (.aload_n 0, 1) := by decide +kernel
theorem dX6_signAt_1 : decode cX6_signAt 1 = .ok (.invokevirtual 97, 3) := by decide +kernel
theorem dX6_signAt_4 : decode cX6_signAt 4 = .ok (.istore_n 1, 1) := by decide +kernel
theorem dX6_signAt_5 : decode cX6_signAt 5 = .ok (.iload_n 1, 1) := by decide +kernel
theorem dX6_signAt_6 : decode cX6_signAt 6 = .ok (.bipush 33, 2) := by decide +kernel
theorem dX6_signAt_8 : decode cX6_signAt 8 = .ok (.if_icmp .lt 19, 3) := by decide +kernel
theorem dX6_signAt_11 : decode cX6_signAt 11 = .ok (.iload_n 1, 1) := by decide +kernel
theorem dX6_signAt_12 : decode cX6_signAt 12 = .ok (.bipush 96, 2) := by decide +kernel
theorem dX6_signAt_14 : decode cX6_signAt 14 = .ok (.if_icmp .gt 13, 3) := by decide +kernel
theorem dX6_signAt_17 : decode cX6_signAt 17 = .ok (.iload_n 1, 1) := by decide +kernel
theorem dX6_signAt_18 : decode cX6_signAt 18 = .ok (.bipush 32, 2) := by decide +kernel
theorem dX6_signAt_20 : decode cX6_signAt 20 = .ok (.isub, 1) := by decide +kernel
theorem dX6_signAt_21 : decode cX6_signAt 21 = .ok (.bipush 63, 2) := by decide +kernel
theorem dX6_signAt_23 : decode cX6_signAt 23 = .ok (.iand, 1) := by decide +kernel
theorem dX6_signAt_24 : decode cX6_signAt 24 = .ok (.goto 4, 3) := by decide +kernel
theorem dX6_signAt_27 : decode cX6_signAt 27 = .ok (.iconst (-1), 1) := by decide +kernel
theorem dX6_signAt_28 : decode cX6_signAt 28 = .ok (.ireturn, 1) := by decide +kernel
