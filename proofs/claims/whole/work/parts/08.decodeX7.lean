theorem dX7_init_0 : decode cX7_init 0 = .ok (.aload_n 0, 1) := by decide +kernel
theorem dX7_init_1 : decode cX7_init 1 = .ok (.invokespecial 3, 3) := by decide +kernel
theorem dX7_init_4 : decode cX7_init 4 = .ok (.return_, 1) := by decide +kernel
theorem dX7_pack_0 : decode cX7_pack 0 = .ok (.iconst 0, 1) := by decide +kernel
theorem dX7_pack_1 : decode cX7_pack 1 = .ok (.istore_n 3, 1) := by decide +kernel
theorem dX7_pack_2 : decode cX7_pack 2 = .ok (.iload_n 3, 1) := by decide +kernel
theorem dX7_pack_3 : decode cX7_pack 3 = .ok (.aload_n 1, 1) := by decide +kernel
theorem dX7_pack_4 : decode cX7_pack 4 = .ok (.invokevirtual 9, 3) := by decide +kernel
theorem dX7_pack_7 : decode cX7_pack 7 = .ok (.if_icmp .ge 15, 3) := by decide +kernel
theorem dX7_pack_10 : decode cX7_pack 10 = .ok (.aload_n 1, 1) := by decide +kernel
theorem dX7_pack_11 : decode cX7_pack 11 = .ok (.iload_n 3, 1) := by decide +kernel
theorem dX7_pack_12 : decode cX7_pack 12 = .ok (.aload_n 2, 1) := by decide +kernel
theorem dX7_pack_13 : decode cX7_pack 13 = .ok (.invokestatic 15, 3) := by decide +kernel
theorem dX7_pack_16 : decode cX7_pack 16 = .ok (.iinc 3 1, 3) := by decide +kernel
theorem dX7_pack_19 : decode cX7_pack 19 = .ok (.goto (-17), 3) := by decide +kernel
theorem dX7_pack_22 : decode cX7_pack 22 = .ok (.iconst 0, 1) := by decide +kernel
theorem dX7_pack_23 : decode cX7_pack 23 = .ok (.iconst 1, 1) := by decide +kernel
theorem dX7_pack_24 : decode cX7_pack 24 = .ok (.ldc 21, 2) := by decide +kernel
theorem dX7_pack_26 : decode cX7_pack 26 = .ok (.invokevirtual 23, 3) := by decide +kernel
theorem dX7_pack_29 : decode cX7_pack 29 = .ok (.iconst 0, 1) := by decide +kernel
theorem dX7_pack_30 : decode cX7_pack 30 = .ok (.iconst 0, 1) := by decide +kernel
theorem dX7_pack_31 : decode cX7_pack 31 = .ok (.aload_n 2, 1) := by decide +kernel
theorem dX7_pack_32 : decode cX7_pack 32 = .ok (.invokestatic 28, 3) := by decide +kernel
theorem dX7_pack_35 : decode cX7_pack 35 = .ok (.aload_n 2, 1) := by decide +kernel
theorem dX7_pack_36 : decode cX7_pack 36 = .ok (.ldc 21, 2) := by decide +kernel
theorem dX7_pack_38 : decode cX7_pack 38 = .ok (.invokevirtual 32, 3) := by decide +kernel
theorem dX7_pack_41 : decode cX7_pack 41 = .ok (.ldc 21, 2) := by decide +kernel
theorem dX7_pack_43 : decode cX7_pack 43 = .ok (.invokevirtual 23, 3) := by decide +kernel
theorem dX7_pack_46 : decode cX7_pack 46 = .ok (.aload_n 2, 1) := by decide +kernel
theorem dX7_pack_47 : decode cX7_pack 47 = .ok (.invokestatic 38, 3) := by decide +kernel
theorem dX7_pack_50 : decode cX7_pack 50 = .ok (.return_, 1) := by decide +kernel
theorem dX7_packFile_0 : decode cX7_packFile 0 = .ok (.aload_n 0, 1) := by decide +kernel
theorem dX7_packFile_1 : decode cX7_packFile 1 = .ok (.iload_n 1, 1) := by decide +kernel
theorem dX7_packFile_2 : decode cX7_packFile 2 = .ok (.invokevirtual 42, 3) := by decide +kernel
theorem dX7_packFile_5 : decode cX7_packFile 5 = .ok (.istore_n 3, 1) := by decide +kernel
theorem dX7_packFile_6 : decode cX7_packFile 6 = .ok (.iload_n 3, 1) := by decide +kernel
theorem dX7_packFile_7 : decode cX7_packFile 7 = .ok (.ifCond .eq 11, 3) := by decide +kernel
theorem dX7_packFile_10 : decode cX7_packFile 10 = .ok (.aload_n 0, 1) := by decide +kernel
theorem dX7_packFile_11 : decode cX7_packFile 11 = .ok (.iload_n 1, 1) := by decide +kernel
theorem dX7_packFile_12 : decode cX7_packFile 12 = .ok (.invokevirtual 46, 3) := by decide +kernel
theorem dX7_packFile_15 : decode cX7_packFile 15 = .ok (.goto 4, 3) := by decide +kernel
theorem dX7_packFile_18 : decode cX7_packFile 18 = .ok (.iconst 0, 1) := by decide +kernel
theorem dX7_packFile_19 : decode cX7_packFile 19 = .ok (.istore 4, 2) := by decide +kernel
theorem dX7_packFile_21 : decode cX7_packFile 21 = .ok (.iload_n 3, 1) := by decide +kernel
theorem dX7_packFile_22 : decode cX7_packFile 22 = .ok (.ifCond .eq 11, 3) := by decide +kernel
theorem dX7_packFile_25 : decode cX7_packFile 25 = .ok (.aload_n 0, 1) := by decide +kernel
theorem dX7_packFile_26 : decode cX7_packFile 26 = .ok (.iload_n 1, 1) := by decide +kernel
theorem dX7_packFile_27 : decode cX7_packFile 27 = .ok (.invokevirtual 50, 3) := by decide +kernel
theorem dX7_packFile_30 : decode cX7_packFile 30 = .ok (.goto 4, 3) := by decide +kernel
theorem dX7_packFile_33 : decode cX7_packFile 33 = .ok (.iconst 0, 1) := by decide +kernel
theorem dX7_packFile_34 : decode cX7_packFile 34 = .ok (.istore 5, 2) := by decide +kernel
theorem dX7_packFile_36 : decode cX7_packFile 36 = .ok (.aload_n 0, 1) := by decide +kernel
theorem dX7_packFile_37 : decode cX7_packFile 37 = .ok (.iload_n 1, 1) := by decide +kernel
theorem dX7_packFile_38 : decode cX7_packFile 38 = .ok (.invokevirtual 53, 3) := by decide +kernel
theorem dX7_packFile_41 : decode cX7_packFile 41 = .ok (.aload_n 0, 1) := by decide +kernel
theorem dX7_packFile_42 : decode cX7_packFile 42 = .ok (.iload_n 1, 1) := by decide +kernel
theorem dX7_packFile_43 : decode cX7_packFile 43 = .ok (.invokevirtual 56, 3) := by decide +kernel
theorem dX7_packFile_46 : decode cX7_packFile 46 = .ok (.aload_n 0, 1) := by decide +kernel
theorem dX7_packFile_47 : decode cX7_packFile 47 = .ok (.iload_n 1, 1) := by decide +kernel
theorem dX7_packFile_48 : decode cX7_packFile 48 = .ok (.invokevirtual 59, 3) := by decide +kernel
theorem dX7_packFile_51 : decode cX7_packFile 51 = .ok (.iload 4, 2) := by decide +kernel
theorem dX7_packFile_53 : decode cX7_packFile 53 = .ok (.iload 5, 2) := by decide +kernel
theorem dX7_packFile_55 : decode cX7_packFile 55 = .ok (.aload_n 2, 1) := by decide +kernel
theorem dX7_packFile_56 : decode cX7_packFile 56 = .ok (.invokestatic 28, 3) := by decide +kernel
theorem dX7_packFile_59 : decode cX7_packFile 59 = .ok (.aload_n 2, 1) := by decide +kernel
theorem dX7_packFile_60 : decode cX7_packFile 60 = .ok (.aload_n 0, 1) := by decide +kernel
theorem dX7_packFile_61 : decode cX7_packFile 61 = .ok (.iload_n 1, 1) := by decide +kernel
theorem dX7_packFile_62 : decode cX7_packFile 62 = .ok (.invokevirtual 62, 3) := by decide +kernel
theorem dX7_packFile_65 : decode cX7_packFile 65 = .ok (.aload_n 0, 1) := by decide +kernel
theorem dX7_packFile_66 : decode cX7_packFile 66 = .ok (.iload_n 1, 1) := by decide +kernel
theorem dX7_packFile_67 : decode cX7_packFile 67 = .ok (.invokevirtual 59, 3) := by decide +kernel
theorem dX7_packFile_70 : decode cX7_packFile 70 = .ok (.aload_n 2, 1) := by decide +kernel
theorem dX7_packFile_71 : decode cX7_packFile 71 = .ok (.invokestatic 38, 3) := by decide +kernel
theorem dX7_packFile_74 : decode cX7_packFile 74 = .ok (.iload_n 3, 1) := by decide +kernel
theorem dX7_packFile_75 : decode cX7_packFile 75 = .ok (.ifCond .eq 9, 3) := by decide +kernel
theorem dX7_packFile_78 : decode cX7_packFile 78 = .ok (.aload_n 2, 1) := by decide +kernel
theorem dX7_packFile_79 : decode cX7_packFile 79 = .ok (.aload_n 0, 1) := by decide +kernel
theorem dX7_packFile_80 : decode cX7_packFile 80 = .ok (.iload_n 1, 1) := by decide +kernel
theorem dX7_packFile_81 : decode cX7_packFile 81 = .ok (.invokevirtual 66, 3) := by decide +kernel
theorem dX7_packFile_84 : decode cX7_packFile 84 = .ok (.iload 4, 2) := by decide +kernel
theorem dX7_packFile_86 : decode cX7_packFile 86 = .ok (.invokestatic 69, 3) := by decide +kernel
theorem dX7_packFile_89 : decode cX7_packFile 89 = .ok (.ifCond .eq 8, 3) := by decide +kernel
theorem dX7_packFile_92 : decode cX7_packFile 92 = .ok (.aload_n 2, 1) := by decide +kernel
theorem dX7_packFile_93 : decode cX7_packFile 93 = .ok (.iconst 0, 1) := by decide +kernel
theorem dX7_packFile_94 : decode cX7_packFile 94 = .ok (.invokevirtual 72, 3) := by decide +kernel
theorem dX7_packFile_97 : decode cX7_packFile 97 = .ok (.return_, 1) := by decide +kernel
theorem dX7_packHead_0 : decode cX7_packHead 0 = .ok (.aload 5, 2) := by decide +kernel
theorem dX7_packHead_2 : decode cX7_packHead 2 = .ok (.sipush 199, 3) := by decide +kernel
theorem dX7_packHead_5 : decode cX7_packHead 5 = .ok (.invokevirtual 72, 3) := by decide +kernel
theorem dX7_packHead_8 : decode cX7_packHead 8 = .ok (.aload 5, 2) := by decide +kernel
theorem dX7_packHead_10 : decode cX7_packHead 10 = .ok (.bipush 113, 2) := by decide +kernel
theorem dX7_packHead_12 : decode cX7_packHead 12 = .ok (.invokevirtual 72, 3) := by decide +kernel
theorem dX7_packHead_15 : decode cX7_packHead 15 = .ok (.aload 5, 2) := by decide +kernel
theorem dX7_packHead_17 : decode cX7_packHead 17 = .ok (.iload_n 0, 1) := by decide +kernel
theorem dX7_packHead_18 : decode cX7_packHead 18 = .ok (.invokevirtual 76, 3) := by decide +kernel
theorem dX7_packHead_21 : decode cX7_packHead 21 = .ok (.aload 5, 2) := by decide +kernel
theorem dX7_packHead_23 : decode cX7_packHead 23 = .ok (.iload_n 1, 1) := by decide +kernel
theorem dX7_packHead_24 : decode cX7_packHead 24 = .ok (.invokevirtual 72, 3) := by decide +kernel
theorem dX7_packHead_27 : decode cX7_packHead 27 = .ok (.aload 5, 2) := by decide +kernel
theorem dX7_packHead_29 : decode cX7_packHead 29 = .ok (.iload_n 2, 1) := by decide +kernel
theorem dX7_packHead_30 : decode cX7_packHead 30 = .ok (.iconst 1, 1) := by decide +kernel
theorem dX7_packHead_31 : decode cX7_packHead 31 = .ok (.iadd, 1) := by decide +kernel
theorem dX7_packHead_32 : decode cX7_packHead 32 = .ok (.invokevirtual 72, 3) := by decide +kernel
theorem dX7_packHead_35 : decode cX7_packHead 35 = .ok (.aload 5, 2) := by decide +kernel
theorem dX7_packHead_37 : decode cX7_packHead 37 = .ok (.iload_n 3, 1) := by decide +kernel
theorem dX7_packHead_38 : decode cX7_packHead 38 = .ok (.invokevirtual 76, 3) := by decide +kernel
theorem dX7_packHead_41 : decode cX7_packHead 41 = .ok (.aload 5, 2) := by decide +kernel
theorem dX7_packHead_43 : decode cX7_packHead 43 = .ok (.iload 4, 2) := by decide +kernel
theorem dX7_packHead_45 : decode cX7_packHead 45 = .ok (.invokevirtual 76, 3) := by decide +kernel
theorem dX7_packHead_48 : decode cX7_packHead 48 = .ok (.return_, 1) := by decide +kernel
theorem dX7_packNameEnd_0 : decode cX7_packNameEnd 0 = .ok (.aload_n 1, 1) := by decide +kernel
theorem dX7_packNameEnd_1 : decode cX7_packNameEnd 1 = .ok (.iconst 0, 1) := by decide +kernel
theorem dX7_packNameEnd_2 : decode cX7_packNameEnd 2 = .ok (.invokevirtual 72, 3) := by decide +kernel
theorem dX7_packNameEnd_5 : decode cX7_packNameEnd 5 = .ok (.iload_n 0, 1) := by decide +kernel
theorem dX7_packNameEnd_6 : decode cX7_packNameEnd 6 = .ok (.iconst 1, 1) := by decide +kernel
theorem dX7_packNameEnd_7 : decode cX7_packNameEnd 7 = .ok (.iadd, 1) := by decide +kernel
theorem dX7_packNameEnd_8 : decode cX7_packNameEnd 8 = .ok (.invokestatic 69, 3) := by decide +kernel
theorem dX7_packNameEnd_11 : decode cX7_packNameEnd 11 = .ok (.ifCond .eq 8, 3) := by decide +kernel
theorem dX7_packNameEnd_14 : decode cX7_packNameEnd 14 = .ok (.aload_n 1, 1) := by decide +kernel
theorem dX7_packNameEnd_15 : decode cX7_packNameEnd 15 = .ok (.iconst 0, 1) := by decide +kernel
theorem dX7_packNameEnd_16 : decode cX7_packNameEnd 16 = .ok (.invokevirtual 72, 3) := by decide +kernel
theorem dX7_packNameEnd_19 : decode cX7_packNameEnd 19 = .ok (.return_, 1) := by decide +kernel
theorem dX7_unpack_0 : decode cX7_unpack 0 = .ok (.iconst 1, 1) := by decide +kernel
theorem dX7_unpack_1 : decode cX7_unpack 1 = .ok (.istore_n 3, 1) := by decide +kernel
theorem dX7_unpack_2 : decode cX7_unpack 2 = .ok (.iconst 0, 1) := by decide +kernel
theorem dX7_unpack_3 : decode cX7_unpack 3 = .ok (.istore 4, 2) := by decide +kernel
theorem dX7_unpack_5 : decode cX7_unpack 5 = .ok (.iload 4, 2) := by decide +kernel
theorem dX7_unpack_7 : decode cX7_unpack 7 = .ok (.bipush 126, 2) := by decide +kernel
theorem dX7_unpack_9 : decode cX7_unpack 9 = .ok (.if_icmp .ge 56, 3) := by decide +kernel
theorem dX7_unpack_12 : decode cX7_unpack 12 = .ok (.iload_n 3, 1) := by decide +kernel
theorem dX7_unpack_13 : decode cX7_unpack 13 = .ok (.ifCond .eq 52, 3) := by decide +kernel
theorem dX7_unpack_16 : decode cX7_unpack 16 = .ok (.aload_n 2, 1) := by decide +kernel
theorem dX7_unpack_17 : decode cX7_unpack 17 = .ok (.aload_n 1, 1) := by decide +kernel
theorem dX7_unpack_18 : decode cX7_unpack 18 = .ok (.invokevirtual 79, 3) := by decide +kernel
theorem dX7_unpack_21 : decode cX7_unpack 21 = .ok (.invokevirtual 84, 3) := by decide +kernel
theorem dX7_unpack_24 : decode cX7_unpack 24 = .ok (.aload_n 1, 1) := by decide +kernel
theorem dX7_unpack_25 : decode cX7_unpack 25 = .ok (.aload_n 2, 1) := by decide +kernel
theorem dX7_unpack_26 : decode cX7_unpack 26 = .ok (.invokestatic 89, 3) := by decide +kernel
theorem dX7_unpack_29 : decode cX7_unpack 29 = .ok (.ifCond .eq 20, 3) := by decide +kernel
theorem dX7_unpack_32 : decode cX7_unpack 32 = .ok (.aload_n 2, 1) := by decide +kernel
theorem dX7_unpack_33 : decode cX7_unpack 33 = .ok (.aload_n 2, 1) := by decide +kernel
theorem dX7_unpack_34 : decode cX7_unpack 34 = .ok (.invokevirtual 93, 3) := by decide +kernel
theorem dX7_unpack_37 : decode cX7_unpack 37 = .ok (.ldc 21, 2) := by decide +kernel
theorem dX7_unpack_39 : decode cX7_unpack 39 = .ok (.invokevirtual 96, 3) := by decide +kernel
theorem dX7_unpack_42 : decode cX7_unpack 42 = .ok (.ifCond .ne 7, 3) := by decide +kernel
theorem dX7_unpack_45 : decode cX7_unpack 45 = .ok (.iconst 1, 1) := by decide +kernel
theorem dX7_unpack_46 : decode cX7_unpack 46 = .ok (.goto 4, 3) := by decide +kernel
theorem dX7_unpack_49 : decode cX7_unpack 49 = .ok (.iconst 0, 1) := by decide +kernel
theorem dX7_unpack_50 : decode cX7_unpack 50 = .ok (.istore_n 3, 1) := by decide +kernel
theorem dX7_unpack_51 : decode cX7_unpack 51 = .ok (.iload_n 3, 1) := by decide +kernel
theorem dX7_unpack_52 : decode cX7_unpack 52 = .ok (.ifCond .ne 7, 3) := by decide +kernel
theorem dX7_unpack_55 : decode cX7_unpack 55 = .ok (.aload_n 2, 1) := by decide +kernel
theorem dX7_unpack_56 : decode cX7_unpack 56 = .ok (.invokevirtual 100, 3) := by decide +kernel
theorem dX7_unpack_59 : decode cX7_unpack 59 = .ok (.iinc 4 1, 3) := by decide +kernel
theorem dX7_unpack_62 : decode cX7_unpack 62 = .ok (.goto (-57), 3) := by decide +kernel
theorem dX7_unpack_65 : decode cX7_unpack 65 = .ok (.aload_n 2, 1) := by decide +kernel
theorem dX7_unpack_66 : decode cX7_unpack 66 = .ok (.invokevirtual 103, 3) := by decide +kernel
theorem dX7_unpack_69 : decode cX7_unpack 69 = .ok (.aload_n 1, 1) := by decide +kernel
theorem dX7_unpack_70 : decode cX7_unpack 70 = .ok (.invokevirtual 106, 3) := by decide +kernel
theorem dX7_unpack_73 : decode cX7_unpack 73 = .ok (.ifCond .ne 15, 3) := by decide +kernel
theorem dX7_unpack_76 : decode cX7_unpack 76 = .ok (.aload_n 1, 1) := by decide +kernel
theorem dX7_unpack_77 : decode cX7_unpack 77 = .ok (.invokestatic 110, 3) := by decide +kernel
theorem dX7_unpack_80 : decode cX7_unpack 80 = .ok (.ifCond .eq 8, 3) := by decide +kernel
theorem dX7_unpack_83 : decode cX7_unpack 83 = .ok (.aload_n 1, 1) := by decide +kernel
theorem dX7_unpack_84 : decode cX7_unpack 84 = .ok (.aload_n 2, 1) := by decide +kernel
theorem dX7_unpack_85 : decode cX7_unpack 85 = .ok (.invokestatic 114, 3) := by decide +kernel
theorem dX7_unpack_88 : decode cX7_unpack 88 = .ok (.return_, 1) := by decide +kernel
theorem dX7_unpackEntry_0 : decode cX7_unpackEntry 0 = .ok (.aload_n 0, 1) := by decide +kernel
theorem dX7_unpackEntry_1 : decode cX7_unpackEntry 1 = .ok (.invokevirtual 79, 3) := by decide +kernel
theorem dX7_unpackEntry_4 : decode cX7_unpackEntry 4 = .ok (.istore_n 2, 1) := by decide +kernel
theorem dX7_unpackEntry_5 : decode cX7_unpackEntry 5 = .ok (.aload_n 0, 1) := by decide +kernel
theorem dX7_unpackEntry_6 : decode cX7_unpackEntry 6 = .ok (.sipush 199, 3) := by decide +kernel
theorem dX7_unpackEntry_9 : decode cX7_unpackEntry 9 = .ok (.invokevirtual 118, 3) := by decide +kernel
theorem dX7_unpackEntry_12 : decode cX7_unpackEntry 12 = .ok (.ifCond .eq 21, 3) := by decide +kernel
theorem dX7_unpackEntry_15 : decode cX7_unpackEntry 15 = .ok (.aload_n 0, 1) := by decide +kernel
theorem dX7_unpackEntry_16 : decode cX7_unpackEntry 16 = .ok (.bipush 113, 2) := by decide +kernel
theorem dX7_unpackEntry_18 : decode cX7_unpackEntry 18 = .ok (.invokevirtual 118, 3) := by decide +kernel
theorem dX7_unpackEntry_21 : decode cX7_unpackEntry 21 = .ok (.ifCond .eq 12, 3) := by decide +kernel
theorem dX7_unpackEntry_24 : decode cX7_unpackEntry 24 = .ok (.aload_n 0, 1) := by decide +kernel
theorem dX7_unpackEntry_25 : decode cX7_unpackEntry 25 = .ok (.bipush 8, 2) := by decide +kernel
theorem dX7_unpackEntry_27 : decode cX7_unpackEntry 27 = .ok (.invokevirtual 121, 3) := by decide +kernel
theorem dX7_unpackEntry_30 : decode cX7_unpackEntry 30 = .ok (.ifCond .ne 5, 3) := by decide +kernel
theorem dX7_unpackEntry_33 : decode cX7_unpackEntry 33 = .ok (.iconst 0, 1) := by decide +kernel
theorem dX7_unpackEntry_34 : decode cX7_unpackEntry 34 = .ok (.ireturn, 1) := by decide +kernel
theorem dX7_unpackEntry_35 : decode cX7_unpackEntry 35 = .ok (.aload_n 0, 1) := by decide +kernel
theorem dX7_unpackEntry_36 : decode cX7_unpackEntry 36 = .ok (.invokevirtual 124, 3) := by decide +kernel
theorem dX7_unpackEntry_39 : decode cX7_unpackEntry 39 = .ok (.istore_n 3, 1) := by decide +kernel
theorem dX7_unpackEntry_40 : decode cX7_unpackEntry 40 = .ok (.aload_n 0, 1) := by decide +kernel
theorem dX7_unpackEntry_41 : decode cX7_unpackEntry 41 = .ok (.invokevirtual 127, 3) := by decide +kernel
theorem dX7_unpackEntry_44 : decode cX7_unpackEntry 44 = .ok (.istore 4, 2) := by decide +kernel
theorem dX7_unpackEntry_46 : decode cX7_unpackEntry 46 = .ok (.aload_n 0, 1) := by decide +kernel
theorem dX7_unpackEntry_47 : decode cX7_unpackEntry 47 = .ok (.invokevirtual 127, 3) := by decide +kernel
theorem dX7_unpackEntry_50 : decode cX7_unpackEntry 50 = .ok (.i2b, 1) := by decide +kernel
theorem dX7_unpackEntry_51 : decode cX7_unpackEntry 51 = .ok (.istore 5, 2) := by decide +kernel
theorem dX7_unpackEntry_53 : decode cX7_unpackEntry 53 = .ok (.aload_n 0, 1) := by decide +kernel
theorem dX7_unpackEntry_54 : decode cX7_unpackEntry 54 = .ok (.invokevirtual 124, 3) := by decide +kernel
theorem dX7_unpackEntry_57 : decode cX7_unpackEntry 57 = .ok (.i2s, 1) := by decide +kernel
theorem dX7_unpackEntry_58 : decode cX7_unpackEntry 58 = .ok (.istore 6, 2) := by decide +kernel
theorem dX7_unpackEntry_60 : decode cX7_unpackEntry 60 = .ok (.aload_n 0, 1) := by decide +kernel
theorem dX7_unpackEntry_61 : decode cX7_unpackEntry 61 = .ok (.invokevirtual 124, 3) := by decide +kernel
theorem dX7_unpackEntry_64 : decode cX7_unpackEntry 64 = .ok (.istore 7, 2) := by decide +kernel
theorem dX7_unpackEntry_66 : decode cX7_unpackEntry 66 = .ok (.aload_n 0, 1) := by decide +kernel
theorem dX7_unpackEntry_67 : decode cX7_unpackEntry 67 = .ok (.iload_n 2, 1) := by decide +kernel
theorem dX7_unpackEntry_68 : decode cX7_unpackEntry 68 = .ok (.iload 4, 2) := by decide +kernel
theorem dX7_unpackEntry_70 : decode cX7_unpackEntry 70 = .ok (.iload 5, 2) := by decide +kernel
theorem dX7_unpackEntry_72 : decode cX7_unpackEntry 72 = .ok (.iload 6, 2) := by decide +kernel
theorem dX7_unpackEntry_74 : decode cX7_unpackEntry 74 = .ok (.invokestatic 130, 3) := by decide +kernel
theorem dX7_unpackEntry_77 : decode cX7_unpackEntry 77 = .ok (.ifCond .eq 25, 3) := by decide +kernel
theorem dX7_unpackEntry_80 : decode cX7_unpackEntry 80 = .ok (.aload_n 0, 1) := by decide +kernel
theorem dX7_unpackEntry_81 : decode cX7_unpackEntry 81 = .ok (.aload_n 1, 1) := by decide +kernel
theorem dX7_unpackEntry_82 : decode cX7_unpackEntry 82 = .ok (.iload 5, 2) := by decide +kernel
theorem dX7_unpackEntry_84 : decode cX7_unpackEntry 84 = .ok (.iconst 1, 1) := by decide +kernel
theorem dX7_unpackEntry_85 : decode cX7_unpackEntry 85 = .ok (.isub, 1) := by decide +kernel
theorem dX7_unpackEntry_86 : decode cX7_unpackEntry 86 = .ok (.invokestatic 134, 3) := by decide +kernel
theorem dX7_unpackEntry_89 : decode cX7_unpackEntry 89 = .ok (.ifCond .eq 13, 3) := by decide +kernel
theorem dX7_unpackEntry_92 : decode cX7_unpackEntry 92 = .ok (.aload_n 0, 1) := by decide +kernel
theorem dX7_unpackEntry_93 : decode cX7_unpackEntry 93 = .ok (.aload_n 1, 1) := by decide +kernel
theorem dX7_unpackEntry_94 : decode cX7_unpackEntry 94 = .ok (.iload 6, 2) := by decide +kernel
theorem dX7_unpackEntry_96 : decode cX7_unpackEntry 96 = .ok (.invokevirtual 138, 3) := by decide +kernel
theorem dX7_unpackEntry_99 : decode cX7_unpackEntry 99 = .ok (.ifCond .ne 5, 3) := by decide +kernel
theorem dX7_unpackEntry_102 : decode cX7_unpackEntry 102 = .ok (.iconst 0, 1) := by decide +kernel
theorem dX7_unpackEntry_103 : decode cX7_unpackEntry 103 = .ok (.ireturn, 1) := by decide +kernel
theorem dX7_unpackEntry_104 : decode cX7_unpackEntry 104 = .ok (.aload_n 1, 1) := by decide +kernel
theorem dX7_unpackEntry_105 : decode cX7_unpackEntry 105 = .ok (.aload_n 1, 1) := by decide +kernel
theorem dX7_unpackEntry_106 : decode cX7_unpackEntry 106 = .ok (.invokevirtual 93, 3) := by decide +kernel
theorem dX7_unpackEntry_109 : decode cX7_unpackEntry 109 = .ok (.invokevirtual 142, 3) := by decide +kernel
theorem dX7_unpackEntry_112 : decode cX7_unpackEntry 112 = .ok (.iload 7, 2) := by decide +kernel
theorem dX7_unpackEntry_114 : decode cX7_unpackEntry 114 = .ok (.if_icmp .eq 13, 3) := by decide +kernel
theorem dX7_unpackEntry_117 : decode cX7_unpackEntry 117 = .ok (.aload_n 0, 1) := by decide +kernel
theorem dX7_unpackEntry_118 : decode cX7_unpackEntry 118 = .ok (.iconst 5, 1) := by decide +kernel
theorem dX7_unpackEntry_119 : decode cX7_unpackEntry 119 = .ok (.iload_n 2, 1) := by decide +kernel
theorem dX7_unpackEntry_120 : decode cX7_unpackEntry 120 = .ok (.bipush 8, 2) := by decide +kernel
theorem dX7_unpackEntry_122 : decode cX7_unpackEntry 122 = .ok (.iadd, 1) := by decide +kernel
theorem dX7_unpackEntry_123 : decode cX7_unpackEntry 123 = .ok (.invokevirtual 143, 3) := by decide +kernel
theorem dX7_unpackEntry_126 : decode cX7_unpackEntry 126 = .ok (.ireturn, 1) := by decide +kernel
theorem dX7_unpackEntry_127 : decode cX7_unpackEntry 127 = .ok (.aload_n 1, 1) := by decide +kernel
theorem dX7_unpackEntry_128 : decode cX7_unpackEntry 128 = .ok (.iload_n 3, 1) := by decide +kernel
theorem dX7_unpackEntry_129 : decode cX7_unpackEntry 129 = .ok (.iload 4, 2) := by decide +kernel
theorem dX7_unpackEntry_131 : decode cX7_unpackEntry 131 = .ok (.invokevirtual 147, 3) := by decide +kernel
theorem dX7_unpackEntry_134 : decode cX7_unpackEntry 134 = .ok (.iload 6, 2) := by decide +kernel
theorem dX7_unpackEntry_136 : decode cX7_unpackEntry 136 = .ok (.invokestatic 69, 3) := by decide +kernel
theorem dX7_unpackEntry_139 : decode cX7_unpackEntry 139 = .ok (.ifCond .eq 11, 3) := by decide +kernel
theorem dX7_unpackEntry_142 : decode cX7_unpackEntry 142 = .ok (.aload_n 0, 1) := by decide +kernel
theorem dX7_unpackEntry_143 : decode cX7_unpackEntry 143 = .ok (.iconst 0, 1) := by decide +kernel
theorem dX7_unpackEntry_144 : decode cX7_unpackEntry 144 = .ok (.invokevirtual 118, 3) := by decide +kernel
theorem dX7_unpackEntry_147 : decode cX7_unpackEntry 147 = .ok (.ifCond .eq 7, 3) := by decide +kernel
theorem dX7_unpackEntry_150 : decode cX7_unpackEntry 150 = .ok (.iconst 1, 1) := by decide +kernel
theorem dX7_unpackEntry_151 : decode cX7_unpackEntry 151 = .ok (.goto 4, 3) := by decide +kernel
theorem dX7_unpackEntry_154 : decode cX7_unpackEntry 154 = .ok (.iconst 0, 1) := by decide +kernel
theorem dX7_unpackEntry_155 : decode cX7_unpackEntry 155 = .ok (.ireturn, 1) := by decide +kernel
theorem dX7_isHeadSound_0 : decode cX7_isHeadSound 0 = .ok (.iload_n 2, 1) := by decide +kernel
theorem dX7_isHeadSound_1 : decode cX7_isHeadSound 1 = .ok (.ifCond .ne 12, 3) := by decide +kernel
theorem dX7_isHeadSound_4 : decode cX7_isHeadSound 4 = .ok (.aload_n 0, 1) := by decide +kernel
theorem dX7_isHeadSound_5 : decode cX7_isHeadSound 5 = .ok (.iconst 4, 1) := by decide +kernel
theorem dX7_isHeadSound_6 : decode cX7_isHeadSound 6 = .ok (.iload_n 1, 1) := by decide +kernel
theorem dX7_isHeadSound_7 : decode cX7_isHeadSound 7 = .ok (.iconst 4, 1) := by decide +kernel
theorem dX7_isHeadSound_8 : decode cX7_isHeadSound 8 = .ok (.iadd, 1) := by decide +kernel
theorem dX7_isHeadSound_9 : decode cX7_isHeadSound 9 = .ok (.invokevirtual 143, 3) := by decide +kernel
theorem dX7_isHeadSound_12 : decode cX7_isHeadSound 12 = .ok (.ireturn, 1) := by decide +kernel
theorem dX7_isHeadSound_13 : decode cX7_isHeadSound 13 = .ok (.iload_n 3, 1) := by decide +kernel
theorem dX7_isHeadSound_14 : decode cX7_isHeadSound 14 = .ok (.ifCond .ge 12, 3) := by decide +kernel
theorem dX7_isHeadSound_17 : decode cX7_isHeadSound 17 = .ok (.aload_n 0, 1) := by decide +kernel
theorem dX7_isHeadSound_18 : decode cX7_isHeadSound 18 = .ok (.iconst 3, 1) := by decide +kernel
theorem dX7_isHeadSound_19 : decode cX7_isHeadSound 19 = .ok (.iload_n 1, 1) := by decide +kernel
theorem dX7_isHeadSound_20 : decode cX7_isHeadSound 20 = .ok (.iconst 5, 1) := by decide +kernel
theorem dX7_isHeadSound_21 : decode cX7_isHeadSound 21 = .ok (.iadd, 1) := by decide +kernel
theorem dX7_isHeadSound_22 : decode cX7_isHeadSound 22 = .ok (.invokevirtual 143, 3) := by decide +kernel
theorem dX7_isHeadSound_25 : decode cX7_isHeadSound 25 = .ok (.ireturn, 1) := by decide +kernel
theorem dX7_isHeadSound_26 : decode cX7_isHeadSound 26 = .ok (.iload 4, 2) := by decide +kernel
theorem dX7_isHeadSound_28 : decode cX7_isHeadSound 28 = .ok (.ifCond .ge 13, 3) := by decide +kernel
theorem dX7_isHeadSound_31 : decode cX7_isHeadSound 31 = .ok (.aload_n 0, 1) := by decide +kernel
theorem dX7_isHeadSound_32 : decode cX7_isHeadSound 32 = .ok (.iconst 3, 1) := by decide +kernel
theorem dX7_isHeadSound_33 : decode cX7_isHeadSound 33 = .ok (.iload_n 1, 1) := by decide +kernel
theorem dX7_isHeadSound_34 : decode cX7_isHeadSound 34 = .ok (.bipush 6, 2) := by decide +kernel
theorem dX7_isHeadSound_36 : decode cX7_isHeadSound 36 = .ok (.iadd, 1) := by decide +kernel
theorem dX7_isHeadSound_37 : decode cX7_isHeadSound 37 = .ok (.invokevirtual 143, 3) := by decide +kernel
theorem dX7_isHeadSound_40 : decode cX7_isHeadSound 40 = .ok (.ireturn, 1) := by decide +kernel
theorem dX7_isHeadSound_41 : decode cX7_isHeadSound 41 = .ok (.iload_n 3, 1) := by decide +kernel
theorem dX7_isHeadSound_42 : decode cX7_isHeadSound 42 = .ok (.iconst 2, 1) := by decide +kernel
theorem dX7_isHeadSound_43 : decode cX7_isHeadSound 43 = .ok (.if_icmp .lt 9, 3) := by decide +kernel
theorem dX7_isHeadSound_46 : decode cX7_isHeadSound 46 = .ok (.iload_n 3, 1) := by decide +kernel
theorem dX7_isHeadSound_47 : decode cX7_isHeadSound 47 = .ok (.bipush 21, 2) := by decide +kernel
theorem dX7_isHeadSound_49 : decode cX7_isHeadSound 49 = .ok (.if_icmp .le 12, 3) := by decide +kernel
theorem dX7_isHeadSound_52 : decode cX7_isHeadSound 52 = .ok (.aload_n 0, 1) := by decide +kernel
theorem dX7_isHeadSound_53 : decode cX7_isHeadSound 53 = .ok (.iconst 4, 1) := by decide +kernel
theorem dX7_isHeadSound_54 : decode cX7_isHeadSound 54 = .ok (.iload_n 1, 1) := by decide +kernel
theorem dX7_isHeadSound_55 : decode cX7_isHeadSound 55 = .ok (.iconst 5, 1) := by decide +kernel
theorem dX7_isHeadSound_56 : decode cX7_isHeadSound 56 = .ok (.iadd, 1) := by decide +kernel
theorem dX7_isHeadSound_57 : decode cX7_isHeadSound 57 = .ok (.invokevirtual 143, 3) := by decide +kernel
theorem dX7_isHeadSound_60 : decode cX7_isHeadSound 60 = .ok (.ireturn, 1) := by decide +kernel
theorem dX7_isHeadSound_61 : decode cX7_isHeadSound 61 = .ok (.iload 4, 2) := by decide +kernel
theorem dX7_isHeadSound_63 : decode cX7_isHeadSound 63 = .ok (.bipush 60, 2) := by decide +kernel
theorem dX7_isHeadSound_65 : decode cX7_isHeadSound 65 = .ok (.if_icmp .le 15, 3) := by decide +kernel
theorem dX7_isHeadSound_68 : decode cX7_isHeadSound 68 = .ok (.aload_n 0, 1) := by decide +kernel
theorem dX7_isHeadSound_69 : decode cX7_isHeadSound 69 = .ok (.iconst 4, 1) := by decide +kernel
theorem dX7_isHeadSound_70 : decode cX7_isHeadSound 70 = .ok (.iload_n 1, 1) := by decide +kernel
theorem dX7_isHeadSound_71 : decode cX7_isHeadSound 71 = .ok (.bipush 6, 2) := by decide +kernel
theorem dX7_isHeadSound_73 : decode cX7_isHeadSound 73 = .ok (.iadd, 1) := by decide +kernel
theorem dX7_isHeadSound_74 : decode cX7_isHeadSound 74 = .ok (.invokevirtual 143, 3) := by decide +kernel
theorem dX7_isHeadSound_77 : decode cX7_isHeadSound 77 = .ok (.ifCond .eq 7, 3) := by decide +kernel
theorem dX7_isHeadSound_80 : decode cX7_isHeadSound 80 = .ok (.iconst 1, 1) := by decide +kernel
theorem dX7_isHeadSound_81 : decode cX7_isHeadSound 81 = .ok (.goto 4, 3) := by decide +kernel
theorem dX7_isHeadSound_84 : decode cX7_isHeadSound 84 = .ok (.iconst 0, 1) := by decide +kernel
theorem dX7_isHeadSound_85 : decode cX7_isHeadSound 85 = .ok (.ireturn, 1) := by decide +kernel
theorem dX7_unpackName_0 : decode cX7_unpackName 0 = .ok (.iconst 0, 1) := by decide +kernel
theorem dX7_unpackName_1 : decode cX7_unpackName 1 = .ok (.istore_n 3, 1) := by decide +kernel
theorem dX7_unpackName_2 : decode cX7_unpackName 2 = .ok (.iload_n 3, 1) := by decide +kernel
theorem dX7_unpackName_3 : decode cX7_unpackName 3 = .ok (.iload_n 2, 1) := by decide +kernel
theorem dX7_unpackName_4 : decode cX7_unpackName 4 = .ok (.if_icmp .ge 32, 3) := by decide +kernel
theorem dX7_unpackName_7 : decode cX7_unpackName 7 = .ok (.aload_n 0, 1) := by decide +kernel
theorem dX7_unpackName_8 : decode cX7_unpackName 8 = .ok (.invokevirtual 151, 3) := by decide +kernel
theorem dX7_unpackName_11 : decode cX7_unpackName 11 = .ok (.invokestatic 154, 3) := by decide +kernel
theorem dX7_unpackName_14 : decode cX7_unpackName 14 = .ok (.ifCond .ne 8, 3) := by decide +kernel
theorem dX7_unpackName_17 : decode cX7_unpackName 17 = .ok (.aload_n 0, 1) := by decide +kernel
theorem dX7_unpackName_18 : decode cX7_unpackName 18 = .ok (.invokevirtual 157, 3) := by decide +kernel
theorem dX7_unpackName_21 : decode cX7_unpackName 21 = .ok (.ireturn, 1) := by decide +kernel
theorem dX7_unpackName_22 : decode cX7_unpackName 22 = .ok (.aload_n 1, 1) := by decide +kernel
theorem dX7_unpackName_23 : decode cX7_unpackName 23 = .ok (.aload_n 0, 1) := by decide +kernel
theorem dX7_unpackName_24 : decode cX7_unpackName 24 = .ok (.invokevirtual 127, 3) := by decide +kernel
theorem dX7_unpackName_27 : decode cX7_unpackName 27 = .ok (.invokevirtual 160, 3) := by decide +kernel
theorem dX7_unpackName_30 : decode cX7_unpackName 30 = .ok (.iinc 3 1, 3) := by decide +kernel
theorem dX7_unpackName_33 : decode cX7_unpackName 33 = .ok (.goto (-31), 3) := by decide +kernel
theorem dX7_unpackName_36 : decode cX7_unpackName 36 = .ok (.aload_n 0, 1) := by decide +kernel
theorem dX7_unpackName_37 : decode cX7_unpackName 37 = .ok (.iconst 0, 1) := by decide +kernel
theorem dX7_unpackName_38 : decode cX7_unpackName 38 = .ok (.invokevirtual 118, 3) := by decide +kernel
theorem dX7_unpackName_41 : decode cX7_unpackName 41 = .ok (.ifCond .eq 24, 3) := by decide +kernel
theorem dX7_unpackName_44 : decode cX7_unpackName 44 = .ok (.iload_n 2, 1) := by decide +kernel
theorem dX7_unpackName_45 : decode cX7_unpackName 45 = .ok (.iconst 1, 1) := by decide +kernel
theorem dX7_unpackName_46 : decode cX7_unpackName 46 = .ok (.iadd, 1) := by decide +kernel
theorem dX7_unpackName_47 : decode cX7_unpackName 47 = .ok (.invokestatic 69, 3) := by decide +kernel
theorem dX7_unpackName_50 : decode cX7_unpackName 50 = .ok (.ifCond .eq 11, 3) := by decide +kernel
theorem dX7_unpackName_53 : decode cX7_unpackName 53 = .ok (.aload_n 0, 1) := by decide +kernel
theorem dX7_unpackName_54 : decode cX7_unpackName 54 = .ok (.iconst 0, 1) := by decide +kernel
theorem dX7_unpackName_55 : decode cX7_unpackName 55 = .ok (.invokevirtual 118, 3) := by decide +kernel
theorem dX7_unpackName_58 : decode cX7_unpackName 58 = .ok (.ifCond .eq 7, 3) := by decide +kernel
theorem dX7_unpackName_61 : decode cX7_unpackName 61 = .ok (.iconst 1, 1) := by decide +kernel
theorem dX7_unpackName_62 : decode cX7_unpackName 62 = .ok (.goto 4, 3) := by decide +kernel
theorem dX7_unpackName_65 : decode cX7_unpackName 65 = .ok (.iconst 0, 1) := by decide +kernel
theorem dX7_unpackName_66 : decode cX7_unpackName 66 = .ok (.ireturn, 1) := by decide +kernel
theorem dX7_unpackZeros_0 : decode cX7_unpackZeros 0 = .ok (.iconst 0, 1) := by decide +kernel
theorem dX7_unpackZeros_1 : decode cX7_unpackZeros 1 = .ok (.istore_n 1, 1) := by decide +kernel
theorem dX7_unpackZeros_2 : decode cX7_unpackZeros 2 = .ok (.iload_n 1, 1) := by decide +kernel
theorem dX7_unpackZeros_3 : decode cX7_unpackZeros 3 = .ok (.sipush 1500, 3) := by decide +kernel
theorem dX7_unpackZeros_6 : decode cX7_unpackZeros 6 = .ok (.if_icmp .ge 26, 3) := by decide +kernel
theorem dX7_unpackZeros_9 : decode cX7_unpackZeros 9 = .ok (.aload_n 0, 1) := by decide +kernel
theorem dX7_unpackZeros_10 : decode cX7_unpackZeros 10 = .ok (.invokevirtual 163, 3) := by decide +kernel
theorem dX7_unpackZeros_13 : decode cX7_unpackZeros 13 = .ok (.ifCond .eq 19, 3) := by decide +kernel
theorem dX7_unpackZeros_16 : decode cX7_unpackZeros 16 = .ok (.aload_n 0, 1) := by decide +kernel
theorem dX7_unpackZeros_17 : decode cX7_unpackZeros 17 = .ok (.iconst 0, 1) := by decide +kernel
theorem dX7_unpackZeros_18 : decode cX7_unpackZeros 18 = .ok (.invokevirtual 118, 3) := by decide +kernel
theorem dX7_unpackZeros_21 : decode cX7_unpackZeros 21 = .ok (.ifCond .ne 5, 3) := by decide +kernel
theorem dX7_unpackZeros_24 : decode cX7_unpackZeros 24 = .ok (.iconst 0, 1) := by decide +kernel
theorem dX7_unpackZeros_25 : decode cX7_unpackZeros 25 = .ok (.ireturn, 1) := by decide +kernel
theorem dX7_unpackZeros_26 : decode cX7_unpackZeros 26 = .ok (.iinc 1 1, 3) := by decide +kernel
theorem dX7_unpackZeros_29 : decode cX7_unpackZeros 29 = .ok (.goto (-27), 3) := by decide +kernel
theorem dX7_unpackZeros_32 : decode cX7_unpackZeros 32 = .ok (.iconst 1, 1) := by decide +kernel
theorem dX7_unpackZeros_33 : decode cX7_unpackZeros 33 = .ok (.ireturn, 1) := by decide +kernel
theorem dX7_findLost_0 : decode cX7_findLost 0 = .ok (.aload_n 1, 1) := by decide +kernel
theorem dX7_findLost_1 : decode cX7_findLost 1 = .ok (.invokevirtual 166, 3) := by decide +kernel
theorem dX7_findLost_4 : decode cX7_findLost 4 = .ok (.istore_n 2, 1) := by decide +kernel
theorem dX7_findLost_5 : decode cX7_findLost 5 = .ok (.iload_n 2, 1) := by decide +kernel
theorem dX7_findLost_6 : decode cX7_findLost 6 = .ok (.iconst (-1), 1) := by decide +kernel
theorem dX7_findLost_7 : decode cX7_findLost 7 = .ok (.if_icmp .eq 15, 3) := by decide +kernel
theorem dX7_findLost_10 : decode cX7_findLost 10 = .ok (.aload_n 0, 1) := by decide +kernel
theorem dX7_findLost_11 : decode cX7_findLost 11 = .ok (.bipush 6, 2) := by decide +kernel
theorem dX7_findLost_13 : decode cX7_findLost 13 = .ok (.aload_n 1, 1) := by decide +kernel
theorem dX7_findLost_14 : decode cX7_findLost 14 = .ok (.iload_n 2, 1) := by decide +kernel
theorem dX7_findLost_15 : decode cX7_findLost 15 = .ok (.invokevirtual 169, 3) := by decide +kernel
theorem dX7_findLost_18 : decode cX7_findLost 18 = .ok (.invokevirtual 143, 3) := by decide +kernel
theorem dX7_findLost_21 : decode cX7_findLost 21 = .ok (.pop, 1) := by decide +kernel
theorem dX7_findLost_22 : decode cX7_findLost 22 = .ok (.return_, 1) := by decide +kernel
