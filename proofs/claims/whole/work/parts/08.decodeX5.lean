theorem dX5_init_0 : decode cX5_init 0 = .ok (.aload_n 0, 1) := by decide +kernel
theorem dX5_init_1 : decode cX5_init 1 = .ok (.invokespecial 3, 3) := by decide +kernel
theorem dX5_init_4 : decode cX5_init 4 = .ok (.return_, 1) := by decide +kernel
theorem dX5_pack_0 : decode cX5_pack 0 = .ok (.aload_n 2, 1) := by decide +kernel
theorem dX5_pack_1 : decode cX5_pack 1 = .ok (.ldc 11, 2) := by decide +kernel
theorem dX5_pack_3 : decode cX5_pack 3 = .ok (.invokevirtual 13, 3) := by decide +kernel
theorem dX5_pack_6 : decode cX5_pack 6 = .ok (.aload_n 1, 1) := by decide +kernel
theorem dX5_pack_7 : decode cX5_pack 7 = .ok (.aload_n 2, 1) := by decide +kernel
theorem dX5_pack_8 : decode cX5_pack 8 = .ok (.invokestatic 19, 3) := by decide +kernel
theorem dX5_pack_11 : decode cX5_pack 11 = .ok (.iconst 0, 1) := by decide +kernel
theorem dX5_pack_12 : decode cX5_pack 12 = .ok (.istore_n 3, 1) := by decide +kernel
theorem dX5_pack_13 : decode cX5_pack 13 = .ok (.iconst 0, 1) := by decide +kernel
theorem dX5_pack_14 : decode cX5_pack 14 = .ok (.istore 4, 2) := by decide +kernel
theorem dX5_pack_16 : decode cX5_pack 16 = .ok (.iload 4, 2) := by decide +kernel
theorem dX5_pack_18 : decode cX5_pack 18 = .ok (.aload_n 1, 1) := by decide +kernel
theorem dX5_pack_19 : decode cX5_pack 19 = .ok (.invokevirtual 23, 3) := by decide +kernel
theorem dX5_pack_22 : decode cX5_pack 22 = .ok (.if_icmp .ge 53, 3) := by decide +kernel
theorem dX5_pack_25 : decode cX5_pack 25 = .ok (.aload_n 1, 1) := by decide +kernel
theorem dX5_pack_26 : decode cX5_pack 26 = .ok (.iload 4, 2) := by decide +kernel
theorem dX5_pack_28 : decode cX5_pack 28 = .ok (.iload_n 3, 1) := by decide +kernel
theorem dX5_pack_29 : decode cX5_pack 29 = .ok (.aload_n 2, 1) := by decide +kernel
theorem dX5_pack_30 : decode cX5_pack 30 = .ok (.invokestatic 29, 3) := by decide +kernel
theorem dX5_pack_33 : decode cX5_pack 33 = .ok (.aload_n 1, 1) := by decide +kernel
theorem dX5_pack_34 : decode cX5_pack 34 = .ok (.iload 4, 2) := by decide +kernel
theorem dX5_pack_36 : decode cX5_pack 36 = .ok (.invokevirtual 33, 3) := by decide +kernel
theorem dX5_pack_39 : decode cX5_pack 39 = .ok (.aload_n 2, 1) := by decide +kernel
theorem dX5_pack_40 : decode cX5_pack 40 = .ok (.invokestatic 37, 3) := by decide +kernel
theorem dX5_pack_43 : decode cX5_pack 43 = .ok (.aload_n 2, 1) := by decide +kernel
theorem dX5_pack_44 : decode cX5_pack 44 = .ok (.aload_n 1, 1) := by decide +kernel
theorem dX5_pack_45 : decode cX5_pack 45 = .ok (.iload 4, 2) := by decide +kernel
theorem dX5_pack_47 : decode cX5_pack 47 = .ok (.invokevirtual 41, 3) := by decide +kernel
theorem dX5_pack_50 : decode cX5_pack 50 = .ok (.aload_n 1, 1) := by decide +kernel
theorem dX5_pack_51 : decode cX5_pack 51 = .ok (.iload 4, 2) := by decide +kernel
theorem dX5_pack_53 : decode cX5_pack 53 = .ok (.invokevirtual 33, 3) := by decide +kernel
theorem dX5_pack_56 : decode cX5_pack 56 = .ok (.aload_n 2, 1) := by decide +kernel
theorem dX5_pack_57 : decode cX5_pack 57 = .ok (.invokestatic 45, 3) := by decide +kernel
theorem dX5_pack_60 : decode cX5_pack 60 = .ok (.iload_n 3, 1) := by decide +kernel
theorem dX5_pack_61 : decode cX5_pack 61 = .ok (.aload_n 1, 1) := by decide +kernel
theorem dX5_pack_62 : decode cX5_pack 62 = .ok (.iload 4, 2) := by decide +kernel
theorem dX5_pack_64 : decode cX5_pack 64 = .ok (.invokestatic 48, 3) := by decide +kernel
theorem dX5_pack_67 : decode cX5_pack 67 = .ok (.iadd, 1) := by decide +kernel
theorem dX5_pack_68 : decode cX5_pack 68 = .ok (.istore_n 3, 1) := by decide +kernel
theorem dX5_pack_69 : decode cX5_pack 69 = .ok (.iinc 4 1, 3) := by decide +kernel
theorem dX5_pack_72 : decode cX5_pack 72 = .ok (.goto (-56), 3) := by decide +kernel
theorem dX5_pack_75 : decode cX5_pack 75 = .ok (.return_, 1) := by decide +kernel
theorem dX5_tablePart_0 : decode cX5_tablePart 0 = .ok (.aload_n 0, 1) := by decide +kernel
theorem dX5_tablePart_1 : decode cX5_tablePart 1 = .ok (.iload_n 1, 1) := by decide +kernel
theorem dX5_tablePart_2 : decode cX5_tablePart 2 = .ok (.invokevirtual 52, 3) := by decide +kernel
theorem dX5_tablePart_5 : decode cX5_tablePart 5 = .ok (.istore_n 2, 1) := by decide +kernel
theorem dX5_tablePart_6 : decode cX5_tablePart 6 = .ok (.iload_n 2, 1) := by decide +kernel
theorem dX5_tablePart_7 : decode cX5_tablePart 7 = .ok (.bipush 7, 2) := by decide +kernel
theorem dX5_tablePart_9 : decode cX5_tablePart 9 = .ok (.if_icmp .le 9, 3) := by decide +kernel
theorem dX5_tablePart_12 : decode cX5_tablePart 12 = .ok (.iload_n 2, 1) := by decide +kernel
theorem dX5_tablePart_13 : decode cX5_tablePart 13 = .ok (.iconst 2, 1) := by decide +kernel
theorem dX5_tablePart_14 : decode cX5_tablePart 14 = .ok (.iadd, 1) := by decide +kernel
theorem dX5_tablePart_15 : decode cX5_tablePart 15 = .ok (.goto 4, 3) := by decide +kernel
theorem dX5_tablePart_18 : decode cX5_tablePart 18 = .ok (.iconst 0, 1) := by decide +kernel
theorem dX5_tablePart_19 : decode cX5_tablePart 19 = .ok (.ireturn, 1) := by decide +kernel
theorem dX5_packTable_0 : decode cX5_packTable 0 = .ok (.iconst 0, 1) := by decide +kernel
theorem dX5_packTable_1 : decode cX5_packTable 1 = .ok (.istore_n 2, 1) := by decide +kernel
theorem dX5_packTable_2 : decode cX5_packTable 2 = .ok (.iconst 0, 1) := by decide +kernel
theorem dX5_packTable_3 : decode cX5_packTable 3 = .ok (.istore_n 3, 1) := by decide +kernel
theorem dX5_packTable_4 : decode cX5_packTable 4 = .ok (.iload_n 3, 1) := by decide +kernel
theorem dX5_packTable_5 : decode cX5_packTable 5 = .ok (.aload_n 0, 1) := by decide +kernel
theorem dX5_packTable_6 : decode cX5_packTable 6 = .ok (.invokevirtual 23, 3) := by decide +kernel
theorem dX5_packTable_9 : decode cX5_packTable 9 = .ok (.if_icmp .ge 17, 3) := by decide +kernel
theorem dX5_packTable_12 : decode cX5_packTable 12 = .ok (.iload_n 2, 1) := by decide +kernel
theorem dX5_packTable_13 : decode cX5_packTable 13 = .ok (.aload_n 0, 1) := by decide +kernel
theorem dX5_packTable_14 : decode cX5_packTable 14 = .ok (.iload_n 3, 1) := by decide +kernel
theorem dX5_packTable_15 : decode cX5_packTable 15 = .ok (.invokestatic 48, 3) := by decide +kernel
theorem dX5_packTable_18 : decode cX5_packTable 18 = .ok (.iadd, 1) := by decide +kernel
theorem dX5_packTable_19 : decode cX5_packTable 19 = .ok (.istore_n 2, 1) := by decide +kernel
theorem dX5_packTable_20 : decode cX5_packTable 20 = .ok (.iinc 3 1, 3) := by decide +kernel
theorem dX5_packTable_23 : decode cX5_packTable 23 = .ok (.goto (-19), 3) := by decide +kernel
theorem dX5_packTable_26 : decode cX5_packTable 26 = .ok (.iload_n 2, 1) := by decide +kernel
theorem dX5_packTable_27 : decode cX5_packTable 27 = .ok (.ifCond .ne 4, 3) := by decide +kernel
theorem dX5_packTable_30 : decode cX5_packTable 30 = .ok (.return_, 1) := by decide +kernel
theorem dX5_packTable_31 : decode cX5_packTable 31 = .ok (.aload_n 1, 1) := by decide +kernel
theorem dX5_packTable_32 : decode cX5_packTable 32 = .ok (.invokevirtual 55, 3) := by decide +kernel
theorem dX5_packTable_35 : decode cX5_packTable 35 = .ok (.istore_n 3, 1) := by decide +kernel
theorem dX5_packTable_36 : decode cX5_packTable 36 = .ok (.aload_n 1, 1) := by decide +kernel
theorem dX5_packTable_37 : decode cX5_packTable 37 = .ok (.ldc 58, 2) := by decide +kernel
theorem dX5_packTable_39 : decode cX5_packTable 39 = .ok (.invokevirtual 13, 3) := by decide +kernel
theorem dX5_packTable_42 : decode cX5_packTable 42 = .ok (.aload_n 1, 1) := by decide +kernel
theorem dX5_packTable_43 : decode cX5_packTable 43 = .ok (.iload_n 3, 1) := by decide +kernel
theorem dX5_packTable_44 : decode cX5_packTable 44 = .ok (.bipush 8, 2) := by decide +kernel
theorem dX5_packTable_46 : decode cX5_packTable 46 = .ok (.iadd, 1) := by decide +kernel
theorem dX5_packTable_47 : decode cX5_packTable 47 = .ok (.invokevirtual 60, 3) := by decide +kernel
theorem dX5_packTable_50 : decode cX5_packTable 50 = .ok (.iload_n 2, 1) := by decide +kernel
theorem dX5_packTable_51 : decode cX5_packTable 51 = .ok (.aload_n 1, 1) := by decide +kernel
theorem dX5_packTable_52 : decode cX5_packTable 52 = .ok (.invokestatic 37, 3) := by decide +kernel
theorem dX5_packTable_55 : decode cX5_packTable 55 = .ok (.iconst 0, 1) := by decide +kernel
theorem dX5_packTable_56 : decode cX5_packTable 56 = .ok (.istore 4, 2) := by decide +kernel
theorem dX5_packTable_58 : decode cX5_packTable 58 = .ok (.iload 4, 2) := by decide +kernel
theorem dX5_packTable_60 : decode cX5_packTable 60 = .ok (.aload_n 0, 1) := by decide +kernel
theorem dX5_packTable_61 : decode cX5_packTable 61 = .ok (.invokevirtual 23, 3) := by decide +kernel
theorem dX5_packTable_64 : decode cX5_packTable 64 = .ok (.if_icmp .ge 31, 3) := by decide +kernel
theorem dX5_packTable_67 : decode cX5_packTable 67 = .ok (.aload_n 0, 1) := by decide +kernel
theorem dX5_packTable_68 : decode cX5_packTable 68 = .ok (.iload 4, 2) := by decide +kernel
theorem dX5_packTable_70 : decode cX5_packTable 70 = .ok (.invokestatic 48, 3) := by decide +kernel
theorem dX5_packTable_73 : decode cX5_packTable 73 = .ok (.ifCond .le 16, 3) := by decide +kernel
theorem dX5_packTable_76 : decode cX5_packTable 76 = .ok (.aload_n 1, 1) := by decide +kernel
theorem dX5_packTable_77 : decode cX5_packTable 77 = .ok (.aload_n 0, 1) := by decide +kernel
theorem dX5_packTable_78 : decode cX5_packTable 78 = .ok (.iload 4, 2) := by decide +kernel
theorem dX5_packTable_80 : decode cX5_packTable 80 = .ok (.invokevirtual 64, 3) := by decide +kernel
theorem dX5_packTable_83 : decode cX5_packTable 83 = .ok (.aload_n 1, 1) := by decide +kernel
theorem dX5_packTable_84 : decode cX5_packTable 84 = .ok (.ldc 67, 2) := by decide +kernel
theorem dX5_packTable_86 : decode cX5_packTable 86 = .ok (.invokevirtual 13, 3) := by decide +kernel
theorem dX5_packTable_89 : decode cX5_packTable 89 = .ok (.iinc 4 1, 3) := by decide +kernel
theorem dX5_packTable_92 : decode cX5_packTable 92 = .ok (.goto (-34), 3) := by decide +kernel
theorem dX5_packTable_95 : decode cX5_packTable 95 = .ok (.iload_n 2, 1) := by decide +kernel
theorem dX5_packTable_96 : decode cX5_packTable 96 = .ok (.aload_n 1, 1) := by decide +kernel
theorem dX5_packTable_97 : decode cX5_packTable 97 = .ok (.invokestatic 45, 3) := by decide +kernel
theorem dX5_packTable_100 : decode cX5_packTable 100 = .ok (.return_, 1) := by decide +kernel
theorem dX5_packName_0 : decode cX5_packName 0 = .ok (.aload_n 3, 1) := by decide +kernel
theorem dX5_packName_1 : decode cX5_packName 1 = .ok (.invokevirtual 55, 3) := by decide +kernel
theorem dX5_packName_4 : decode cX5_packName 4 = .ok (.istore 4, 2) := by decide +kernel
theorem dX5_packName_6 : decode cX5_packName 6 = .ok (.aload_n 0, 1) := by decide +kernel
theorem dX5_packName_7 : decode cX5_packName 7 = .ok (.iload_n 1, 1) := by decide +kernel
theorem dX5_packName_8 : decode cX5_packName 8 = .ok (.invokestatic 48, 3) := by decide +kernel
theorem dX5_packName_11 : decode cX5_packName 11 = .ok (.ifCond .le 17, 3) := by decide +kernel
theorem dX5_packName_14 : decode cX5_packName 14 = .ok (.aload_n 3, 1) := by decide +kernel
theorem dX5_packName_15 : decode cX5_packName 15 = .ok (.bipush 47, 2) := by decide +kernel
theorem dX5_packName_17 : decode cX5_packName 17 = .ok (.invokevirtual 69, 3) := by decide +kernel
theorem dX5_packName_20 : decode cX5_packName 20 = .ok (.aload_n 3, 1) := by decide +kernel
theorem dX5_packName_21 : decode cX5_packName 21 = .ok (.iload_n 2, 1) := by decide +kernel
theorem dX5_packName_22 : decode cX5_packName 22 = .ok (.invokevirtual 72, 3) := by decide +kernel
theorem dX5_packName_25 : decode cX5_packName 25 = .ok (.goto 15, 3) := by decide +kernel
theorem dX5_packName_28 : decode cX5_packName 28 = .ok (.aload_n 3, 1) := by decide +kernel
theorem dX5_packName_29 : decode cX5_packName 29 = .ok (.aload_n 0, 1) := by decide +kernel
theorem dX5_packName_30 : decode cX5_packName 30 = .ok (.iload_n 1, 1) := by decide +kernel
theorem dX5_packName_31 : decode cX5_packName 31 = .ok (.invokevirtual 64, 3) := by decide +kernel
theorem dX5_packName_34 : decode cX5_packName 34 = .ok (.aload_n 3, 1) := by decide +kernel
theorem dX5_packName_35 : decode cX5_packName 35 = .ok (.bipush 47, 2) := by decide +kernel
theorem dX5_packName_37 : decode cX5_packName 37 = .ok (.invokevirtual 69, 3) := by decide +kernel
theorem dX5_packName_40 : decode cX5_packName 40 = .ok (.aload_n 3, 1) := by decide +kernel
theorem dX5_packName_41 : decode cX5_packName 41 = .ok (.iload 4, 2) := by decide +kernel
theorem dX5_packName_43 : decode cX5_packName 43 = .ok (.bipush 8, 2) := by decide +kernel
theorem dX5_packName_45 : decode cX5_packName 45 = .ok (.iadd, 1) := by decide +kernel
theorem dX5_packName_46 : decode cX5_packName 46 = .ok (.invokevirtual 60, 3) := by decide +kernel
theorem dX5_packName_49 : decode cX5_packName 49 = .ok (.return_, 1) := by decide +kernel
theorem dX5_packSize_0 : decode cX5_packSize 0 = .ok (.aload_n 1, 1) := by decide +kernel
theorem dX5_packSize_1 : decode cX5_packSize 1 = .ok (.invokevirtual 55, 3) := by decide +kernel
theorem dX5_packSize_4 : decode cX5_packSize 4 = .ok (.bipush 12, 2) := by decide +kernel
theorem dX5_packSize_6 : decode cX5_packSize 6 = .ok (.iadd, 1) := by decide +kernel
theorem dX5_packSize_7 : decode cX5_packSize 7 = .ok (.bipush 8, 2) := by decide +kernel
theorem dX5_packSize_9 : decode cX5_packSize 9 = .ok (.isub, 1) := by decide +kernel
theorem dX5_packSize_10 : decode cX5_packSize 10 = .ok (.istore_n 2, 1) := by decide +kernel
theorem dX5_packSize_11 : decode cX5_packSize 11 = .ok (.aload_n 1, 1) := by decide +kernel
theorem dX5_packSize_12 : decode cX5_packSize 12 = .ok (.iload_n 0, 1) := by decide +kernel
theorem dX5_packSize_13 : decode cX5_packSize 13 = .ok (.invokevirtual 72, 3) := by decide +kernel
theorem dX5_packSize_16 : decode cX5_packSize 16 = .ok (.aload_n 1, 1) := by decide +kernel
theorem dX5_packSize_17 : decode cX5_packSize 17 = .ok (.iload_n 2, 1) := by decide +kernel
theorem dX5_packSize_18 : decode cX5_packSize 18 = .ok (.invokevirtual 60, 3) := by decide +kernel
theorem dX5_packSize_21 : decode cX5_packSize 21 = .ok (.aload_n 1, 1) := by decide +kernel
theorem dX5_packSize_22 : decode cX5_packSize 22 = .ok (.ldc 75, 2) := by decide +kernel
theorem dX5_packSize_24 : decode cX5_packSize 24 = .ok (.invokevirtual 13, 3) := by decide +kernel
theorem dX5_packSize_27 : decode cX5_packSize 27 = .ok (.return_, 1) := by decide +kernel
theorem dX5_packPad_0 : decode cX5_packPad 0 = .ok (.iload_n 0, 1) := by decide +kernel
theorem dX5_packPad_1 : decode cX5_packPad 1 = .ok (.invokestatic 77, 3) := by decide +kernel
theorem dX5_packPad_4 : decode cX5_packPad 4 = .ok (.ifCond .eq 9, 3) := by decide +kernel
theorem dX5_packPad_7 : decode cX5_packPad 7 = .ok (.aload_n 1, 1) := by decide +kernel
theorem dX5_packPad_8 : decode cX5_packPad 8 = .ok (.bipush 10, 2) := by decide +kernel
theorem dX5_packPad_10 : decode cX5_packPad 10 = .ok (.invokevirtual 69, 3) := by decide +kernel
theorem dX5_packPad_13 : decode cX5_packPad 13 = .ok (.return_, 1) := by decide +kernel
theorem dX5_unpack_0 : decode cX5_unpack 0 = .ok (.aload_n 0, 1) := by decide +kernel
theorem dX5_unpack_1 : decode cX5_unpack 1 = .ok (.iconst (-1), 1) := by decide +kernel
theorem dX5_unpack_2 : decode cX5_unpack 2 = .ok (.putfield 81, 3) := by decide +kernel
theorem dX5_unpack_5 : decode cX5_unpack 5 = .ok (.aload_n 1, 1) := by decide +kernel
theorem dX5_unpack_6 : decode cX5_unpack 6 = .ok (.ldc 11, 2) := by decide +kernel
theorem dX5_unpack_8 : decode cX5_unpack 8 = .ok (.invokevirtual 85, 3) := by decide +kernel
theorem dX5_unpack_11 : decode cX5_unpack 11 = .ok (.ifCond .ne 4, 3) := by decide +kernel
theorem dX5_unpack_14 : decode cX5_unpack 14 = .ok (.return_, 1) := by decide +kernel
theorem dX5_unpack_15 : decode cX5_unpack 15 = .ok (.iconst 0, 1) := by decide +kernel
theorem dX5_unpack_16 : decode cX5_unpack 16 = .ok (.istore_n 3, 1) := by decide +kernel
theorem dX5_unpack_17 : decode cX5_unpack 17 = .ok (.iload_n 3, 1) := by decide +kernel
theorem dX5_unpack_18 : decode cX5_unpack 18 = .ok (.bipush 126, 2) := by decide +kernel
theorem dX5_unpack_20 : decode cX5_unpack 20 = .ok (.if_icmp .ge 44, 3) := by decide +kernel
theorem dX5_unpack_23 : decode cX5_unpack 23 = .ok (.aload_n 1, 1) := by decide +kernel
theorem dX5_unpack_24 : decode cX5_unpack 24 = .ok (.invokevirtual 91, 3) := by decide +kernel
theorem dX5_unpack_27 : decode cX5_unpack 27 = .ok (.ifCond .eq 37, 3) := by decide +kernel
theorem dX5_unpack_30 : decode cX5_unpack 30 = .ok (.aload_n 2, 1) := by decide +kernel
theorem dX5_unpack_31 : decode cX5_unpack 31 = .ok (.aload_n 1, 1) := by decide +kernel
theorem dX5_unpack_32 : decode cX5_unpack 32 = .ok (.invokevirtual 95, 3) := by decide +kernel
theorem dX5_unpack_35 : decode cX5_unpack 35 = .ok (.invokevirtual 98, 3) := by decide +kernel
theorem dX5_unpack_38 : decode cX5_unpack 38 = .ok (.aload_n 0, 1) := by decide +kernel
theorem dX5_unpack_39 : decode cX5_unpack 39 = .ok (.aload_n 1, 1) := by decide +kernel
theorem dX5_unpack_40 : decode cX5_unpack 40 = .ok (.aload_n 2, 1) := by decide +kernel
theorem dX5_unpack_41 : decode cX5_unpack 41 = .ok (.invokevirtual 103, 3) := by decide +kernel
theorem dX5_unpack_44 : decode cX5_unpack 44 = .ok (.ifCond .eq 10, 3) := by decide +kernel
theorem dX5_unpack_47 : decode cX5_unpack 47 = .ok (.aload_n 0, 1) := by decide +kernel
theorem dX5_unpack_48 : decode cX5_unpack 48 = .ok (.getfield 107, 3) := by decide +kernel
theorem dX5_unpack_51 : decode cX5_unpack 51 = .ok (.ifCond .eq 7, 3) := by decide +kernel
theorem dX5_unpack_54 : decode cX5_unpack 54 = .ok (.aload_n 2, 1) := by decide +kernel
theorem dX5_unpack_55 : decode cX5_unpack 55 = .ok (.invokevirtual 111, 3) := by decide +kernel
theorem dX5_unpack_58 : decode cX5_unpack 58 = .ok (.iinc 3 1, 3) := by decide +kernel
theorem dX5_unpack_61 : decode cX5_unpack 61 = .ok (.goto (-44), 3) := by decide +kernel
theorem dX5_unpack_64 : decode cX5_unpack 64 = .ok (.return_, 1) := by decide +kernel
theorem dX5_unpackEntry_0 : decode cX5_unpackEntry 0 = .ok (.aload_n 1, 1) := by decide +kernel
theorem dX5_unpackEntry_1 : decode cX5_unpackEntry 1 = .ok (.invokevirtual 95, 3) := by decide +kernel
theorem dX5_unpackEntry_4 : decode cX5_unpackEntry 4 = .ok (.istore_n 3, 1) := by decide +kernel
theorem dX5_unpackEntry_5 : decode cX5_unpackEntry 5 = .ok (.aload_n 0, 1) := by decide +kernel
theorem dX5_unpackEntry_6 : decode cX5_unpackEntry 6 = .ok (.aload_n 1, 1) := by decide +kernel
theorem dX5_unpackEntry_7 : decode cX5_unpackEntry 7 = .ok (.aload_n 2, 1) := by decide +kernel
theorem dX5_unpackEntry_8 : decode cX5_unpackEntry 8 = .ok (.iload_n 3, 1) := by decide +kernel
theorem dX5_unpackEntry_9 : decode cX5_unpackEntry 9 = .ok (.bipush 8, 2) := by decide +kernel
theorem dX5_unpackEntry_11 : decode cX5_unpackEntry 11 = .ok (.iadd, 1) := by decide +kernel
theorem dX5_unpackEntry_12 : decode cX5_unpackEntry 12 = .ok (.invokevirtual 114, 3) := by decide +kernel
theorem dX5_unpackEntry_15 : decode cX5_unpackEntry 15 = .ok (.ifCond .ne 5, 3) := by decide +kernel
theorem dX5_unpackEntry_18 : decode cX5_unpackEntry 18 = .ok (.iconst 0, 1) := by decide +kernel
theorem dX5_unpackEntry_19 : decode cX5_unpackEntry 19 = .ok (.ireturn, 1) := by decide +kernel
theorem dX5_unpackEntry_20 : decode cX5_unpackEntry 20 = .ok (.aload_n 1, 1) := by decide +kernel
theorem dX5_unpackEntry_21 : decode cX5_unpackEntry 21 = .ok (.iload_n 3, 1) := by decide +kernel
theorem dX5_unpackEntry_22 : decode cX5_unpackEntry 22 = .ok (.bipush 12, 2) := by decide +kernel
theorem dX5_unpackEntry_24 : decode cX5_unpackEntry 24 = .ok (.iadd, 1) := by decide +kernel
theorem dX5_unpackEntry_25 : decode cX5_unpackEntry 25 = .ok (.invokevirtual 118, 3) := by decide +kernel
theorem dX5_unpackEntry_28 : decode cX5_unpackEntry 28 = .ok (.istore 4, 2) := by decide +kernel
theorem dX5_unpackEntry_30 : decode cX5_unpackEntry 30 = .ok (.iload 4, 2) := by decide +kernel
theorem dX5_unpackEntry_32 : decode cX5_unpackEntry 32 = .ok (.iconst (-1), 1) := by decide +kernel
theorem dX5_unpackEntry_33 : decode cX5_unpackEntry 33 = .ok (.if_icmp .eq 23, 3) := by decide +kernel
theorem dX5_unpackEntry_36 : decode cX5_unpackEntry 36 = .ok (.aload_n 1, 1) := by decide +kernel
theorem dX5_unpackEntry_37 : decode cX5_unpackEntry 37 = .ok (.iload_n 3, 1) := by decide +kernel
theorem dX5_unpackEntry_38 : decode cX5_unpackEntry 38 = .ok (.bipush 12, 2) := by decide +kernel
theorem dX5_unpackEntry_40 : decode cX5_unpackEntry 40 = .ok (.iadd, 1) := by decide +kernel
theorem dX5_unpackEntry_41 : decode cX5_unpackEntry 41 = .ok (.invokevirtual 121, 3) := by decide +kernel
theorem dX5_unpackEntry_44 : decode cX5_unpackEntry 44 = .ok (.ifCond .eq 12, 3) := by decide +kernel
theorem dX5_unpackEntry_47 : decode cX5_unpackEntry 47 = .ok (.aload_n 1, 1) := by decide +kernel
theorem dX5_unpackEntry_48 : decode cX5_unpackEntry 48 = .ok (.ldc 75, 2) := by decide +kernel
theorem dX5_unpackEntry_50 : decode cX5_unpackEntry 50 = .ok (.invokevirtual 85, 3) := by decide +kernel
theorem dX5_unpackEntry_53 : decode cX5_unpackEntry 53 = .ok (.ifCond .ne 5, 3) := by decide +kernel
theorem dX5_unpackEntry_56 : decode cX5_unpackEntry 56 = .ok (.iconst 0, 1) := by decide +kernel
theorem dX5_unpackEntry_57 : decode cX5_unpackEntry 57 = .ok (.ireturn, 1) := by decide +kernel
theorem dX5_unpackEntry_58 : decode cX5_unpackEntry 58 = .ok (.aload_n 0, 1) := by decide +kernel
theorem dX5_unpackEntry_59 : decode cX5_unpackEntry 59 = .ok (.getfield 107, 3) := by decide +kernel
theorem dX5_unpackEntry_62 : decode cX5_unpackEntry 62 = .ok (.ifCond .eq 12, 3) := by decide +kernel
theorem dX5_unpackEntry_65 : decode cX5_unpackEntry 65 = .ok (.aload_n 0, 1) := by decide +kernel
theorem dX5_unpackEntry_66 : decode cX5_unpackEntry 66 = .ok (.aload_n 1, 1) := by decide +kernel
theorem dX5_unpackEntry_67 : decode cX5_unpackEntry 67 = .ok (.iload_n 3, 1) := by decide +kernel
theorem dX5_unpackEntry_68 : decode cX5_unpackEntry 68 = .ok (.iload 4, 2) := by decide +kernel
theorem dX5_unpackEntry_70 : decode cX5_unpackEntry 70 = .ok (.invokevirtual 124, 3) := by decide +kernel
theorem dX5_unpackEntry_73 : decode cX5_unpackEntry 73 = .ok (.ireturn, 1) := by decide +kernel
theorem dX5_unpackEntry_74 : decode cX5_unpackEntry 74 = .ok (.aload_n 0, 1) := by decide +kernel
theorem dX5_unpackEntry_75 : decode cX5_unpackEntry 75 = .ok (.getfield 128, 3) := by decide +kernel
theorem dX5_unpackEntry_78 : decode cX5_unpackEntry 78 = .ok (.iconst (-1), 1) := by decide +kernel
theorem dX5_unpackEntry_79 : decode cX5_unpackEntry 79 = .ok (.if_icmp .eq 15, 3) := by decide +kernel
theorem dX5_unpackEntry_82 : decode cX5_unpackEntry 82 = .ok (.aload_n 0, 1) := by decide +kernel
theorem dX5_unpackEntry_83 : decode cX5_unpackEntry 83 = .ok (.aload_n 1, 1) := by decide +kernel
theorem dX5_unpackEntry_84 : decode cX5_unpackEntry 84 = .ok (.aload_n 2, 1) := by decide +kernel
theorem dX5_unpackEntry_85 : decode cX5_unpackEntry 85 = .ok (.iload_n 3, 1) := by decide +kernel
theorem dX5_unpackEntry_86 : decode cX5_unpackEntry 86 = .ok (.invokevirtual 131, 3) := by decide +kernel
theorem dX5_unpackEntry_89 : decode cX5_unpackEntry 89 = .ok (.ifCond .ne 5, 3) := by decide +kernel
theorem dX5_unpackEntry_92 : decode cX5_unpackEntry 92 = .ok (.iconst 0, 1) := by decide +kernel
theorem dX5_unpackEntry_93 : decode cX5_unpackEntry 93 = .ok (.ireturn, 1) := by decide +kernel
theorem dX5_unpackEntry_94 : decode cX5_unpackEntry 94 = .ok (.iload 4, 2) := by decide +kernel
theorem dX5_unpackEntry_96 : decode cX5_unpackEntry 96 = .ok (.bipush 60, 2) := by decide +kernel
theorem dX5_unpackEntry_98 : decode cX5_unpackEntry 98 = .ok (.if_icmp .le 13, 3) := by decide +kernel
theorem dX5_unpackEntry_101 : decode cX5_unpackEntry 101 = .ok (.aload_n 1, 1) := by decide +kernel
theorem dX5_unpackEntry_102 : decode cX5_unpackEntry 102 = .ok (.iconst 4, 1) := by decide +kernel
theorem dX5_unpackEntry_103 : decode cX5_unpackEntry 103 = .ok (.iload_n 3, 1) := by decide +kernel
theorem dX5_unpackEntry_104 : decode cX5_unpackEntry 104 = .ok (.bipush 8, 2) := by decide +kernel
theorem dX5_unpackEntry_106 : decode cX5_unpackEntry 106 = .ok (.iadd, 1) := by decide +kernel
theorem dX5_unpackEntry_107 : decode cX5_unpackEntry 107 = .ok (.invokevirtual 134, 3) := by decide +kernel
theorem dX5_unpackEntry_110 : decode cX5_unpackEntry 110 = .ok (.ireturn, 1) := by decide +kernel
theorem dX5_unpackEntry_111 : decode cX5_unpackEntry 111 = .ok (.aload_n 1, 1) := by decide +kernel
theorem dX5_unpackEntry_112 : decode cX5_unpackEntry 112 = .ok (.aload_n 2, 1) := by decide +kernel
theorem dX5_unpackEntry_113 : decode cX5_unpackEntry 113 = .ok (.iload 4, 2) := by decide +kernel
theorem dX5_unpackEntry_115 : decode cX5_unpackEntry 115 = .ok (.invokevirtual 138, 3) := by decide +kernel
theorem dX5_unpackEntry_118 : decode cX5_unpackEntry 118 = .ok (.ifCond .eq 16, 3) := by decide +kernel
theorem dX5_unpackEntry_121 : decode cX5_unpackEntry 121 = .ok (.aload_n 1, 1) := by decide +kernel
theorem dX5_unpackEntry_122 : decode cX5_unpackEntry 122 = .ok (.iload 4, 2) := by decide +kernel
theorem dX5_unpackEntry_124 : decode cX5_unpackEntry 124 = .ok (.invokestatic 142, 3) := by decide +kernel
theorem dX5_unpackEntry_127 : decode cX5_unpackEntry 127 = .ok (.ifCond .eq 7, 3) := by decide +kernel
theorem dX5_unpackEntry_130 : decode cX5_unpackEntry 130 = .ok (.iconst 1, 1) := by decide +kernel
theorem dX5_unpackEntry_131 : decode cX5_unpackEntry 131 = .ok (.goto 4, 3) := by decide +kernel
theorem dX5_unpackEntry_134 : decode cX5_unpackEntry 134 = .ok (.iconst 0, 1) := by decide +kernel
theorem dX5_unpackEntry_135 : decode cX5_unpackEntry 135 = .ok (.ireturn, 1) := by decide +kernel
theorem dX5_unpackNameField_0 : decode cX5_unpackNameField 0 = .ok (.aload_n 0, 1) := by decide +kernel
theorem dX5_unpackNameField_1 : decode cX5_unpackNameField 1 = .ok (.iconst (-1), 1) := by decide +kernel
theorem dX5_unpackNameField_2 : decode cX5_unpackNameField 2 = .ok (.putfield 128, 3) := by decide +kernel
theorem dX5_unpackNameField_5 : decode cX5_unpackNameField 5 = .ok (.aload_n 0, 1) := by decide +kernel
theorem dX5_unpackNameField_6 : decode cX5_unpackNameField 6 = .ok (.iconst 0, 1) := by decide +kernel
theorem dX5_unpackNameField_7 : decode cX5_unpackNameField 7 = .ok (.putfield 107, 3) := by decide +kernel
theorem dX5_unpackNameField_10 : decode cX5_unpackNameField 10 = .ok (.aload_n 1, 1) := by decide +kernel
theorem dX5_unpackNameField_11 : decode cX5_unpackNameField 11 = .ok (.invokevirtual 146, 3) := by decide +kernel
theorem dX5_unpackNameField_14 : decode cX5_unpackNameField 14 = .ok (.bipush 47, 2) := by decide +kernel
theorem dX5_unpackNameField_16 : decode cX5_unpackNameField 16 = .ok (.if_icmp .eq 25, 3) := by decide +kernel
theorem dX5_unpackNameField_19 : decode cX5_unpackNameField 19 = .ok (.aload_n 1, 1) := by decide +kernel
theorem dX5_unpackNameField_20 : decode cX5_unpackNameField 20 = .ok (.aload_n 2, 1) := by decide +kernel
theorem dX5_unpackNameField_21 : decode cX5_unpackNameField 21 = .ok (.invokestatic 149, 3) := by decide +kernel
theorem dX5_unpackNameField_24 : decode cX5_unpackNameField 24 = .ok (.ifCond .eq 15, 3) := by decide +kernel
theorem dX5_unpackNameField_27 : decode cX5_unpackNameField 27 = .ok (.aload_n 1, 1) := by decide +kernel
theorem dX5_unpackNameField_28 : decode cX5_unpackNameField 28 = .ok (.iload_n 3, 1) := by decide +kernel
theorem dX5_unpackNameField_29 : decode cX5_unpackNameField 29 = .ok (.invokevirtual 121, 3) := by decide +kernel
theorem dX5_unpackNameField_32 : decode cX5_unpackNameField 32 = .ok (.ifCond .eq 7, 3) := by decide +kernel
theorem dX5_unpackNameField_35 : decode cX5_unpackNameField 35 = .ok (.iconst 1, 1) := by decide +kernel
theorem dX5_unpackNameField_36 : decode cX5_unpackNameField 36 = .ok (.goto 4, 3) := by decide +kernel
theorem dX5_unpackNameField_39 : decode cX5_unpackNameField 39 = .ok (.iconst 0, 1) := by decide +kernel
theorem dX5_unpackNameField_40 : decode cX5_unpackNameField 40 = .ok (.ireturn, 1) := by decide +kernel
theorem dX5_unpackNameField_41 : decode cX5_unpackNameField 41 = .ok (.aload_n 1, 1) := by decide +kernel
theorem dX5_unpackNameField_42 : decode cX5_unpackNameField 42 = .ok (.invokevirtual 152, 3) := by decide +kernel
theorem dX5_unpackNameField_45 : decode cX5_unpackNameField 45 = .ok (.pop, 1) := by decide +kernel
theorem dX5_unpackNameField_46 : decode cX5_unpackNameField 46 = .ok (.aload_n 1, 1) := by decide +kernel
theorem dX5_unpackNameField_47 : decode cX5_unpackNameField 47 = .ok (.invokevirtual 146, 3) := by decide +kernel
theorem dX5_unpackNameField_50 : decode cX5_unpackNameField 50 = .ok (.bipush 47, 2) := by decide +kernel
theorem dX5_unpackNameField_52 : decode cX5_unpackNameField 52 = .ok (.if_icmp .ne 19, 3) := by decide +kernel
theorem dX5_unpackNameField_55 : decode cX5_unpackNameField 55 = .ok (.aload_n 1, 1) := by decide +kernel
theorem dX5_unpackNameField_56 : decode cX5_unpackNameField 56 = .ok (.invokevirtual 152, 3) := by decide +kernel
theorem dX5_unpackNameField_59 : decode cX5_unpackNameField 59 = .ok (.pop, 1) := by decide +kernel
theorem dX5_unpackNameField_60 : decode cX5_unpackNameField 60 = .ok (.aload_n 0, 1) := by decide +kernel
theorem dX5_unpackNameField_61 : decode cX5_unpackNameField 61 = .ok (.iconst 1, 1) := by decide +kernel
theorem dX5_unpackNameField_62 : decode cX5_unpackNameField 62 = .ok (.putfield 107, 3) := by decide +kernel
theorem dX5_unpackNameField_65 : decode cX5_unpackNameField 65 = .ok (.aload_n 1, 1) := by decide +kernel
theorem dX5_unpackNameField_66 : decode cX5_unpackNameField 66 = .ok (.iload_n 3, 1) := by decide +kernel
theorem dX5_unpackNameField_67 : decode cX5_unpackNameField 67 = .ok (.invokevirtual 121, 3) := by decide +kernel
theorem dX5_unpackNameField_70 : decode cX5_unpackNameField 70 = .ok (.ireturn, 1) := by decide +kernel
theorem dX5_unpackNameField_71 : decode cX5_unpackNameField 71 = .ok (.aload_n 0, 1) := by decide +kernel
theorem dX5_unpackNameField_72 : decode cX5_unpackNameField 72 = .ok (.aload_n 1, 1) := by decide +kernel
theorem dX5_unpackNameField_73 : decode cX5_unpackNameField 73 = .ok (.iload_n 3, 1) := by decide +kernel
theorem dX5_unpackNameField_74 : decode cX5_unpackNameField 74 = .ok (.invokevirtual 118, 3) := by decide +kernel
theorem dX5_unpackNameField_77 : decode cX5_unpackNameField 77 = .ok (.putfield 128, 3) := by decide +kernel
theorem dX5_unpackNameField_80 : decode cX5_unpackNameField 80 = .ok (.aload_n 0, 1) := by decide +kernel
theorem dX5_unpackNameField_81 : decode cX5_unpackNameField 81 = .ok (.getfield 128, 3) := by decide +kernel
theorem dX5_unpackNameField_84 : decode cX5_unpackNameField 84 = .ok (.iconst (-1), 1) := by decide +kernel
theorem dX5_unpackNameField_85 : decode cX5_unpackNameField 85 = .ok (.if_icmp .eq 15, 3) := by decide +kernel
theorem dX5_unpackNameField_88 : decode cX5_unpackNameField 88 = .ok (.aload_n 1, 1) := by decide +kernel
theorem dX5_unpackNameField_89 : decode cX5_unpackNameField 89 = .ok (.iload_n 3, 1) := by decide +kernel
theorem dX5_unpackNameField_90 : decode cX5_unpackNameField 90 = .ok (.invokevirtual 121, 3) := by decide +kernel
theorem dX5_unpackNameField_93 : decode cX5_unpackNameField 93 = .ok (.ifCond .eq 7, 3) := by decide +kernel
theorem dX5_unpackNameField_96 : decode cX5_unpackNameField 96 = .ok (.iconst 1, 1) := by decide +kernel
theorem dX5_unpackNameField_97 : decode cX5_unpackNameField 97 = .ok (.goto 4, 3) := by decide +kernel
theorem dX5_unpackNameField_100 : decode cX5_unpackNameField 100 = .ok (.iconst 0, 1) := by decide +kernel
theorem dX5_unpackNameField_101 : decode cX5_unpackNameField 101 = .ok (.ireturn, 1) := by decide +kernel
theorem dX5_unpackShortName_0 : decode cX5_unpackShortName 0 = .ok (.iconst 0, 1) := by decide +kernel
theorem dX5_unpackShortName_1 : decode cX5_unpackShortName 1 = .ok (.istore_n 2, 1) := by decide +kernel
theorem dX5_unpackShortName_2 : decode cX5_unpackShortName 2 = .ok (.iload_n 2, 1) := by decide +kernel
theorem dX5_unpackShortName_3 : decode cX5_unpackShortName 3 = .ok (.bipush 7, 2) := by decide +kernel
theorem dX5_unpackShortName_5 : decode cX5_unpackShortName 5 = .ok (.if_icmp .ge 27, 3) := by decide +kernel
theorem dX5_unpackShortName_8 : decode cX5_unpackShortName 8 = .ok (.aload_n 0, 1) := by decide +kernel
theorem dX5_unpackShortName_9 : decode cX5_unpackShortName 9 = .ok (.invokevirtual 146, 3) := by decide +kernel
theorem dX5_unpackShortName_12 : decode cX5_unpackShortName 12 = .ok (.invokestatic 155, 3) := by decide +kernel
theorem dX5_unpackShortName_15 : decode cX5_unpackShortName 15 = .ok (.ifCond .eq 17, 3) := by decide +kernel
theorem dX5_unpackShortName_18 : decode cX5_unpackShortName 18 = .ok (.aload_n 1, 1) := by decide +kernel
theorem dX5_unpackShortName_19 : decode cX5_unpackShortName 19 = .ok (.aload_n 0, 1) := by decide +kernel
theorem dX5_unpackShortName_20 : decode cX5_unpackShortName 20 = .ok (.invokevirtual 152, 3) := by decide +kernel
theorem dX5_unpackShortName_23 : decode cX5_unpackShortName 23 = .ok (.invokevirtual 158, 3) := by decide +kernel
theorem dX5_unpackShortName_26 : decode cX5_unpackShortName 26 = .ok (.iinc 2 1, 3) := by decide +kernel
theorem dX5_unpackShortName_29 : decode cX5_unpackShortName 29 = .ok (.goto (-27), 3) := by decide +kernel
theorem dX5_unpackShortName_32 : decode cX5_unpackShortName 32 = .ok (.aload_n 0, 1) := by decide +kernel
theorem dX5_unpackShortName_33 : decode cX5_unpackShortName 33 = .ok (.bipush 47, 2) := by decide +kernel
theorem dX5_unpackShortName_35 : decode cX5_unpackShortName 35 = .ok (.invokevirtual 161, 3) := by decide +kernel
theorem dX5_unpackShortName_38 : decode cX5_unpackShortName 38 = .ok (.ireturn, 1) := by decide +kernel
theorem dX5_unpackTable_0 : decode cX5_unpackTable 0 = .ok (.iload_n 2, 1) := by decide +kernel
theorem dX5_unpackTable_1 : decode cX5_unpackTable 1 = .ok (.ldc 11, 2) := by decide +kernel
theorem dX5_unpackTable_3 : decode cX5_unpackTable 3 = .ok (.invokevirtual 164, 3) := by decide +kernel
theorem dX5_unpackTable_6 : decode cX5_unpackTable 6 = .ok (.if_icmp .eq 10, 3) := by decide +kernel
theorem dX5_unpackTable_9 : decode cX5_unpackTable 9 = .ok (.aload_n 1, 1) := by decide +kernel
theorem dX5_unpackTable_10 : decode cX5_unpackTable 10 = .ok (.iconst 4, 1) := by decide +kernel
theorem dX5_unpackTable_11 : decode cX5_unpackTable 11 = .ok (.iload_n 2, 1) := by decide +kernel
theorem dX5_unpackTable_12 : decode cX5_unpackTable 12 = .ok (.invokevirtual 134, 3) := by decide +kernel
theorem dX5_unpackTable_15 : decode cX5_unpackTable 15 = .ok (.ireturn, 1) := by decide +kernel
theorem dX5_unpackTable_16 : decode cX5_unpackTable 16 = .ok (.iload_n 3, 1) := by decide +kernel
theorem dX5_unpackTable_17 : decode cX5_unpackTable 17 = .ok (.sipush 300, 3) := by decide +kernel
theorem dX5_unpackTable_20 : decode cX5_unpackTable 20 = .ok (.if_icmp .le 13, 3) := by decide +kernel
theorem dX5_unpackTable_23 : decode cX5_unpackTable 23 = .ok (.aload_n 1, 1) := by decide +kernel
theorem dX5_unpackTable_24 : decode cX5_unpackTable 24 = .ok (.iconst 4, 1) := by decide +kernel
theorem dX5_unpackTable_25 : decode cX5_unpackTable 25 = .ok (.iload_n 2, 1) := by decide +kernel
theorem dX5_unpackTable_26 : decode cX5_unpackTable 26 = .ok (.bipush 8, 2) := by decide +kernel
theorem dX5_unpackTable_28 : decode cX5_unpackTable 28 = .ok (.iadd, 1) := by decide +kernel
theorem dX5_unpackTable_29 : decode cX5_unpackTable 29 = .ok (.invokevirtual 134, 3) := by decide +kernel
theorem dX5_unpackTable_32 : decode cX5_unpackTable 32 = .ok (.ireturn, 1) := by decide +kernel
theorem dX5_unpackTable_33 : decode cX5_unpackTable 33 = .ok (.aload_n 0, 1) := by decide +kernel
theorem dX5_unpackTable_34 : decode cX5_unpackTable 34 = .ok (.aload_n 1, 1) := by decide +kernel
theorem dX5_unpackTable_35 : decode cX5_unpackTable 35 = .ok (.invokevirtual 95, 3) := by decide +kernel
theorem dX5_unpackTable_38 : decode cX5_unpackTable 38 = .ok (.putfield 169, 3) := by decide +kernel
theorem dX5_unpackTable_41 : decode cX5_unpackTable 41 = .ok (.aload_n 0, 1) := by decide +kernel
theorem dX5_unpackTable_42 : decode cX5_unpackTable 42 = .ok (.iload_n 3, 1) := by decide +kernel
theorem dX5_unpackTable_43 : decode cX5_unpackTable 43 = .ok (.putfield 81, 3) := by decide +kernel
theorem dX5_unpackTable_46 : decode cX5_unpackTable 46 = .ok (.aload_n 1, 1) := by decide +kernel
theorem dX5_unpackTable_47 : decode cX5_unpackTable 47 = .ok (.iload_n 3, 1) := by decide +kernel
theorem dX5_unpackTable_48 : decode cX5_unpackTable 48 = .ok (.invokevirtual 172, 3) := by decide +kernel
theorem dX5_unpackTable_51 : decode cX5_unpackTable 51 = .ok (.ifCond .eq 15, 3) := by decide +kernel
theorem dX5_unpackTable_54 : decode cX5_unpackTable 54 = .ok (.aload_n 1, 1) := by decide +kernel
theorem dX5_unpackTable_55 : decode cX5_unpackTable 55 = .ok (.iload_n 3, 1) := by decide +kernel
theorem dX5_unpackTable_56 : decode cX5_unpackTable 56 = .ok (.invokestatic 142, 3) := by decide +kernel
theorem dX5_unpackTable_59 : decode cX5_unpackTable 59 = .ok (.ifCond .eq 7, 3) := by decide +kernel
theorem dX5_unpackTable_62 : decode cX5_unpackTable 62 = .ok (.iconst 1, 1) := by decide +kernel
theorem dX5_unpackTable_63 : decode cX5_unpackTable 63 = .ok (.goto 4, 3) := by decide +kernel
theorem dX5_unpackTable_66 : decode cX5_unpackTable 66 = .ok (.iconst 0, 1) := by decide +kernel
theorem dX5_unpackTable_67 : decode cX5_unpackTable 67 = .ok (.ireturn, 1) := by decide +kernel
theorem dX5_unpackLongName_0 : decode cX5_unpackLongName 0 = .ok (.aload_n 0, 1) := by decide +kernel
theorem dX5_unpackLongName_1 : decode cX5_unpackLongName 1 = .ok (.getfield 81, 3) := by decide +kernel
theorem dX5_unpackLongName_4 : decode cX5_unpackLongName 4 = .ok (.iconst (-1), 1) := by decide +kernel
theorem dX5_unpackLongName_5 : decode cX5_unpackLongName 5 = .ok (.if_icmp .ne 10, 3) := by decide +kernel
theorem dX5_unpackLongName_8 : decode cX5_unpackLongName 8 = .ok (.aload_n 1, 1) := by decide +kernel
theorem dX5_unpackLongName_9 : decode cX5_unpackLongName 9 = .ok (.iconst 1, 1) := by decide +kernel
theorem dX5_unpackLongName_10 : decode cX5_unpackLongName 10 = .ok (.iload_n 3, 1) := by decide +kernel
theorem dX5_unpackLongName_11 : decode cX5_unpackLongName 11 = .ok (.invokevirtual 134, 3) := by decide +kernel
theorem dX5_unpackLongName_14 : decode cX5_unpackLongName 14 = .ok (.ireturn, 1) := by decide +kernel
theorem dX5_unpackLongName_15 : decode cX5_unpackLongName 15 = .ok (.iconst 0, 1) := by decide +kernel
theorem dX5_unpackLongName_16 : decode cX5_unpackLongName 16 = .ok (.istore 4, 2) := by decide +kernel
theorem dX5_unpackLongName_18 : decode cX5_unpackLongName 18 = .ok (.iload 4, 2) := by decide +kernel
theorem dX5_unpackLongName_20 : decode cX5_unpackLongName 20 = .ok (.bipush 20, 2) := by decide +kernel
theorem dX5_unpackLongName_22 : decode cX5_unpackLongName 22 = .ok (.if_icmp .gt 92, 3) := by decide +kernel
theorem dX5_unpackLongName_25 : decode cX5_unpackLongName 25 = .ok (.aload_n 0, 1) := by decide +kernel
theorem dX5_unpackLongName_26 : decode cX5_unpackLongName 26 = .ok (.aload_n 1, 1) := by decide +kernel
theorem dX5_unpackLongName_27 : decode cX5_unpackLongName 27 = .ok (.aload_n 0, 1) := by decide +kernel
theorem dX5_unpackLongName_28 : decode cX5_unpackLongName 28 = .ok (.getfield 128, 3) := by decide +kernel
theorem dX5_unpackLongName_31 : decode cX5_unpackLongName 31 = .ok (.iload 4, 2) := by decide +kernel
theorem dX5_unpackLongName_33 : decode cX5_unpackLongName 33 = .ok (.iadd, 1) := by decide +kernel
theorem dX5_unpackLongName_34 : decode cX5_unpackLongName 34 = .ok (.invokevirtual 175, 3) := by decide +kernel
theorem dX5_unpackLongName_37 : decode cX5_unpackLongName 37 = .ok (.istore 5, 2) := by decide +kernel
theorem dX5_unpackLongName_39 : decode cX5_unpackLongName 39 = .ok (.iload 5, 2) := by decide +kernel
theorem dX5_unpackLongName_41 : decode cX5_unpackLongName 41 = .ok (.bipush 47, 2) := by decide +kernel
theorem dX5_unpackLongName_43 : decode cX5_unpackLongName 43 = .ok (.if_icmp .ne 24, 3) := by decide +kernel
theorem dX5_unpackLongName_46 : decode cX5_unpackLongName 46 = .ok (.iload 4, 2) := by decide +kernel
theorem dX5_unpackLongName_48 : decode cX5_unpackLongName 48 = .ok (.ifCond .le 19, 3) := by decide +kernel
theorem dX5_unpackLongName_51 : decode cX5_unpackLongName 51 = .ok (.aload_n 0, 1) := by decide +kernel
theorem dX5_unpackLongName_52 : decode cX5_unpackLongName 52 = .ok (.aload_n 1, 1) := by decide +kernel
theorem dX5_unpackLongName_53 : decode cX5_unpackLongName 53 = .ok (.aload_n 0, 1) := by decide +kernel
theorem dX5_unpackLongName_54 : decode cX5_unpackLongName 54 = .ok (.getfield 128, 3) := by decide +kernel
theorem dX5_unpackLongName_57 : decode cX5_unpackLongName 57 = .ok (.iload 4, 2) := by decide +kernel
theorem dX5_unpackLongName_59 : decode cX5_unpackLongName 59 = .ok (.iadd, 1) := by decide +kernel
theorem dX5_unpackLongName_60 : decode cX5_unpackLongName 60 = .ok (.iconst 1, 1) := by decide +kernel
theorem dX5_unpackLongName_61 : decode cX5_unpackLongName 61 = .ok (.iadd, 1) := by decide +kernel
theorem dX5_unpackLongName_62 : decode cX5_unpackLongName 62 = .ok (.iload_n 3, 1) := by decide +kernel
theorem dX5_unpackLongName_63 : decode cX5_unpackLongName 63 = .ok (.invokevirtual 179, 3) := by decide +kernel
theorem dX5_unpackLongName_66 : decode cX5_unpackLongName 66 = .ok (.ireturn, 1) := by decide +kernel
theorem dX5_unpackLongName_67 : decode cX5_unpackLongName 67 = .ok (.iload 5, 2) := by decide +kernel
theorem dX5_unpackLongName_69 : decode cX5_unpackLongName 69 = .ok (.iconst (-1), 1) := by decide +kernel
theorem dX5_unpackLongName_70 : decode cX5_unpackLongName 70 = .ok (.if_icmp .ne 10, 3) := by decide +kernel
theorem dX5_unpackLongName_73 : decode cX5_unpackLongName 73 = .ok (.aload_n 1, 1) := by decide +kernel
theorem dX5_unpackLongName_74 : decode cX5_unpackLongName 74 = .ok (.iconst 2, 1) := by decide +kernel
theorem dX5_unpackLongName_75 : decode cX5_unpackLongName 75 = .ok (.iload_n 3, 1) := by decide +kernel
theorem dX5_unpackLongName_76 : decode cX5_unpackLongName 76 = .ok (.invokevirtual 134, 3) := by decide +kernel
theorem dX5_unpackLongName_79 : decode cX5_unpackLongName 79 = .ok (.ireturn, 1) := by decide +kernel
theorem dX5_unpackLongName_80 : decode cX5_unpackLongName 80 = .ok (.iload 4, 2) := by decide +kernel
theorem dX5_unpackLongName_82 : decode cX5_unpackLongName 82 = .ok (.bipush 20, 2) := by decide +kernel
theorem dX5_unpackLongName_84 : decode cX5_unpackLongName 84 = .ok (.if_icmp .eq 11, 3) := by decide +kernel
theorem dX5_unpackLongName_87 : decode cX5_unpackLongName 87 = .ok (.iload 5, 2) := by decide +kernel
theorem dX5_unpackLongName_89 : decode cX5_unpackLongName 89 = .ok (.invokestatic 155, 3) := by decide +kernel
theorem dX5_unpackLongName_92 : decode cX5_unpackLongName 92 = .ok (.ifCond .ne 10, 3) := by decide +kernel
theorem dX5_unpackLongName_95 : decode cX5_unpackLongName 95 = .ok (.aload_n 1, 1) := by decide +kernel
theorem dX5_unpackLongName_96 : decode cX5_unpackLongName 96 = .ok (.iconst 4, 1) := by decide +kernel
theorem dX5_unpackLongName_97 : decode cX5_unpackLongName 97 = .ok (.iload_n 3, 1) := by decide +kernel
theorem dX5_unpackLongName_98 : decode cX5_unpackLongName 98 = .ok (.invokevirtual 134, 3) := by decide +kernel
theorem dX5_unpackLongName_101 : decode cX5_unpackLongName 101 = .ok (.ireturn, 1) := by decide +kernel
theorem dX5_unpackLongName_102 : decode cX5_unpackLongName 102 = .ok (.aload_n 2, 1) := by decide +kernel
theorem dX5_unpackLongName_103 : decode cX5_unpackLongName 103 = .ok (.iload 5, 2) := by decide +kernel
theorem dX5_unpackLongName_105 : decode cX5_unpackLongName 105 = .ok (.invokevirtual 158, 3) := by decide +kernel
theorem dX5_unpackLongName_108 : decode cX5_unpackLongName 108 = .ok (.iinc 4 1, 3) := by decide +kernel
theorem dX5_unpackLongName_111 : decode cX5_unpackLongName 111 = .ok (.goto (-93), 3) := by decide +kernel
theorem dX5_unpackLongName_114 : decode cX5_unpackLongName 114 = .ok (.iconst 0, 1) := by decide +kernel
theorem dX5_unpackLongName_115 : decode cX5_unpackLongName 115 = .ok (.ireturn, 1) := by decide +kernel
theorem dX5_unpackLongNameEnd_0 : decode cX5_unpackLongNameEnd 0 = .ok (.aload_n 0, 1) := by decide +kernel
theorem dX5_unpackLongNameEnd_1 : decode cX5_unpackLongNameEnd 1 = .ok (.aload_n 1, 1) := by decide +kernel
theorem dX5_unpackLongNameEnd_2 : decode cX5_unpackLongNameEnd 2 = .ok (.iload_n 2, 1) := by decide +kernel
theorem dX5_unpackLongNameEnd_3 : decode cX5_unpackLongNameEnd 3 = .ok (.invokevirtual 175, 3) := by decide +kernel
theorem dX5_unpackLongNameEnd_6 : decode cX5_unpackLongNameEnd 6 = .ok (.istore 4, 2) := by decide +kernel
theorem dX5_unpackLongNameEnd_8 : decode cX5_unpackLongNameEnd 8 = .ok (.iload 4, 2) := by decide +kernel
theorem dX5_unpackLongNameEnd_10 : decode cX5_unpackLongNameEnd 10 = .ok (.iconst (-1), 1) := by decide +kernel
theorem dX5_unpackLongNameEnd_11 : decode cX5_unpackLongNameEnd 11 = .ok (.if_icmp .ne 10, 3) := by decide +kernel
theorem dX5_unpackLongNameEnd_14 : decode cX5_unpackLongNameEnd 14 = .ok (.aload_n 1, 1) := by decide +kernel
theorem dX5_unpackLongNameEnd_15 : decode cX5_unpackLongNameEnd 15 = .ok (.iconst 2, 1) := by decide +kernel
theorem dX5_unpackLongNameEnd_16 : decode cX5_unpackLongNameEnd 16 = .ok (.iload_n 3, 1) := by decide +kernel
theorem dX5_unpackLongNameEnd_17 : decode cX5_unpackLongNameEnd 17 = .ok (.invokevirtual 134, 3) := by decide +kernel
theorem dX5_unpackLongNameEnd_20 : decode cX5_unpackLongNameEnd 20 = .ok (.ireturn, 1) := by decide +kernel
theorem dX5_unpackLongNameEnd_21 : decode cX5_unpackLongNameEnd 21 = .ok (.iload 4, 2) := by decide +kernel
theorem dX5_unpackLongNameEnd_23 : decode cX5_unpackLongNameEnd 23 = .ok (.bipush 10, 2) := by decide +kernel
theorem dX5_unpackLongNameEnd_25 : decode cX5_unpackLongNameEnd 25 = .ok (.if_icmp .eq 12, 3) := by decide +kernel
theorem dX5_unpackLongNameEnd_28 : decode cX5_unpackLongNameEnd 28 = .ok (.aload_n 1, 1) := by decide +kernel
theorem dX5_unpackLongNameEnd_29 : decode cX5_unpackLongNameEnd 29 = .ok (.iconst 4, 1) := by decide +kernel
theorem dX5_unpackLongNameEnd_30 : decode cX5_unpackLongNameEnd 30 = .ok (.iload_n 3, 1) := by decide +kernel
theorem dX5_unpackLongNameEnd_31 : decode cX5_unpackLongNameEnd 31 = .ok (.invokevirtual 134, 3) := by decide +kernel
theorem dX5_unpackLongNameEnd_34 : decode cX5_unpackLongNameEnd 34 = .ok (.ifCond .eq 7, 3) := by decide +kernel
theorem dX5_unpackLongNameEnd_37 : decode cX5_unpackLongNameEnd 37 = .ok (.iconst 1, 1) := by decide +kernel
theorem dX5_unpackLongNameEnd_38 : decode cX5_unpackLongNameEnd 38 = .ok (.goto 4, 3) := by decide +kernel
theorem dX5_unpackLongNameEnd_41 : decode cX5_unpackLongNameEnd 41 = .ok (.iconst 0, 1) := by decide +kernel
theorem dX5_unpackLongNameEnd_42 : decode cX5_unpackLongNameEnd 42 = .ok (.ireturn, 1) := by decide +kernel
theorem dX5_tableByte_0 : decode cX5_tableByte 0 = .ok (.iload_n 2, 1) := by decide +kernel
theorem dX5_tableByte_1 : decode cX5_tableByte 1 = .ok (.ifCond .lt 24, 3) := by decide +kernel
theorem dX5_tableByte_4 : decode cX5_tableByte 4 = .ok (.iload_n 2, 1) := by decide +kernel
theorem dX5_tableByte_5 : decode cX5_tableByte 5 = .ok (.aload_n 0, 1) := by decide +kernel
theorem dX5_tableByte_6 : decode cX5_tableByte 6 = .ok (.getfield 81, 3) := by decide +kernel
theorem dX5_tableByte_9 : decode cX5_tableByte 9 = .ok (.if_icmp .ge 16, 3) := by decide +kernel
theorem dX5_tableByte_12 : decode cX5_tableByte 12 = .ok (.aload_n 1, 1) := by decide +kernel
theorem dX5_tableByte_13 : decode cX5_tableByte 13 = .ok (.aload_n 0, 1) := by decide +kernel
theorem dX5_tableByte_14 : decode cX5_tableByte 14 = .ok (.getfield 169, 3) := by decide +kernel
theorem dX5_tableByte_17 : decode cX5_tableByte 17 = .ok (.iload_n 2, 1) := by decide +kernel
theorem dX5_tableByte_18 : decode cX5_tableByte 18 = .ok (.iadd, 1) := by decide +kernel
theorem dX5_tableByte_19 : decode cX5_tableByte 19 = .ok (.invokevirtual 182, 3) := by decide +kernel
theorem dX5_tableByte_22 : decode cX5_tableByte 22 = .ok (.goto 4, 3) := by decide +kernel
theorem dX5_tableByte_25 : decode cX5_tableByte 25 = .ok (.iconst (-1), 1) := by decide +kernel
theorem dX5_tableByte_26 : decode cX5_tableByte 26 = .ok (.ireturn, 1) := by decide +kernel
theorem dX5_unpackPad_0 : decode cX5_unpackPad 0 = .ok (.iload_n 1, 1) := by decide +kernel
theorem dX5_unpackPad_1 : decode cX5_unpackPad 1 = .ok (.invokestatic 77, 3) := by decide +kernel
theorem dX5_unpackPad_4 : decode cX5_unpackPad 4 = .ok (.ifCond .eq 12, 3) := by decide +kernel
theorem dX5_unpackPad_7 : decode cX5_unpackPad 7 = .ok (.aload_n 0, 1) := by decide +kernel
theorem dX5_unpackPad_8 : decode cX5_unpackPad 8 = .ok (.bipush 10, 2) := by decide +kernel
theorem dX5_unpackPad_10 : decode cX5_unpackPad 10 = .ok (.invokevirtual 161, 3) := by decide +kernel
theorem dX5_unpackPad_13 : decode cX5_unpackPad 13 = .ok (.ifCond .eq 7, 3) := by decide +kernel
theorem dX5_unpackPad_16 : decode cX5_unpackPad 16 = .ok (.iconst 1, 1) := by decide +kernel
theorem dX5_unpackPad_17 : decode cX5_unpackPad 17 = .ok (.goto 4, 3) := by decide +kernel
theorem dX5_unpackPad_20 : decode cX5_unpackPad 20 = .ok (.iconst 0, 1) := by decide +kernel
theorem dX5_unpackPad_21 : decode cX5_unpackPad 21 = .ok (.ireturn, 1) := by decide +kernel
