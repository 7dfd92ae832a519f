theorem dX11_init_0 : decode cX11_init 0 = .ok (.aload_n 0, 1) := by decide +kernel
theorem dX11_init_1 : decode cX11_init 1 = .ok (.invokespecial 1, 3) := by decide +kernel
theorem dX11_init_4 : decode cX11_init 4 = .ok (.aload_n 0, 1) := by decide +kernel
theorem dX11_init_5 : decode cX11_init 5 = .ok (.bipush 12, 2) := by decide +kernel
theorem dX11_init_7 : decode cX11_init 7 = .ok (.newarray .int, 2) := by decide +kernel
theorem dX11_init_9 : decode cX11_init 9 = .ok (.putfield 7, 3) := by decide +kernel
theorem dX11_init_12 : decode cX11_init 12 = .ok (.aload_n 0, 1) := by decide +kernel
theorem dX11_init_13 : decode cX11_init 13 = .ok (.sipush 240, 3) := by decide +kernel
theorem dX11_init_16 : decode cX11_init 16 = .ok (.newarray .int, 2) := by decide +kernel
theorem dX11_init_18 : decode cX11_init 18 = .ok (.putfield 13, 3) := by decide +kernel
theorem dX11_init_21 : decode cX11_init 21 = .ok (.aload_n 0, 1) := by decide +kernel
theorem dX11_init_22 : decode cX11_init 22 = .ok (.bipush 12, 2) := by decide +kernel
theorem dX11_init_24 : decode cX11_init 24 = .ok (.newarray .int, 2) := by decide +kernel
theorem dX11_init_26 : decode cX11_init 26 = .ok (.putfield 16, 3) := by decide +kernel
theorem dX11_init_29 : decode cX11_init 29 = .ok (.aload_n 0, 1) := by decide +kernel
theorem dX11_init_30 : decode cX11_init 30 = .ok (.bipush 12, 2) := by decide +kernel
theorem dX11_init_32 : decode cX11_init 32 = .ok (.newarray .int, 2) := by decide +kernel
theorem dX11_init_34 : decode cX11_init 34 = .ok (.putfield 19, 3) := by decide +kernel
theorem dX11_init_37 : decode cX11_init 37 = .ok (.aload_n 0, 1) := by decide +kernel
theorem dX11_init_38 : decode cX11_init 38 = .ok (.sipush 720, 3) := by decide +kernel
theorem dX11_init_41 : decode cX11_init 41 = .ok (.newarray .int, 2) := by decide +kernel
theorem dX11_init_43 : decode cX11_init 43 = .ok (.putfield 22, 3) := by decide +kernel
theorem dX11_init_46 : decode cX11_init 46 = .ok (.aload_n 0, 1) := by decide +kernel
theorem dX11_init_47 : decode cX11_init 47 = .ok (.sipush 1500, 3) := by decide +kernel
theorem dX11_init_50 : decode cX11_init 50 = .ok (.newarray .int, 2) := by decide +kernel
theorem dX11_init_52 : decode cX11_init 52 = .ok (.putfield 25, 3) := by decide +kernel
theorem dX11_init_55 : decode cX11_init 55 = .ok (.aload_n 0, 1) := by decide +kernel
theorem dX11_init_56 : decode cX11_init 56 = .ok (.sipush 4000, 3) := by decide +kernel
theorem dX11_init_59 : decode cX11_init 59 = .ok (.newarray .int, 2) := by decide +kernel
theorem dX11_init_61 : decode cX11_init 61 = .ok (.putfield 28, 3) := by decide +kernel
theorem dX11_init_64 : decode cX11_init 64 = .ok (.aload_n 0, 1) := by decide +kernel
theorem dX11_init_65 : decode cX11_init 65 = .ok (.sipush 160, 3) := by decide +kernel
theorem dX11_init_68 : decode cX11_init 68 = .ok (.newarray .int, 2) := by decide +kernel
theorem dX11_init_70 : decode cX11_init 70 = .ok (.putfield 31, 3) := by decide +kernel
theorem dX11_init_73 : decode cX11_init 73 = .ok (.aload_n 0, 1) := by decide +kernel
theorem dX11_init_74 : decode cX11_init 74 = .ok (.sipush 3200, 3) := by decide +kernel
theorem dX11_init_77 : decode cX11_init 77 = .ok (.newarray .int, 2) := by decide +kernel
theorem dX11_init_79 : decode cX11_init 79 = .ok (.putfield 34, 3) := by decide +kernel
theorem dX11_init_82 : decode cX11_init 82 = .ok (.aload_n 0, 1) := by decide +kernel
theorem dX11_init_83 : decode cX11_init 83 = .ok (.sipush 160, 3) := by decide +kernel
theorem dX11_init_86 : decode cX11_init 86 = .ok (.newarray .int, 2) := by decide +kernel
theorem dX11_init_88 : decode cX11_init 88 = .ok (.putfield 37, 3) := by decide +kernel
theorem dX11_init_91 : decode cX11_init 91 = .ok (.aload_n 0, 1) := by decide +kernel
theorem dX11_init_92 : decode cX11_init 92 = .ok (.sipush 9600, 3) := by decide +kernel
theorem dX11_init_95 : decode cX11_init 95 = .ok (.newarray .int, 2) := by decide +kernel
theorem dX11_init_97 : decode cX11_init 97 = .ok (.putfield 40, 3) := by decide +kernel
theorem dX11_init_100 : decode cX11_init 100 = .ok (.aload_n 0, 1) := by decide +kernel
theorem dX11_init_101 : decode cX11_init 101 = .ok (.sipush 160, 3) := by decide +kernel
theorem dX11_init_104 : decode cX11_init 104 = .ok (.newarray .int, 2) := by decide +kernel
theorem dX11_init_106 : decode cX11_init 106 = .ok (.putfield 43, 3) := by decide +kernel
theorem dX11_init_109 : decode cX11_init 109 = .ok (.aload_n 0, 1) := by decide +kernel
theorem dX11_init_110 : decode cX11_init 110 = .ok (.sipush 160, 3) := by decide +kernel
theorem dX11_init_113 : decode cX11_init 113 = .ok (.newarray .int, 2) := by decide +kernel
theorem dX11_init_115 : decode cX11_init 115 = .ok (.putfield 46, 3) := by decide +kernel
theorem dX11_init_118 : decode cX11_init 118 = .ok (.aload_n 0, 1) := by decide +kernel
theorem dX11_init_119 : decode cX11_init 119 = .ok (.sipush 160, 3) := by decide +kernel
theorem dX11_init_122 : decode cX11_init 122 = .ok (.newarray .int, 2) := by decide +kernel
theorem dX11_init_124 : decode cX11_init 124 = .ok (.putfield 49, 3) := by decide +kernel
theorem dX11_init_127 : decode cX11_init 127 = .ok (.aload_n 0, 1) := by decide +kernel
theorem dX11_init_128 : decode cX11_init 128 = .ok (.sipush 300, 3) := by decide +kernel
theorem dX11_init_131 : decode cX11_init 131 = .ok (.newarray .int, 2) := by decide +kernel
theorem dX11_init_133 : decode cX11_init 133 = .ok (.putfield 52, 3) := by decide +kernel
theorem dX11_init_136 : decode cX11_init 136 = .ok (.aload_n 0, 1) := by decide +kernel
theorem dX11_init_137 : decode cX11_init 137 = .ok (.iconst (-1), 1) := by decide +kernel
theorem dX11_init_138 : decode cX11_init 138 = .ok (.putfield 55, 3) := by decide +kernel
theorem dX11_init_141 : decode cX11_init 141 = .ok (.return_, 1) := by decide +kernel
theorem dX11_thrown_0 : decode cX11_thrown 0 = .ok (.aload_n 0, 1) := by decide +kernel
theorem dX11_thrown_1 : decode cX11_thrown 1 = .ok (.getfield 59, 3) := by decide +kernel
theorem dX11_thrown_4 : decode cX11_thrown 4 = .ok (.ireturn, 1) := by decide +kernel
theorem dX11_in_0 : decode cX11_in 0 = .ok (.iload_n 0, 1) := by decide +kernel
theorem dX11_in_1 : decode cX11_in 1 = .ok (.iload_n 1, 1) := by decide +kernel
theorem dX11_in_2 : decode cX11_in 2 = .ok (.if_icmp .lt 12, 3) := by decide +kernel
theorem dX11_in_5 : decode cX11_in 5 = .ok (.iload_n 0, 1) := by decide +kernel
theorem dX11_in_6 : decode cX11_in 6 = .ok (.iload_n 2, 1) := by decide +kernel
theorem dX11_in_7 : decode cX11_in 7 = .ok (.if_icmp .gt 7, 3) := by decide +kernel
theorem dX11_in_10 : decode cX11_in 10 = .ok (.iconst 1, 1) := by decide +kernel
theorem dX11_in_11 : decode cX11_in 11 = .ok (.goto 4, 3) := by decide +kernel
theorem dX11_in_14 : decode cX11_in 14 = .ok (.iconst 0, 1) := by decide +kernel
theorem dX11_in_15 : decode cX11_in 15 = .ok (.ireturn, 1) := by decide +kernel
theorem dX11_isLetter_0 : decode cX11_isLetter 0 = .ok (.iload_n 0, 1) := by decide +kernel
theorem dX11_isLetter_1 : decode cX11_isLetter 1 = .ok (.bipush 33, 2) := by decide +kernel
theorem dX11_isLetter_3 : decode cX11_isLetter 3 = .ok (.bipush 126, 2) := by decide +kernel
theorem dX11_isLetter_5 : decode cX11_isLetter 5 = .ok (.invokestatic 62, 3) := by decide +kernel
theorem dX11_isLetter_8 : decode cX11_isLetter 8 = .ok (.ifCond .eq 13, 3) := by decide +kernel
theorem dX11_isLetter_11 : decode cX11_isLetter 11 = .ok (.iload_n 0, 1) := by decide +kernel
theorem dX11_isLetter_12 : decode cX11_isLetter 12 = .ok (.bipush 47, 2) := by decide +kernel
theorem dX11_isLetter_14 : decode cX11_isLetter 14 = .ok (.if_icmp .eq 7, 3) := by decide +kernel
theorem dX11_isLetter_17 : decode cX11_isLetter 17 = .ok (.iconst 1, 1) := by decide +kernel
theorem dX11_isLetter_18 : decode cX11_isLetter 18 = .ok (.goto 4, 3) := by decide +kernel
theorem dX11_isLetter_21 : decode cX11_isLetter 21 = .ok (.iconst 0, 1) := by decide +kernel
theorem dX11_isLetter_22 : decode cX11_isLetter 22 = .ok (.ireturn, 1) := by decide +kernel
theorem dX11_trailer_0 : decode cX11_trailer 0 = .ok (.iload_n 0, 1) := by decide +kernel
theorem dX11_trailer_1 : decode cX11_trailer 1 = .ok (.tableswitch 64 0 6 #[43, 46, 49, 52, 55, 58, 61], 43) := by decide +kernel
theorem dX11_trailer_44 : decode cX11_trailer 44 = .ok (.bipush 84, 2) := by decide +kernel
theorem dX11_trailer_46 : decode cX11_trailer 46 = .ok (.ireturn, 1) := by decide +kernel
theorem dX11_trailer_47 : decode cX11_trailer 47 = .ok (.bipush 82, 2) := by decide +kernel
theorem dX11_trailer_49 : decode cX11_trailer 49 = .ok (.ireturn, 1) := by decide +kernel
theorem dX11_trailer_50 : decode cX11_trailer 50 = .ok (.bipush 65, 2) := by decide +kernel
theorem dX11_trailer_52 : decode cX11_trailer 52 = .ok (.ireturn, 1) := by decide +kernel
theorem dX11_trailer_53 : decode cX11_trailer 53 = .ok (.bipush 73, 2) := by decide +kernel
theorem dX11_trailer_55 : decode cX11_trailer 55 = .ok (.ireturn, 1) := by decide +kernel
theorem dX11_trailer_56 : decode cX11_trailer 56 = .ok (.bipush 76, 2) := by decide +kernel
theorem dX11_trailer_58 : decode cX11_trailer 58 = .ok (.ireturn, 1) := by decide +kernel
theorem dX11_trailer_59 : decode cX11_trailer 59 = .ok (.bipush 69, 2) := by decide +kernel
theorem dX11_trailer_61 : decode cX11_trailer 61 = .ok (.ireturn, 1) := by decide +kernel
theorem dX11_trailer_62 : decode cX11_trailer 62 = .ok (.bipush 82, 2) := by decide +kernel
theorem dX11_trailer_64 : decode cX11_trailer 64 = .ok (.ireturn, 1) := by decide +kernel
theorem dX11_trailer_65 : decode cX11_trailer 65 = .ok (.bipush 33, 2) := by decide +kernel
theorem dX11_trailer_67 : decode cX11_trailer 67 = .ok (.ireturn, 1) := by decide +kernel
theorem dX11_isTrailer_0 : decode cX11_isTrailer 0 = .ok (.iload_n 2, 1) := by decide +kernel
theorem dX11_isTrailer_1 : decode cX11_isTrailer 1 = .ok (.bipush 8, 2) := by decide +kernel
theorem dX11_isTrailer_3 : decode cX11_isTrailer 3 = .ok (.if_icmp .ne 7, 3) := by decide +kernel
theorem dX11_isTrailer_6 : decode cX11_isTrailer 6 = .ok (.iconst 1, 1) := by decide +kernel
theorem dX11_isTrailer_7 : decode cX11_isTrailer 7 = .ok (.goto 4, 3) := by decide +kernel
theorem dX11_isTrailer_10 : decode cX11_isTrailer 10 = .ok (.iconst 0, 1) := by decide +kernel
theorem dX11_isTrailer_11 : decode cX11_isTrailer 11 = .ok (.istore_n 3, 1) := by decide +kernel
theorem dX11_isTrailer_12 : decode cX11_isTrailer 12 = .ok (.iconst 0, 1) := by decide +kernel
theorem dX11_isTrailer_13 : decode cX11_isTrailer 13 = .ok (.istore 4, 2) := by decide +kernel
theorem dX11_isTrailer_15 : decode cX11_isTrailer 15 = .ok (.iload 4, 2) := by decide +kernel
theorem dX11_isTrailer_17 : decode cX11_isTrailer 17 = .ok (.bipush 8, 2) := by decide +kernel
theorem dX11_isTrailer_19 : decode cX11_isTrailer 19 = .ok (.if_icmp .ge 33, 3) := by decide +kernel
theorem dX11_isTrailer_22 : decode cX11_isTrailer 22 = .ok (.iload_n 3, 1) := by decide +kernel
theorem dX11_isTrailer_23 : decode cX11_isTrailer 23 = .ok (.ifCond .eq 29, 3) := by decide +kernel
theorem dX11_isTrailer_26 : decode cX11_isTrailer 26 = .ok (.aload_n 0, 1) := by decide +kernel
theorem dX11_isTrailer_27 : decode cX11_isTrailer 27 = .ok (.iload_n 1, 1) := by decide +kernel
theorem dX11_isTrailer_28 : decode cX11_isTrailer 28 = .ok (.iload 4, 2) := by decide +kernel
theorem dX11_isTrailer_30 : decode cX11_isTrailer 30 = .ok (.iadd, 1) := by decide +kernel
theorem dX11_isTrailer_31 : decode cX11_isTrailer 31 = .ok (.iaload, 1) := by decide +kernel
theorem dX11_isTrailer_32 : decode cX11_isTrailer 32 = .ok (.iload 4, 2) := by decide +kernel
theorem dX11_isTrailer_34 : decode cX11_isTrailer 34 = .ok (.invokestatic 66, 3) := by decide +kernel
theorem dX11_isTrailer_37 : decode cX11_isTrailer 37 = .ok (.if_icmp .ne 7, 3) := by decide +kernel
theorem dX11_isTrailer_40 : decode cX11_isTrailer 40 = .ok (.iconst 1, 1) := by decide +kernel
theorem dX11_isTrailer_41 : decode cX11_isTrailer 41 = .ok (.goto 4, 3) := by decide +kernel
theorem dX11_isTrailer_44 : decode cX11_isTrailer 44 = .ok (.iconst 0, 1) := by decide +kernel
theorem dX11_isTrailer_45 : decode cX11_isTrailer 45 = .ok (.istore_n 3, 1) := by decide +kernel
theorem dX11_isTrailer_46 : decode cX11_isTrailer 46 = .ok (.iinc 4 1, 3) := by decide +kernel
theorem dX11_isTrailer_49 : decode cX11_isTrailer 49 = .ok (.goto (-34), 3) := by decide +kernel
theorem dX11_isTrailer_52 : decode cX11_isTrailer 52 = .ok (.iload_n 3, 1) := by decide +kernel
theorem dX11_isTrailer_53 : decode cX11_isTrailer 53 = .ok (.ireturn, 1) := by decide +kernel
theorem dX11_file_0 : decode cX11_file 0 = .ok (.aload_n 0, 1) := by decide +kernel
theorem dX11_file_1 : decode cX11_file 1 = .ok (.getfield 70, 3) := by decide +kernel
theorem dX11_file_4 : decode cX11_file 4 = .ok (.ifCond .le 20, 3) := by decide +kernel
theorem dX11_file_7 : decode cX11_file 7 = .ok (.aload_n 0, 1) := by decide +kernel
theorem dX11_file_8 : decode cX11_file 8 = .ok (.getfield 7, 3) := by decide +kernel
theorem dX11_file_11 : decode cX11_file 11 = .ok (.aload_n 0, 1) := by decide +kernel
theorem dX11_file_12 : decode cX11_file 12 = .ok (.getfield 70, 3) := by decide +kernel
theorem dX11_file_15 : decode cX11_file 15 = .ok (.iconst 1, 1) := by decide +kernel
theorem dX11_file_16 : decode cX11_file 16 = .ok (.isub, 1) := by decide +kernel
theorem dX11_file_17 : decode cX11_file 17 = .ok (.iaload, 1) := by decide +kernel
theorem dX11_file_18 : decode cX11_file 18 = .ok (.ifCond .ne 6, 3) := by decide +kernel
theorem dX11_file_21 : decode cX11_file 21 = .ok (.bipush (-3), 2) := by decide +kernel
theorem dX11_file_23 : decode cX11_file 23 = .ok (.ireturn, 1) := by decide +kernel
theorem dX11_file_24 : decode cX11_file 24 = .ok (.aload_n 0, 1) := by decide +kernel
theorem dX11_file_25 : decode cX11_file 25 = .ok (.getfield 70, 3) := by decide +kernel
theorem dX11_file_28 : decode cX11_file 28 = .ok (.bipush 12, 2) := by decide +kernel
theorem dX11_file_30 : decode cX11_file 30 = .ok (.if_icmp .ne 6, 3) := by decide +kernel
theorem dX11_file_33 : decode cX11_file 33 = .ok (.bipush (-4), 2) := by decide +kernel
theorem dX11_file_35 : decode cX11_file 35 = .ok (.ireturn, 1) := by decide +kernel
theorem dX11_file_36 : decode cX11_file 36 = .ok (.aload_n 0, 1) := by decide +kernel
theorem dX11_file_37 : decode cX11_file 37 = .ok (.getfield 7, 3) := by decide +kernel
theorem dX11_file_40 : decode cX11_file 40 = .ok (.aload_n 0, 1) := by decide +kernel
theorem dX11_file_41 : decode cX11_file 41 = .ok (.getfield 70, 3) := by decide +kernel
theorem dX11_file_44 : decode cX11_file 44 = .ok (.iconst 0, 1) := by decide +kernel
theorem dX11_file_45 : decode cX11_file 45 = .ok (.iastore, 1) := by decide +kernel
theorem dX11_file_46 : decode cX11_file 46 = .ok (.aload_n 0, 1) := by decide +kernel
theorem dX11_file_47 : decode cX11_file 47 = .ok (.getfield 16, 3) := by decide +kernel
theorem dX11_file_50 : decode cX11_file 50 = .ok (.aload_n 0, 1) := by decide +kernel
theorem dX11_file_51 : decode cX11_file 51 = .ok (.getfield 70, 3) := by decide +kernel
theorem dX11_file_54 : decode cX11_file 54 = .ok (.iconst (-1), 1) := by decide +kernel
theorem dX11_file_55 : decode cX11_file 55 = .ok (.iastore, 1) := by decide +kernel
theorem dX11_file_56 : decode cX11_file 56 = .ok (.aload_n 0, 1) := by decide +kernel
theorem dX11_file_57 : decode cX11_file 57 = .ok (.getfield 19, 3) := by decide +kernel
theorem dX11_file_60 : decode cX11_file 60 = .ok (.aload_n 0, 1) := by decide +kernel
theorem dX11_file_61 : decode cX11_file 61 = .ok (.getfield 70, 3) := by decide +kernel
theorem dX11_file_64 : decode cX11_file 64 = .ok (.iconst 0, 1) := by decide +kernel
theorem dX11_file_65 : decode cX11_file 65 = .ok (.iastore, 1) := by decide +kernel
theorem dX11_file_66 : decode cX11_file 66 = .ok (.aload_n 0, 1) := by decide +kernel
theorem dX11_file_67 : decode cX11_file 67 = .ok (.dup, 1) := by decide +kernel
theorem dX11_file_68 : decode cX11_file 68 = .ok (.getfield 70, 3) := by decide +kernel
theorem dX11_file_71 : decode cX11_file 71 = .ok (.iconst 1, 1) := by decide +kernel
theorem dX11_file_72 : decode cX11_file 72 = .ok (.iadd, 1) := by decide +kernel
theorem dX11_file_73 : decode cX11_file 73 = .ok (.putfield 70, 3) := by decide +kernel
theorem dX11_file_76 : decode cX11_file 76 = .ok (.aload_n 0, 1) := by decide +kernel
theorem dX11_file_77 : decode cX11_file 77 = .ok (.getfield 70, 3) := by decide +kernel
theorem dX11_file_80 : decode cX11_file 80 = .ok (.iconst 1, 1) := by decide +kernel
theorem dX11_file_81 : decode cX11_file 81 = .ok (.isub, 1) := by decide +kernel
theorem dX11_file_82 : decode cX11_file 82 = .ok (.ireturn, 1) := by decide +kernel
theorem dX11_name_0 : decode cX11_name 0 = .ok (.aload_n 0, 1) := by decide +kernel
theorem dX11_name_1 : decode cX11_name 1 = .ok (.getfield 70, 3) := by decide +kernel
theorem dX11_name_4 : decode cX11_name 4 = .ok (.ifCond .eq 10, 3) := by decide +kernel
theorem dX11_name_7 : decode cX11_name 7 = .ok (.iload_n 1, 1) := by decide +kernel
theorem dX11_name_8 : decode cX11_name 8 = .ok (.invokestatic 73, 3) := by decide +kernel
theorem dX11_name_11 : decode cX11_name 11 = .ok (.ifCond .ne 6, 3) := by decide +kernel
theorem dX11_name_14 : decode cX11_name 14 = .ok (.bipush (-2), 2) := by decide +kernel
theorem dX11_name_16 : decode cX11_name 16 = .ok (.ireturn, 1) := by decide +kernel
theorem dX11_name_17 : decode cX11_name 17 = .ok (.aload_n 0, 1) := by decide +kernel
theorem dX11_name_18 : decode cX11_name 18 = .ok (.getfield 70, 3) := by decide +kernel
theorem dX11_name_21 : decode cX11_name 21 = .ok (.iconst 1, 1) := by decide +kernel
theorem dX11_name_22 : decode cX11_name 22 = .ok (.isub, 1) := by decide +kernel
theorem dX11_name_23 : decode cX11_name 23 = .ok (.istore_n 2, 1) := by decide +kernel
theorem dX11_name_24 : decode cX11_name 24 = .ok (.aload_n 0, 1) := by decide +kernel
theorem dX11_name_25 : decode cX11_name 25 = .ok (.getfield 7, 3) := by decide +kernel
theorem dX11_name_28 : decode cX11_name 28 = .ok (.iload_n 2, 1) := by decide +kernel
theorem dX11_name_29 : decode cX11_name 29 = .ok (.iaload, 1) := by decide +kernel
theorem dX11_name_30 : decode cX11_name 30 = .ok (.bipush 20, 2) := by decide +kernel
theorem dX11_name_32 : decode cX11_name 32 = .ok (.if_icmp .ne 6, 3) := by decide +kernel
theorem dX11_name_35 : decode cX11_name 35 = .ok (.bipush (-4), 2) := by decide +kernel
theorem dX11_name_37 : decode cX11_name 37 = .ok (.ireturn, 1) := by decide +kernel
theorem dX11_name_38 : decode cX11_name 38 = .ok (.aload_n 0, 1) := by decide +kernel
theorem dX11_name_39 : decode cX11_name 39 = .ok (.getfield 13, 3) := by decide +kernel
theorem dX11_name_42 : decode cX11_name 42 = .ok (.bipush 20, 2) := by decide +kernel
theorem dX11_name_44 : decode cX11_name 44 = .ok (.iload_n 2, 1) := by decide +kernel
theorem dX11_name_45 : decode cX11_name 45 = .ok (.imul, 1) := by decide +kernel
theorem dX11_name_46 : decode cX11_name 46 = .ok (.aload_n 0, 1) := by decide +kernel
theorem dX11_name_47 : decode cX11_name 47 = .ok (.getfield 7, 3) := by decide +kernel
theorem dX11_name_50 : decode cX11_name 50 = .ok (.iload_n 2, 1) := by decide +kernel
theorem dX11_name_51 : decode cX11_name 51 = .ok (.iaload, 1) := by decide +kernel
theorem dX11_name_52 : decode cX11_name 52 = .ok (.iadd, 1) := by decide +kernel
theorem dX11_name_53 : decode cX11_name 53 = .ok (.iload_n 1, 1) := by decide +kernel
theorem dX11_name_54 : decode cX11_name 54 = .ok (.iastore, 1) := by decide +kernel
theorem dX11_name_55 : decode cX11_name 55 = .ok (.aload_n 0, 1) := by decide +kernel
theorem dX11_name_56 : decode cX11_name 56 = .ok (.getfield 7, 3) := by decide +kernel
theorem dX11_name_59 : decode cX11_name 59 = .ok (.iload_n 2, 1) := by decide +kernel
theorem dX11_name_60 : decode cX11_name 60 = .ok (.dup2, 1) := by decide +kernel
theorem dX11_name_61 : decode cX11_name 61 = .ok (.iaload, 1) := by decide +kernel
theorem dX11_name_62 : decode cX11_name 62 = .ok (.iconst 1, 1) := by decide +kernel
theorem dX11_name_63 : decode cX11_name 63 = .ok (.iadd, 1) := by decide +kernel
theorem dX11_name_64 : decode cX11_name 64 = .ok (.iastore, 1) := by decide +kernel
theorem dX11_name_65 : decode cX11_name 65 = .ok (.aload_n 0, 1) := by decide +kernel
theorem dX11_name_66 : decode cX11_name 66 = .ok (.getfield 7, 3) := by decide +kernel
theorem dX11_name_69 : decode cX11_name 69 = .ok (.iload_n 2, 1) := by decide +kernel
theorem dX11_name_70 : decode cX11_name 70 = .ok (.iaload, 1) := by decide +kernel
theorem dX11_name_71 : decode cX11_name 71 = .ok (.ireturn, 1) := by decide +kernel
theorem dX11_data_0 : decode cX11_data 0 = .ok (.aload_n 0, 1) := by decide +kernel
theorem dX11_data_1 : decode cX11_data 1 = .ok (.getfield 70, 3) := by decide +kernel
theorem dX11_data_4 : decode cX11_data 4 = .ok (.ifCond .eq 14, 3) := by decide +kernel
theorem dX11_data_7 : decode cX11_data 7 = .ok (.iload_n 1, 1) := by decide +kernel
theorem dX11_data_8 : decode cX11_data 8 = .ok (.iconst 0, 1) := by decide +kernel
theorem dX11_data_9 : decode cX11_data 9 = .ok (.sipush 255, 3) := by decide +kernel
theorem dX11_data_12 : decode cX11_data 12 = .ok (.invokestatic 62, 3) := by decide +kernel
theorem dX11_data_15 : decode cX11_data 15 = .ok (.ifCond .ne 6, 3) := by decide +kernel
theorem dX11_data_18 : decode cX11_data 18 = .ok (.bipush (-2), 2) := by decide +kernel
theorem dX11_data_20 : decode cX11_data 20 = .ok (.ireturn, 1) := by decide +kernel
theorem dX11_data_21 : decode cX11_data 21 = .ok (.aload_n 0, 1) := by decide +kernel
theorem dX11_data_22 : decode cX11_data 22 = .ok (.getfield 70, 3) := by decide +kernel
theorem dX11_data_25 : decode cX11_data 25 = .ok (.iconst 1, 1) := by decide +kernel
theorem dX11_data_26 : decode cX11_data 26 = .ok (.isub, 1) := by decide +kernel
theorem dX11_data_27 : decode cX11_data 27 = .ok (.istore_n 2, 1) := by decide +kernel
theorem dX11_data_28 : decode cX11_data 28 = .ok (.aload_n 0, 1) := by decide +kernel
theorem dX11_data_29 : decode cX11_data 29 = .ok (.getfield 16, 3) := by decide +kernel
theorem dX11_data_32 : decode cX11_data 32 = .ok (.iload_n 2, 1) := by decide +kernel
theorem dX11_data_33 : decode cX11_data 33 = .ok (.iaload, 1) := by decide +kernel
theorem dX11_data_34 : decode cX11_data 34 = .ok (.iconst (-1), 1) := by decide +kernel
theorem dX11_data_35 : decode cX11_data 35 = .ok (.if_icmp .eq 6, 3) := by decide +kernel
theorem dX11_data_38 : decode cX11_data 38 = .ok (.bipush (-3), 2) := by decide +kernel
theorem dX11_data_40 : decode cX11_data 40 = .ok (.ireturn, 1) := by decide +kernel
theorem dX11_data_41 : decode cX11_data 41 = .ok (.aload_n 0, 1) := by decide +kernel
theorem dX11_data_42 : decode cX11_data 42 = .ok (.getfield 19, 3) := by decide +kernel
theorem dX11_data_45 : decode cX11_data 45 = .ok (.iload_n 2, 1) := by decide +kernel
theorem dX11_data_46 : decode cX11_data 46 = .ok (.iaload, 1) := by decide +kernel
theorem dX11_data_47 : decode cX11_data 47 = .ok (.bipush 60, 2) := by decide +kernel
theorem dX11_data_49 : decode cX11_data 49 = .ok (.if_icmp .ne 6, 3) := by decide +kernel
theorem dX11_data_52 : decode cX11_data 52 = .ok (.bipush (-4), 2) := by decide +kernel
theorem dX11_data_54 : decode cX11_data 54 = .ok (.ireturn, 1) := by decide +kernel
theorem dX11_data_55 : decode cX11_data 55 = .ok (.aload_n 0, 1) := by decide +kernel
theorem dX11_data_56 : decode cX11_data 56 = .ok (.getfield 22, 3) := by decide +kernel
theorem dX11_data_59 : decode cX11_data 59 = .ok (.bipush 60, 2) := by decide +kernel
theorem dX11_data_61 : decode cX11_data 61 = .ok (.iload_n 2, 1) := by decide +kernel
theorem dX11_data_62 : decode cX11_data 62 = .ok (.imul, 1) := by decide +kernel
theorem dX11_data_63 : decode cX11_data 63 = .ok (.aload_n 0, 1) := by decide +kernel
theorem dX11_data_64 : decode cX11_data 64 = .ok (.getfield 19, 3) := by decide +kernel
theorem dX11_data_67 : decode cX11_data 67 = .ok (.iload_n 2, 1) := by decide +kernel
theorem dX11_data_68 : decode cX11_data 68 = .ok (.iaload, 1) := by decide +kernel
theorem dX11_data_69 : decode cX11_data 69 = .ok (.iadd, 1) := by decide +kernel
theorem dX11_data_70 : decode cX11_data 70 = .ok (.iload_n 1, 1) := by decide +kernel
theorem dX11_data_71 : decode cX11_data 71 = .ok (.iastore, 1) := by decide +kernel
theorem dX11_data_72 : decode cX11_data 72 = .ok (.aload_n 0, 1) := by decide +kernel
theorem dX11_data_73 : decode cX11_data 73 = .ok (.getfield 19, 3) := by decide +kernel
theorem dX11_data_76 : decode cX11_data 76 = .ok (.iload_n 2, 1) := by decide +kernel
theorem dX11_data_77 : decode cX11_data 77 = .ok (.dup2, 1) := by decide +kernel
theorem dX11_data_78 : decode cX11_data 78 = .ok (.iaload, 1) := by decide +kernel
theorem dX11_data_79 : decode cX11_data 79 = .ok (.iconst 1, 1) := by decide +kernel
theorem dX11_data_80 : decode cX11_data 80 = .ok (.iadd, 1) := by decide +kernel
theorem dX11_data_81 : decode cX11_data 81 = .ok (.iastore, 1) := by decide +kernel
theorem dX11_data_82 : decode cX11_data 82 = .ok (.aload_n 0, 1) := by decide +kernel
theorem dX11_data_83 : decode cX11_data 83 = .ok (.getfield 19, 3) := by decide +kernel
theorem dX11_data_86 : decode cX11_data 86 = .ok (.iload_n 2, 1) := by decide +kernel
theorem dX11_data_87 : decode cX11_data 87 = .ok (.iaload, 1) := by decide +kernel
theorem dX11_data_88 : decode cX11_data 88 = .ok (.ireturn, 1) := by decide +kernel
theorem dX11_link_0 : decode cX11_link 0 = .ok (.iload_n 1, 1) := by decide +kernel
theorem dX11_link_1 : decode cX11_link 1 = .ok (.iconst 0, 1) := by decide +kernel
theorem dX11_link_2 : decode cX11_link 2 = .ok (.aload_n 0, 1) := by decide +kernel
theorem dX11_link_3 : decode cX11_link 3 = .ok (.getfield 70, 3) := by decide +kernel
theorem dX11_link_6 : decode cX11_link 6 = .ok (.iconst 2, 1) := by decide +kernel
theorem dX11_link_7 : decode cX11_link 7 = .ok (.isub, 1) := by decide +kernel
theorem dX11_link_8 : decode cX11_link 8 = .ok (.invokestatic 62, 3) := by decide +kernel
theorem dX11_link_11 : decode cX11_link 11 = .ok (.ifCond .ne 6, 3) := by decide +kernel
theorem dX11_link_14 : decode cX11_link 14 = .ok (.bipush (-2), 2) := by decide +kernel
theorem dX11_link_16 : decode cX11_link 16 = .ok (.ireturn, 1) := by decide +kernel
theorem dX11_link_17 : decode cX11_link 17 = .ok (.aload_n 0, 1) := by decide +kernel
theorem dX11_link_18 : decode cX11_link 18 = .ok (.getfield 70, 3) := by decide +kernel
theorem dX11_link_21 : decode cX11_link 21 = .ok (.iconst 1, 1) := by decide +kernel
theorem dX11_link_22 : decode cX11_link 22 = .ok (.isub, 1) := by decide +kernel
theorem dX11_link_23 : decode cX11_link 23 = .ok (.istore_n 2, 1) := by decide +kernel
theorem dX11_link_24 : decode cX11_link 24 = .ok (.aload_n 0, 1) := by decide +kernel
theorem dX11_link_25 : decode cX11_link 25 = .ok (.getfield 16, 3) := by decide +kernel
theorem dX11_link_28 : decode cX11_link 28 = .ok (.iload_n 1, 1) := by decide +kernel
theorem dX11_link_29 : decode cX11_link 29 = .ok (.iaload, 1) := by decide +kernel
theorem dX11_link_30 : decode cX11_link 30 = .ok (.iconst (-1), 1) := by decide +kernel
theorem dX11_link_31 : decode cX11_link 31 = .ok (.if_icmp .ne 22, 3) := by decide +kernel
theorem dX11_link_34 : decode cX11_link 34 = .ok (.aload_n 0, 1) := by decide +kernel
theorem dX11_link_35 : decode cX11_link 35 = .ok (.getfield 19, 3) := by decide +kernel
theorem dX11_link_38 : decode cX11_link 38 = .ok (.iload_n 2, 1) := by decide +kernel
theorem dX11_link_39 : decode cX11_link 39 = .ok (.iaload, 1) := by decide +kernel
theorem dX11_link_40 : decode cX11_link 40 = .ok (.ifCond .gt 13, 3) := by decide +kernel
theorem dX11_link_43 : decode cX11_link 43 = .ok (.aload_n 0, 1) := by decide +kernel
theorem dX11_link_44 : decode cX11_link 44 = .ok (.getfield 16, 3) := by decide +kernel
theorem dX11_link_47 : decode cX11_link 47 = .ok (.iload_n 2, 1) := by decide +kernel
theorem dX11_link_48 : decode cX11_link 48 = .ok (.iaload, 1) := by decide +kernel
theorem dX11_link_49 : decode cX11_link 49 = .ok (.iconst (-1), 1) := by decide +kernel
theorem dX11_link_50 : decode cX11_link 50 = .ok (.if_icmp .eq 6, 3) := by decide +kernel
theorem dX11_link_53 : decode cX11_link 53 = .ok (.bipush (-3), 2) := by decide +kernel
theorem dX11_link_55 : decode cX11_link 55 = .ok (.ireturn, 1) := by decide +kernel
theorem dX11_link_56 : decode cX11_link 56 = .ok (.aload_n 0, 1) := by decide +kernel
theorem dX11_link_57 : decode cX11_link 57 = .ok (.getfield 16, 3) := by decide +kernel
theorem dX11_link_60 : decode cX11_link 60 = .ok (.iload_n 2, 1) := by decide +kernel
theorem dX11_link_61 : decode cX11_link 61 = .ok (.iload_n 1, 1) := by decide +kernel
theorem dX11_link_62 : decode cX11_link 62 = .ok (.iastore, 1) := by decide +kernel
theorem dX11_link_63 : decode cX11_link 63 = .ok (.iconst 1, 1) := by decide +kernel
theorem dX11_link_64 : decode cX11_link 64 = .ok (.ireturn, 1) := by decide +kernel
theorem dX11_clear_0 : decode cX11_clear 0 = .ok (.aload_n 0, 1) := by decide +kernel
theorem dX11_clear_1 : decode cX11_clear 1 = .ok (.getfield 70, 3) := by decide +kernel
theorem dX11_clear_4 : decode cX11_clear 4 = .ok (.istore_n 1, 1) := by decide +kernel
theorem dX11_clear_5 : decode cX11_clear 5 = .ok (.aload_n 0, 1) := by decide +kernel
theorem dX11_clear_6 : decode cX11_clear 6 = .ok (.iconst 0, 1) := by decide +kernel
theorem dX11_clear_7 : decode cX11_clear 7 = .ok (.putfield 70, 3) := by decide +kernel
theorem dX11_clear_10 : decode cX11_clear 10 = .ok (.iload_n 1, 1) := by decide +kernel
theorem dX11_clear_11 : decode cX11_clear 11 = .ok (.ireturn, 1) := by decide +kernel
theorem dX11_rootOf_0 : decode cX11_rootOf 0 = .ok (.aload_n 0, 1) := by decide +kernel
theorem dX11_rootOf_1 : decode cX11_rootOf 1 = .ok (.getfield 16, 3) := by decide +kernel
theorem dX11_rootOf_4 : decode cX11_rootOf 4 = .ok (.iload_n 1, 1) := by decide +kernel
theorem dX11_rootOf_5 : decode cX11_rootOf 5 = .ok (.iaload, 1) := by decide +kernel
theorem dX11_rootOf_6 : decode cX11_rootOf 6 = .ok (.iconst (-1), 1) := by decide +kernel
theorem dX11_rootOf_7 : decode cX11_rootOf 7 = .ok (.if_icmp .ne 7, 3) := by decide +kernel
theorem dX11_rootOf_10 : decode cX11_rootOf 10 = .ok (.iload_n 1, 1) := by decide +kernel
theorem dX11_rootOf_11 : decode cX11_rootOf 11 = .ok (.goto 9, 3) := by decide +kernel
theorem dX11_rootOf_14 : decode cX11_rootOf 14 = .ok (.aload_n 0, 1) := by decide +kernel
theorem dX11_rootOf_15 : decode cX11_rootOf 15 = .ok (.getfield 16, 3) := by decide +kernel
theorem dX11_rootOf_18 : decode cX11_rootOf 18 = .ok (.iload_n 1, 1) := by decide +kernel
theorem dX11_rootOf_19 : decode cX11_rootOf 19 = .ok (.iaload, 1) := by decide +kernel
theorem dX11_rootOf_20 : decode cX11_rootOf 20 = .ok (.ireturn, 1) := by decide +kernel
theorem dX11_write1_0 : decode cX11_write1 0 = .ok (.aload_n 0, 1) := by decide +kernel
theorem dX11_write1_1 : decode cX11_write1 1 = .ok (.getfield 28, 3) := by decide +kernel
theorem dX11_write1_4 : decode cX11_write1 4 = .ok (.aload_n 0, 1) := by decide +kernel
theorem dX11_write1_5 : decode cX11_write1 5 = .ok (.getfield 77, 3) := by decide +kernel
theorem dX11_write1_8 : decode cX11_write1 8 = .ok (.iload_n 1, 1) := by decide +kernel
theorem dX11_write1_9 : decode cX11_write1 9 = .ok (.iastore, 1) := by decide +kernel
theorem dX11_write1_10 : decode cX11_write1 10 = .ok (.aload_n 0, 1) := by decide +kernel
theorem dX11_write1_11 : decode cX11_write1 11 = .ok (.dup, 1) := by decide +kernel
theorem dX11_write1_12 : decode cX11_write1 12 = .ok (.getfield 77, 3) := by decide +kernel
theorem dX11_write1_15 : decode cX11_write1 15 = .ok (.iconst 1, 1) := by decide +kernel
theorem dX11_write1_16 : decode cX11_write1 16 = .ok (.iadd, 1) := by decide +kernel
theorem dX11_write1_17 : decode cX11_write1 17 = .ok (.putfield 77, 3) := by decide +kernel
theorem dX11_write1_20 : decode cX11_write1 20 = .ok (.return_, 1) := by decide +kernel
theorem dX11_write2_0 : decode cX11_write2 0 = .ok (.aload_n 0, 1) := by decide +kernel
theorem dX11_write2_1 : decode cX11_write2 1 = .ok (.iload_n 1, 1) := by decide +kernel
theorem dX11_write2_2 : decode cX11_write2 2 = .ok (.bipush 8, 2) := by decide +kernel
theorem dX11_write2_4 : decode cX11_write2 4 = .ok (.ishr, 1) := by decide +kernel
theorem dX11_write2_5 : decode cX11_write2 5 = .ok (.sipush 255, 3) := by decide +kernel
theorem dX11_write2_8 : decode cX11_write2 8 = .ok (.iand, 1) := by decide +kernel
theorem dX11_write2_9 : decode cX11_write2 9 = .ok (.invokevirtual 80, 3) := by decide +kernel
theorem dX11_write2_12 : decode cX11_write2 12 = .ok (.aload_n 0, 1) := by decide +kernel
theorem dX11_write2_13 : decode cX11_write2 13 = .ok (.iload_n 1, 1) := by decide +kernel
theorem dX11_write2_14 : decode cX11_write2 14 = .ok (.sipush 255, 3) := by decide +kernel
theorem dX11_write2_17 : decode cX11_write2 17 = .ok (.iand, 1) := by decide +kernel
theorem dX11_write2_18 : decode cX11_write2 18 = .ok (.invokevirtual 80, 3) := by decide +kernel
theorem dX11_write2_21 : decode cX11_write2 21 = .ok (.return_, 1) := by decide +kernel
theorem dX11_writeFigures_0 : decode cX11_writeFigures 0 = .ok (.iconst 1, 1) := by decide +kernel
theorem dX11_writeFigures_1 : decode cX11_writeFigures 1 = .ok (.istore_n 3, 1) := by decide +kernel
theorem dX11_writeFigures_2 : decode cX11_writeFigures 2 = .ok (.iload_n 1, 1) := by decide +kernel
theorem dX11_writeFigures_3 : decode cX11_writeFigures 3 = .ok (.iload_n 3, 1) := by decide +kernel
theorem dX11_writeFigures_4 : decode cX11_writeFigures 4 = .ok (.idiv, 1) := by decide +kernel
theorem dX11_writeFigures_5 : decode cX11_writeFigures 5 = .ok (.bipush 9, 2) := by decide +kernel
theorem dX11_writeFigures_7 : decode cX11_writeFigures 7 = .ok (.if_icmp .le 11, 3) := by decide +kernel
theorem dX11_writeFigures_10 : decode cX11_writeFigures 10 = .ok (.iload_n 3, 1) := by decide +kernel
theorem dX11_writeFigures_11 : decode cX11_writeFigures 11 = .ok (.bipush 10, 2) := by decide +kernel
theorem dX11_writeFigures_13 : decode cX11_writeFigures 13 = .ok (.imul, 1) := by decide +kernel
theorem dX11_writeFigures_14 : decode cX11_writeFigures 14 = .ok (.istore_n 3, 1) := by decide +kernel
theorem dX11_writeFigures_15 : decode cX11_writeFigures 15 = .ok (.goto (-13), 3) := by decide +kernel
theorem dX11_writeFigures_18 : decode cX11_writeFigures 18 = .ok (.iconst 0, 1) := by decide +kernel
theorem dX11_writeFigures_19 : decode cX11_writeFigures 19 = .ok (.istore 4, 2) := by decide +kernel
theorem dX11_writeFigures_21 : decode cX11_writeFigures 21 = .ok (.iload_n 3, 1) := by decide +kernel
theorem dX11_writeFigures_22 : decode cX11_writeFigures 22 = .ok (.istore 5, 2) := by decide +kernel
theorem dX11_writeFigures_24 : decode cX11_writeFigures 24 = .ok (.iload 5, 2) := by decide +kernel
theorem dX11_writeFigures_26 : decode cX11_writeFigures 26 = .ok (.ifCond .le 30, 3) := by decide +kernel
theorem dX11_writeFigures_29 : decode cX11_writeFigures 29 = .ok (.aload_n 0, 1) := by decide +kernel
theorem dX11_writeFigures_30 : decode cX11_writeFigures 30 = .ok (.bipush 48, 2) := by decide +kernel
theorem dX11_writeFigures_32 : decode cX11_writeFigures 32 = .ok (.iload_n 1, 1) := by decide +kernel
theorem dX11_writeFigures_33 : decode cX11_writeFigures 33 = .ok (.iload 5, 2) := by decide +kernel
theorem dX11_writeFigures_35 : decode cX11_writeFigures 35 = .ok (.idiv, 1) := by decide +kernel
theorem dX11_writeFigures_36 : decode cX11_writeFigures 36 = .ok (.bipush 10, 2) := by decide +kernel
theorem dX11_writeFigures_38 : decode cX11_writeFigures 38 = .ok (.irem, 1) := by decide +kernel
theorem dX11_writeFigures_39 : decode cX11_writeFigures 39 = .ok (.iadd, 1) := by decide +kernel
theorem dX11_writeFigures_40 : decode cX11_writeFigures 40 = .ok (.invokevirtual 80, 3) := by decide +kernel
theorem dX11_writeFigures_43 : decode cX11_writeFigures 43 = .ok (.iinc 4 1, 3) := by decide +kernel
theorem dX11_writeFigures_46 : decode cX11_writeFigures 46 = .ok (.iload 5, 2) := by decide +kernel
theorem dX11_writeFigures_48 : decode cX11_writeFigures 48 = .ok (.bipush 10, 2) := by decide +kernel
theorem dX11_writeFigures_50 : decode cX11_writeFigures 50 = .ok (.idiv, 1) := by decide +kernel
theorem dX11_writeFigures_51 : decode cX11_writeFigures 51 = .ok (.istore 5, 2) := by decide +kernel
theorem dX11_writeFigures_53 : decode cX11_writeFigures 53 = .ok (.goto (-29), 3) := by decide +kernel
theorem dX11_writeFigures_56 : decode cX11_writeFigures 56 = .ok (.iload 4, 2) := by decide +kernel
theorem dX11_writeFigures_58 : decode cX11_writeFigures 58 = .ok (.istore 5, 2) := by decide +kernel
theorem dX11_writeFigures_60 : decode cX11_writeFigures 60 = .ok (.iload 5, 2) := by decide +kernel
theorem dX11_writeFigures_62 : decode cX11_writeFigures 62 = .ok (.iload_n 2, 1) := by decide +kernel
theorem dX11_writeFigures_63 : decode cX11_writeFigures 63 = .ok (.if_icmp .ge 15, 3) := by decide +kernel
theorem dX11_writeFigures_66 : decode cX11_writeFigures 66 = .ok (.aload_n 0, 1) := by decide +kernel
theorem dX11_writeFigures_67 : decode cX11_writeFigures 67 = .ok (.bipush 32, 2) := by decide +kernel
theorem dX11_writeFigures_69 : decode cX11_writeFigures 69 = .ok (.invokevirtual 80, 3) := by decide +kernel
theorem dX11_writeFigures_72 : decode cX11_writeFigures 72 = .ok (.iinc 5 1, 3) := by decide +kernel
theorem dX11_writeFigures_75 : decode cX11_writeFigures 75 = .ok (.goto (-15), 3) := by decide +kernel
theorem dX11_writeFigures_78 : decode cX11_writeFigures 78 = .ok (.return_, 1) := by decide +kernel
theorem dX11_writeEnd_0 : decode cX11_writeEnd 0 = .ok (.aload_n 0, 1) := by decide +kernel
theorem dX11_writeEnd_1 : decode cX11_writeEnd 1 = .ok (.iload_n 1, 1) := by decide +kernel
theorem dX11_writeEnd_2 : decode cX11_writeEnd 2 = .ok (.iconst 4, 1) := by decide +kernel
theorem dX11_writeEnd_3 : decode cX11_writeEnd 3 = .ok (.invokevirtual 84, 3) := by decide +kernel
theorem dX11_writeEnd_6 : decode cX11_writeEnd 6 = .ok (.aload_n 0, 1) := by decide +kernel
theorem dX11_writeEnd_7 : decode cX11_writeEnd 7 = .ok (.bipush 96, 2) := by decide +kernel
theorem dX11_writeEnd_9 : decode cX11_writeEnd 9 = .ok (.invokevirtual 80, 3) := by decide +kernel
theorem dX11_writeEnd_12 : decode cX11_writeEnd 12 = .ok (.aload_n 0, 1) := by decide +kernel
theorem dX11_writeEnd_13 : decode cX11_writeEnd 13 = .ok (.bipush 10, 2) := by decide +kernel
theorem dX11_writeEnd_15 : decode cX11_writeEnd 15 = .ok (.invokevirtual 80, 3) := by decide +kernel
theorem dX11_writeEnd_18 : decode cX11_writeEnd 18 = .ok (.return_, 1) := by decide +kernel
theorem dX11_writeHeads_0 : decode cX11_writeHeads 0 = .ok (.aload_n 0, 1) := by decide +kernel
theorem dX11_writeHeads_1 : decode cX11_writeHeads 1 = .ok (.bipush 33, 2) := by decide +kernel
theorem dX11_writeHeads_3 : decode cX11_writeHeads 3 = .ok (.invokevirtual 80, 3) := by decide +kernel
theorem dX11_writeHeads_6 : decode cX11_writeHeads 6 = .ok (.aload_n 0, 1) := by decide +kernel
theorem dX11_writeHeads_7 : decode cX11_writeHeads 7 = .ok (.bipush 60, 2) := by decide +kernel
theorem dX11_writeHeads_9 : decode cX11_writeHeads 9 = .ok (.invokevirtual 80, 3) := by decide +kernel
theorem dX11_writeHeads_12 : decode cX11_writeHeads 12 = .ok (.aload_n 0, 1) := by decide +kernel
theorem dX11_writeHeads_13 : decode cX11_writeHeads 13 = .ok (.bipush 97, 2) := by decide +kernel
theorem dX11_writeHeads_15 : decode cX11_writeHeads 15 = .ok (.invokevirtual 80, 3) := by decide +kernel
theorem dX11_writeHeads_18 : decode cX11_writeHeads 18 = .ok (.aload_n 0, 1) := by decide +kernel
theorem dX11_writeHeads_19 : decode cX11_writeHeads 19 = .ok (.bipush 62, 2) := by decide +kernel
theorem dX11_writeHeads_21 : decode cX11_writeHeads 21 = .ok (.invokevirtual 80, 3) := by decide +kernel
theorem dX11_writeHeads_24 : decode cX11_writeHeads 24 = .ok (.iconst 0, 1) := by decide +kernel
theorem dX11_writeHeads_25 : decode cX11_writeHeads 25 = .ok (.istore_n 1, 1) := by decide +kernel
theorem dX11_writeHeads_26 : decode cX11_writeHeads 26 = .ok (.iconst 0, 1) := by decide +kernel
theorem dX11_writeHeads_27 : decode cX11_writeHeads 27 = .ok (.istore_n 2, 1) := by decide +kernel
theorem dX11_writeHeads_28 : decode cX11_writeHeads 28 = .ok (.iload_n 2, 1) := by decide +kernel
theorem dX11_writeHeads_29 : decode cX11_writeHeads 29 = .ok (.aload_n 0, 1) := by decide +kernel
theorem dX11_writeHeads_30 : decode cX11_writeHeads 30 = .ok (.getfield 70, 3) := by decide +kernel
theorem dX11_writeHeads_33 : decode cX11_writeHeads 33 = .ok (.if_icmp .ge 35, 3) := by decide +kernel
theorem dX11_writeHeads_36 : decode cX11_writeHeads 36 = .ok (.iload_n 1, 1) := by decide +kernel
theorem dX11_writeHeads_37 : decode cX11_writeHeads 37 = .ok (.aload_n 0, 1) := by decide +kernel
theorem dX11_writeHeads_38 : decode cX11_writeHeads 38 = .ok (.getfield 7, 3) := by decide +kernel
theorem dX11_writeHeads_41 : decode cX11_writeHeads 41 = .ok (.iload_n 2, 1) := by decide +kernel
theorem dX11_writeHeads_42 : decode cX11_writeHeads 42 = .ok (.iaload, 1) := by decide +kernel
theorem dX11_writeHeads_43 : decode cX11_writeHeads 43 = .ok (.bipush 7, 2) := by decide +kernel
theorem dX11_writeHeads_45 : decode cX11_writeHeads 45 = .ok (.if_icmp .le 14, 3) := by decide +kernel
theorem dX11_writeHeads_48 : decode cX11_writeHeads 48 = .ok (.aload_n 0, 1) := by decide +kernel
theorem dX11_writeHeads_49 : decode cX11_writeHeads 49 = .ok (.getfield 7, 3) := by decide +kernel
theorem dX11_writeHeads_52 : decode cX11_writeHeads 52 = .ok (.iload_n 2, 1) := by decide +kernel
theorem dX11_writeHeads_53 : decode cX11_writeHeads 53 = .ok (.iaload, 1) := by decide +kernel
theorem dX11_writeHeads_54 : decode cX11_writeHeads 54 = .ok (.iconst 2, 1) := by decide +kernel
theorem dX11_writeHeads_55 : decode cX11_writeHeads 55 = .ok (.iadd, 1) := by decide +kernel
theorem dX11_writeHeads_56 : decode cX11_writeHeads 56 = .ok (.goto 4, 3) := by decide +kernel
theorem dX11_writeHeads_59 : decode cX11_writeHeads 59 = .ok (.iconst 0, 1) := by decide +kernel
theorem dX11_writeHeads_60 : decode cX11_writeHeads 60 = .ok (.iadd, 1) := by decide +kernel
theorem dX11_writeHeads_61 : decode cX11_writeHeads 61 = .ok (.istore_n 1, 1) := by decide +kernel
theorem dX11_writeHeads_62 : decode cX11_writeHeads 62 = .ok (.iinc 2 1, 3) := by decide +kernel
theorem dX11_writeHeads_65 : decode cX11_writeHeads 65 = .ok (.goto (-37), 3) := by decide +kernel
theorem dX11_writeHeads_68 : decode cX11_writeHeads 68 = .ok (.iload_n 1, 1) := by decide +kernel
theorem dX11_writeHeads_69 : decode cX11_writeHeads 69 = .ok (.ifCond .le 125, 3) := by decide +kernel
theorem dX11_writeHeads_72 : decode cX11_writeHeads 72 = .ok (.aload_n 0, 1) := by decide +kernel
theorem dX11_writeHeads_73 : decode cX11_writeHeads 73 = .ok (.bipush 47, 2) := by decide +kernel
theorem dX11_writeHeads_75 : decode cX11_writeHeads 75 = .ok (.invokevirtual 80, 3) := by decide +kernel
theorem dX11_writeHeads_78 : decode cX11_writeHeads 78 = .ok (.aload_n 0, 1) := by decide +kernel
theorem dX11_writeHeads_79 : decode cX11_writeHeads 79 = .ok (.bipush 47, 2) := by decide +kernel
theorem dX11_writeHeads_81 : decode cX11_writeHeads 81 = .ok (.invokevirtual 80, 3) := by decide +kernel
theorem dX11_writeHeads_84 : decode cX11_writeHeads 84 = .ok (.iconst 2, 1) := by decide +kernel
theorem dX11_writeHeads_85 : decode cX11_writeHeads 85 = .ok (.istore_n 2, 1) := by decide +kernel
theorem dX11_writeHeads_86 : decode cX11_writeHeads 86 = .ok (.iload_n 2, 1) := by decide +kernel
theorem dX11_writeHeads_87 : decode cX11_writeHeads 87 = .ok (.bipush 8, 2) := by decide +kernel
theorem dX11_writeHeads_89 : decode cX11_writeHeads 89 = .ok (.if_icmp .ge 15, 3) := by decide +kernel
theorem dX11_writeHeads_92 : decode cX11_writeHeads 92 = .ok (.aload_n 0, 1) := by decide +kernel
theorem dX11_writeHeads_93 : decode cX11_writeHeads 93 = .ok (.bipush 32, 2) := by decide +kernel
theorem dX11_writeHeads_95 : decode cX11_writeHeads 95 = .ok (.invokevirtual 80, 3) := by decide +kernel
theorem dX11_writeHeads_98 : decode cX11_writeHeads 98 = .ok (.iinc 2 1, 3) := by decide +kernel
theorem dX11_writeHeads_101 : decode cX11_writeHeads 101 = .ok (.goto (-15), 3) := by decide +kernel
theorem dX11_writeHeads_104 : decode cX11_writeHeads 104 = .ok (.aload_n 0, 1) := by decide +kernel
theorem dX11_writeHeads_105 : decode cX11_writeHeads 105 = .ok (.iload_n 1, 1) := by decide +kernel
theorem dX11_writeHeads_106 : decode cX11_writeHeads 106 = .ok (.invokevirtual 88, 3) := by decide +kernel
theorem dX11_writeHeads_109 : decode cX11_writeHeads 109 = .ok (.iconst 0, 1) := by decide +kernel
theorem dX11_writeHeads_110 : decode cX11_writeHeads 110 = .ok (.istore_n 2, 1) := by decide +kernel
theorem dX11_writeHeads_111 : decode cX11_writeHeads 111 = .ok (.iload_n 2, 1) := by decide +kernel
theorem dX11_writeHeads_112 : decode cX11_writeHeads 112 = .ok (.aload_n 0, 1) := by decide +kernel
theorem dX11_writeHeads_113 : decode cX11_writeHeads 113 = .ok (.getfield 70, 3) := by decide +kernel
theorem dX11_writeHeads_116 : decode cX11_writeHeads 116 = .ok (.if_icmp .ge 65, 3) := by decide +kernel
theorem dX11_writeHeads_119 : decode cX11_writeHeads 119 = .ok (.aload_n 0, 1) := by decide +kernel
theorem dX11_writeHeads_120 : decode cX11_writeHeads 120 = .ok (.getfield 7, 3) := by decide +kernel
theorem dX11_writeHeads_123 : decode cX11_writeHeads 123 = .ok (.iload_n 2, 1) := by decide +kernel
theorem dX11_writeHeads_124 : decode cX11_writeHeads 124 = .ok (.iaload, 1) := by decide +kernel
theorem dX11_writeHeads_125 : decode cX11_writeHeads 125 = .ok (.bipush 7, 2) := by decide +kernel
theorem dX11_writeHeads_127 : decode cX11_writeHeads 127 = .ok (.if_icmp .le 48, 3) := by decide +kernel
theorem dX11_writeHeads_130 : decode cX11_writeHeads 130 = .ok (.iconst 0, 1) := by decide +kernel
theorem dX11_writeHeads_131 : decode cX11_writeHeads 131 = .ok (.istore_n 3, 1) := by decide +kernel
theorem dX11_writeHeads_132 : decode cX11_writeHeads 132 = .ok (.iload_n 3, 1) := by decide +kernel
theorem dX11_writeHeads_133 : decode cX11_writeHeads 133 = .ok (.aload_n 0, 1) := by decide +kernel
theorem dX11_writeHeads_134 : decode cX11_writeHeads 134 = .ok (.getfield 7, 3) := by decide +kernel
theorem dX11_writeHeads_137 : decode cX11_writeHeads 137 = .ok (.iload_n 2, 1) := by decide +kernel
theorem dX11_writeHeads_138 : decode cX11_writeHeads 138 = .ok (.iaload, 1) := by decide +kernel
theorem dX11_writeHeads_139 : decode cX11_writeHeads 139 = .ok (.if_icmp .ge 24, 3) := by decide +kernel
theorem dX11_writeHeads_142 : decode cX11_writeHeads 142 = .ok (.aload_n 0, 1) := by decide +kernel
theorem dX11_writeHeads_143 : decode cX11_writeHeads 143 = .ok (.aload_n 0, 1) := by decide +kernel
theorem dX11_writeHeads_144 : decode cX11_writeHeads 144 = .ok (.getfield 13, 3) := by decide +kernel
theorem dX11_writeHeads_147 : decode cX11_writeHeads 147 = .ok (.bipush 20, 2) := by decide +kernel
theorem dX11_writeHeads_149 : decode cX11_writeHeads 149 = .ok (.iload_n 2, 1) := by decide +kernel
theorem dX11_writeHeads_150 : decode cX11_writeHeads 150 = .ok (.imul, 1) := by decide +kernel
theorem dX11_writeHeads_151 : decode cX11_writeHeads 151 = .ok (.iload_n 3, 1) := by decide +kernel
theorem dX11_writeHeads_152 : decode cX11_writeHeads 152 = .ok (.iadd, 1) := by decide +kernel
theorem dX11_writeHeads_153 : decode cX11_writeHeads 153 = .ok (.iaload, 1) := by decide +kernel
theorem dX11_writeHeads_154 : decode cX11_writeHeads 154 = .ok (.invokevirtual 80, 3) := by decide +kernel
theorem dX11_writeHeads_157 : decode cX11_writeHeads 157 = .ok (.iinc 3 1, 3) := by decide +kernel
theorem dX11_writeHeads_160 : decode cX11_writeHeads 160 = .ok (.goto (-28), 3) := by decide +kernel
theorem dX11_writeHeads_163 : decode cX11_writeHeads 163 = .ok (.aload_n 0, 1) := by decide +kernel
theorem dX11_writeHeads_164 : decode cX11_writeHeads 164 = .ok (.bipush 47, 2) := by decide +kernel
theorem dX11_writeHeads_166 : decode cX11_writeHeads 166 = .ok (.invokevirtual 80, 3) := by decide +kernel
theorem dX11_writeHeads_169 : decode cX11_writeHeads 169 = .ok (.aload_n 0, 1) := by decide +kernel
theorem dX11_writeHeads_170 : decode cX11_writeHeads 170 = .ok (.bipush 10, 2) := by decide +kernel
theorem dX11_writeHeads_172 : decode cX11_writeHeads 172 = .ok (.invokevirtual 80, 3) := by decide +kernel
theorem dX11_writeHeads_175 : decode cX11_writeHeads 175 = .ok (.iinc 2 1, 3) := by decide +kernel
theorem dX11_writeHeads_178 : decode cX11_writeHeads 178 = .ok (.goto (-67), 3) := by decide +kernel
theorem dX11_writeHeads_181 : decode cX11_writeHeads 181 = .ok (.iload_n 1, 1) := by decide +kernel
theorem dX11_writeHeads_182 : decode cX11_writeHeads 182 = .ok (.iconst 2, 1) := by decide +kernel
theorem dX11_writeHeads_183 : decode cX11_writeHeads 183 = .ok (.irem, 1) := by decide +kernel
theorem dX11_writeHeads_184 : decode cX11_writeHeads 184 = .ok (.iconst 1, 1) := by decide +kernel
theorem dX11_writeHeads_185 : decode cX11_writeHeads 185 = .ok (.if_icmp .ne 9, 3) := by decide +kernel
theorem dX11_writeHeads_188 : decode cX11_writeHeads 188 = .ok (.aload_n 0, 1) := by decide +kernel
theorem dX11_writeHeads_189 : decode cX11_writeHeads 189 = .ok (.bipush 10, 2) := by decide +kernel
theorem dX11_writeHeads_191 : decode cX11_writeHeads 191 = .ok (.invokevirtual 80, 3) := by decide +kernel
theorem dX11_writeHeads_194 : decode cX11_writeHeads 194 = .ok (.iconst 0, 1) := by decide +kernel
theorem dX11_writeHeads_195 : decode cX11_writeHeads 195 = .ok (.istore_n 2, 1) := by decide +kernel
theorem dX11_writeHeads_196 : decode cX11_writeHeads 196 = .ok (.iconst 0, 1) := by decide +kernel
theorem dX11_writeHeads_197 : decode cX11_writeHeads 197 = .ok (.istore_n 3, 1) := by decide +kernel
theorem dX11_writeHeads_198 : decode cX11_writeHeads 198 = .ok (.iload_n 3, 1) := by decide +kernel
theorem dX11_writeHeads_199 : decode cX11_writeHeads 199 = .ok (.aload_n 0, 1) := by decide +kernel
theorem dX11_writeHeads_200 : decode cX11_writeHeads 200 = .ok (.getfield 70, 3) := by decide +kernel
theorem dX11_writeHeads_203 : decode cX11_writeHeads 203 = .ok (.if_icmp .ge 193, 3) := by decide +kernel
theorem dX11_writeHeads_206 : decode cX11_writeHeads 206 = .ok (.aload_n 0, 1) := by decide +kernel
theorem dX11_writeHeads_207 : decode cX11_writeHeads 207 = .ok (.getfield 7, 3) := by decide +kernel
theorem dX11_writeHeads_210 : decode cX11_writeHeads 210 = .ok (.iload_n 3, 1) := by decide +kernel
theorem dX11_writeHeads_211 : decode cX11_writeHeads 211 = .ok (.iaload, 1) := by decide +kernel
theorem dX11_writeHeads_212 : decode cX11_writeHeads 212 = .ok (.bipush 7, 2) := by decide +kernel
theorem dX11_writeHeads_214 : decode cX11_writeHeads 214 = .ok (.if_icmp .le 30, 3) := by decide +kernel
theorem dX11_writeHeads_217 : decode cX11_writeHeads 217 = .ok (.aload_n 0, 1) := by decide +kernel
theorem dX11_writeHeads_218 : decode cX11_writeHeads 218 = .ok (.bipush 47, 2) := by decide +kernel
theorem dX11_writeHeads_220 : decode cX11_writeHeads 220 = .ok (.invokevirtual 80, 3) := by decide +kernel
theorem dX11_writeHeads_223 : decode cX11_writeHeads 223 = .ok (.aload_n 0, 1) := by decide +kernel
theorem dX11_writeHeads_224 : decode cX11_writeHeads 224 = .ok (.iload_n 2, 1) := by decide +kernel
theorem dX11_writeHeads_225 : decode cX11_writeHeads 225 = .ok (.bipush 7, 2) := by decide +kernel
theorem dX11_writeHeads_227 : decode cX11_writeHeads 227 = .ok (.invokevirtual 84, 3) := by decide +kernel
theorem dX11_writeHeads_230 : decode cX11_writeHeads 230 = .ok (.iload_n 2, 1) := by decide +kernel
theorem dX11_writeHeads_231 : decode cX11_writeHeads 231 = .ok (.aload_n 0, 1) := by decide +kernel
theorem dX11_writeHeads_232 : decode cX11_writeHeads 232 = .ok (.getfield 7, 3) := by decide +kernel
theorem dX11_writeHeads_235 : decode cX11_writeHeads 235 = .ok (.iload_n 3, 1) := by decide +kernel
theorem dX11_writeHeads_236 : decode cX11_writeHeads 236 = .ok (.iaload, 1) := by decide +kernel
theorem dX11_writeHeads_237 : decode cX11_writeHeads 237 = .ok (.iconst 2, 1) := by decide +kernel
theorem dX11_writeHeads_238 : decode cX11_writeHeads 238 = .ok (.iadd, 1) := by decide +kernel
theorem dX11_writeHeads_239 : decode cX11_writeHeads 239 = .ok (.iadd, 1) := by decide +kernel
theorem dX11_writeHeads_240 : decode cX11_writeHeads 240 = .ok (.istore_n 2, 1) := by decide +kernel
theorem dX11_writeHeads_241 : decode cX11_writeHeads 241 = .ok (.goto 74, 3) := by decide +kernel
theorem dX11_writeHeads_244 : decode cX11_writeHeads 244 = .ok (.iconst 0, 1) := by decide +kernel
theorem dX11_writeHeads_245 : decode cX11_writeHeads 245 = .ok (.istore 4, 2) := by decide +kernel
theorem dX11_writeHeads_247 : decode cX11_writeHeads 247 = .ok (.iload 4, 2) := by decide +kernel
theorem dX11_writeHeads_249 : decode cX11_writeHeads 249 = .ok (.aload_n 0, 1) := by decide +kernel
theorem dX11_writeHeads_250 : decode cX11_writeHeads 250 = .ok (.getfield 7, 3) := by decide +kernel
theorem dX11_writeHeads_253 : decode cX11_writeHeads 253 = .ok (.iload_n 3, 1) := by decide +kernel
theorem dX11_writeHeads_254 : decode cX11_writeHeads 254 = .ok (.iaload, 1) := by decide +kernel
theorem dX11_writeHeads_255 : decode cX11_writeHeads 255 = .ok (.if_icmp .ge 25, 3) := by decide +kernel
theorem dX11_writeHeads_258 : decode cX11_writeHeads 258 = .ok (.aload_n 0, 1) := by decide +kernel
theorem dX11_writeHeads_259 : decode cX11_writeHeads 259 = .ok (.aload_n 0, 1) := by decide +kernel
theorem dX11_writeHeads_260 : decode cX11_writeHeads 260 = .ok (.getfield 13, 3) := by decide +kernel
theorem dX11_writeHeads_263 : decode cX11_writeHeads 263 = .ok (.bipush 20, 2) := by decide +kernel
theorem dX11_writeHeads_265 : decode cX11_writeHeads 265 = .ok (.iload_n 3, 1) := by decide +kernel
theorem dX11_writeHeads_266 : decode cX11_writeHeads 266 = .ok (.imul, 1) := by decide +kernel
theorem dX11_writeHeads_267 : decode cX11_writeHeads 267 = .ok (.iload 4, 2) := by decide +kernel
theorem dX11_writeHeads_269 : decode cX11_writeHeads 269 = .ok (.iadd, 1) := by decide +kernel
theorem dX11_writeHeads_270 : decode cX11_writeHeads 270 = .ok (.iaload, 1) := by decide +kernel
theorem dX11_writeHeads_271 : decode cX11_writeHeads 271 = .ok (.invokevirtual 80, 3) := by decide +kernel
theorem dX11_writeHeads_274 : decode cX11_writeHeads 274 = .ok (.iinc 4 1, 3) := by decide +kernel
theorem dX11_writeHeads_277 : decode cX11_writeHeads 277 = .ok (.goto (-30), 3) := by decide +kernel
theorem dX11_writeHeads_280 : decode cX11_writeHeads 280 = .ok (.aload_n 0, 1) := by decide +kernel
theorem dX11_writeHeads_281 : decode cX11_writeHeads 281 = .ok (.bipush 47, 2) := by decide +kernel
theorem dX11_writeHeads_283 : decode cX11_writeHeads 283 = .ok (.invokevirtual 80, 3) := by decide +kernel
theorem dX11_writeHeads_286 : decode cX11_writeHeads 286 = .ok (.aload_n 0, 1) := by decide +kernel
theorem dX11_writeHeads_287 : decode cX11_writeHeads 287 = .ok (.getfield 7, 3) := by decide +kernel
theorem dX11_writeHeads_290 : decode cX11_writeHeads 290 = .ok (.iload_n 3, 1) := by decide +kernel
theorem dX11_writeHeads_291 : decode cX11_writeHeads 291 = .ok (.iaload, 1) := by decide +kernel
theorem dX11_writeHeads_292 : decode cX11_writeHeads 292 = .ok (.iconst 1, 1) := by decide +kernel
theorem dX11_writeHeads_293 : decode cX11_writeHeads 293 = .ok (.iadd, 1) := by decide +kernel
theorem dX11_writeHeads_294 : decode cX11_writeHeads 294 = .ok (.istore 4, 2) := by decide +kernel
theorem dX11_writeHeads_296 : decode cX11_writeHeads 296 = .ok (.iload 4, 2) := by decide +kernel
theorem dX11_writeHeads_298 : decode cX11_writeHeads 298 = .ok (.bipush 8, 2) := by decide +kernel
theorem dX11_writeHeads_300 : decode cX11_writeHeads 300 = .ok (.if_icmp .ge 15, 3) := by decide +kernel
theorem dX11_writeHeads_303 : decode cX11_writeHeads 303 = .ok (.aload_n 0, 1) := by decide +kernel
theorem dX11_writeHeads_304 : decode cX11_writeHeads 304 = .ok (.bipush 32, 2) := by decide +kernel
theorem dX11_writeHeads_306 : decode cX11_writeHeads 306 = .ok (.invokevirtual 80, 3) := by decide +kernel
theorem dX11_writeHeads_309 : decode cX11_writeHeads 309 = .ok (.iinc 4 1, 3) := by decide +kernel
theorem dX11_writeHeads_312 : decode cX11_writeHeads 312 = .ok (.goto (-16), 3) := by decide +kernel
theorem dX11_writeHeads_315 : decode cX11_writeHeads 315 = .ok (.aload_n 0, 1) := by decide +kernel
theorem dX11_writeHeads_316 : decode cX11_writeHeads 316 = .ok (.iload_n 3, 1) := by decide +kernel
theorem dX11_writeHeads_317 : decode cX11_writeHeads 317 = .ok (.invokevirtual 91, 3) := by decide +kernel
theorem dX11_writeHeads_320 : decode cX11_writeHeads 320 = .ok (.istore 4, 2) := by decide +kernel
theorem dX11_writeHeads_322 : decode cX11_writeHeads 322 = .ok (.aload_n 0, 1) := by decide +kernel
theorem dX11_writeHeads_323 : decode cX11_writeHeads 323 = .ok (.aload_n 0, 1) := by decide +kernel
theorem dX11_writeHeads_324 : decode cX11_writeHeads 324 = .ok (.getfield 19, 3) := by decide +kernel
theorem dX11_writeHeads_327 : decode cX11_writeHeads 327 = .ok (.iload 4, 2) := by decide +kernel
theorem dX11_writeHeads_329 : decode cX11_writeHeads 329 = .ok (.iaload, 1) := by decide +kernel
theorem dX11_writeHeads_330 : decode cX11_writeHeads 330 = .ok (.invokevirtual 88, 3) := by decide +kernel
theorem dX11_writeHeads_333 : decode cX11_writeHeads 333 = .ok (.iconst 0, 1) := by decide +kernel
theorem dX11_writeHeads_334 : decode cX11_writeHeads 334 = .ok (.istore 5, 2) := by decide +kernel
theorem dX11_writeHeads_336 : decode cX11_writeHeads 336 = .ok (.iload 5, 2) := by decide +kernel
theorem dX11_writeHeads_338 : decode cX11_writeHeads 338 = .ok (.aload_n 0, 1) := by decide +kernel
theorem dX11_writeHeads_339 : decode cX11_writeHeads 339 = .ok (.getfield 19, 3) := by decide +kernel
theorem dX11_writeHeads_342 : decode cX11_writeHeads 342 = .ok (.iload 4, 2) := by decide +kernel
theorem dX11_writeHeads_344 : decode cX11_writeHeads 344 = .ok (.iaload, 1) := by decide +kernel
theorem dX11_writeHeads_345 : decode cX11_writeHeads 345 = .ok (.if_icmp .ge 26, 3) := by decide +kernel
theorem dX11_writeHeads_348 : decode cX11_writeHeads 348 = .ok (.aload_n 0, 1) := by decide +kernel
theorem dX11_writeHeads_349 : decode cX11_writeHeads 349 = .ok (.aload_n 0, 1) := by decide +kernel
theorem dX11_writeHeads_350 : decode cX11_writeHeads 350 = .ok (.getfield 22, 3) := by decide +kernel
theorem dX11_writeHeads_353 : decode cX11_writeHeads 353 = .ok (.bipush 60, 2) := by decide +kernel
theorem dX11_writeHeads_355 : decode cX11_writeHeads 355 = .ok (.iload 4, 2) := by decide +kernel
theorem dX11_writeHeads_357 : decode cX11_writeHeads 357 = .ok (.imul, 1) := by decide +kernel
theorem dX11_writeHeads_358 : decode cX11_writeHeads 358 = .ok (.iload 5, 2) := by decide +kernel
theorem dX11_writeHeads_360 : decode cX11_writeHeads 360 = .ok (.iadd, 1) := by decide +kernel
theorem dX11_writeHeads_361 : decode cX11_writeHeads 361 = .ok (.iaload, 1) := by decide +kernel
theorem dX11_writeHeads_362 : decode cX11_writeHeads 362 = .ok (.invokevirtual 80, 3) := by decide +kernel
theorem dX11_writeHeads_365 : decode cX11_writeHeads 365 = .ok (.iinc 5 1, 3) := by decide +kernel
theorem dX11_writeHeads_368 : decode cX11_writeHeads 368 = .ok (.goto (-32), 3) := by decide +kernel
theorem dX11_writeHeads_371 : decode cX11_writeHeads 371 = .ok (.aload_n 0, 1) := by decide +kernel
theorem dX11_writeHeads_372 : decode cX11_writeHeads 372 = .ok (.getfield 19, 3) := by decide +kernel
theorem dX11_writeHeads_375 : decode cX11_writeHeads 375 = .ok (.iload 4, 2) := by decide +kernel
theorem dX11_writeHeads_377 : decode cX11_writeHeads 377 = .ok (.iaload, 1) := by decide +kernel
theorem dX11_writeHeads_378 : decode cX11_writeHeads 378 = .ok (.iconst 2, 1) := by decide +kernel
theorem dX11_writeHeads_379 : decode cX11_writeHeads 379 = .ok (.irem, 1) := by decide +kernel
theorem dX11_writeHeads_380 : decode cX11_writeHeads 380 = .ok (.iconst 1, 1) := by decide +kernel
theorem dX11_writeHeads_381 : decode cX11_writeHeads 381 = .ok (.if_icmp .ne 9, 3) := by decide +kernel
theorem dX11_writeHeads_384 : decode cX11_writeHeads 384 = .ok (.aload_n 0, 1) := by decide +kernel
theorem dX11_writeHeads_385 : decode cX11_writeHeads 385 = .ok (.bipush 10, 2) := by decide +kernel
theorem dX11_writeHeads_387 : decode cX11_writeHeads 387 = .ok (.invokevirtual 80, 3) := by decide +kernel
theorem dX11_writeHeads_390 : decode cX11_writeHeads 390 = .ok (.iinc 3 1, 3) := by decide +kernel
theorem dX11_writeHeads_393 : decode cX11_writeHeads 393 = .ok (.goto (-195), 3) := by decide +kernel
theorem dX11_writeHeads_396 : decode cX11_writeHeads 396 = .ok (.return_, 1) := by decide +kernel
theorem dX11_writeHead_0 : decode cX11_writeHead 0 = .ok (.aload_n 0, 1) := by decide +kernel
theorem dX11_writeHead_1 : decode cX11_writeHead 1 = .ok (.sipush 199, 3) := by decide +kernel
theorem dX11_writeHead_4 : decode cX11_writeHead 4 = .ok (.invokevirtual 80, 3) := by decide +kernel
theorem dX11_writeHead_7 : decode cX11_writeHead 7 = .ok (.aload_n 0, 1) := by decide +kernel
theorem dX11_writeHead_8 : decode cX11_writeHead 8 = .ok (.bipush 113, 2) := by decide +kernel
theorem dX11_writeHead_10 : decode cX11_writeHead 10 = .ok (.invokevirtual 80, 3) := by decide +kernel
theorem dX11_writeHead_13 : decode cX11_writeHead 13 = .ok (.aload_n 0, 1) := by decide +kernel
theorem dX11_writeHead_14 : decode cX11_writeHead 14 = .ok (.iload_n 1, 1) := by decide +kernel
theorem dX11_writeHead_15 : decode cX11_writeHead 15 = .ok (.invokevirtual 94, 3) := by decide +kernel
theorem dX11_writeHead_18 : decode cX11_writeHead 18 = .ok (.aload_n 0, 1) := by decide +kernel
theorem dX11_writeHead_19 : decode cX11_writeHead 19 = .ok (.iload_n 2, 1) := by decide +kernel
theorem dX11_writeHead_20 : decode cX11_writeHead 20 = .ok (.invokevirtual 80, 3) := by decide +kernel
theorem dX11_writeHead_23 : decode cX11_writeHead 23 = .ok (.aload_n 0, 1) := by decide +kernel
theorem dX11_writeHead_24 : decode cX11_writeHead 24 = .ok (.iload_n 3, 1) := by decide +kernel
theorem dX11_writeHead_25 : decode cX11_writeHead 25 = .ok (.iconst 1, 1) := by decide +kernel
theorem dX11_writeHead_26 : decode cX11_writeHead 26 = .ok (.iadd, 1) := by decide +kernel
theorem dX11_writeHead_27 : decode cX11_writeHead 27 = .ok (.invokevirtual 80, 3) := by decide +kernel
theorem dX11_writeHead_30 : decode cX11_writeHead 30 = .ok (.aload_n 0, 1) := by decide +kernel
theorem dX11_writeHead_31 : decode cX11_writeHead 31 = .ok (.iload 4, 2) := by decide +kernel
theorem dX11_writeHead_33 : decode cX11_writeHead 33 = .ok (.invokevirtual 94, 3) := by decide +kernel
theorem dX11_writeHead_36 : decode cX11_writeHead 36 = .ok (.aload_n 0, 1) := by decide +kernel
theorem dX11_writeHead_37 : decode cX11_writeHead 37 = .ok (.iload 5, 2) := by decide +kernel
theorem dX11_writeHead_39 : decode cX11_writeHead 39 = .ok (.invokevirtual 94, 3) := by decide +kernel
theorem dX11_writeHead_42 : decode cX11_writeHead 42 = .ok (.return_, 1) := by decide +kernel
theorem dX11_writeNumbers_0 : decode cX11_writeNumbers 0 = .ok (.iconst 0, 1) := by decide +kernel
theorem dX11_writeNumbers_1 : decode cX11_writeNumbers 1 = .ok (.istore_n 1, 1) := by decide +kernel
theorem dX11_writeNumbers_2 : decode cX11_writeNumbers 2 = .ok (.iconst 0, 1) := by decide +kernel
theorem dX11_writeNumbers_3 : decode cX11_writeNumbers 3 = .ok (.istore_n 2, 1) := by decide +kernel
theorem dX11_writeNumbers_4 : decode cX11_writeNumbers 4 = .ok (.iload_n 2, 1) := by decide +kernel
theorem dX11_writeNumbers_5 : decode cX11_writeNumbers 5 = .ok (.aload_n 0, 1) := by decide +kernel
theorem dX11_writeNumbers_6 : decode cX11_writeNumbers 6 = .ok (.getfield 70, 3) := by decide +kernel
theorem dX11_writeNumbers_9 : decode cX11_writeNumbers 9 = .ok (.if_icmp .ge 275, 3) := by decide +kernel
theorem dX11_writeNumbers_12 : decode cX11_writeNumbers 12 = .ok (.aload_n 0, 1) := by decide +kernel
theorem dX11_writeNumbers_13 : decode cX11_writeNumbers 13 = .ok (.iload_n 2, 1) := by decide +kernel
theorem dX11_writeNumbers_14 : decode cX11_writeNumbers 14 = .ok (.invokevirtual 91, 3) := by decide +kernel
theorem dX11_writeNumbers_17 : decode cX11_writeNumbers 17 = .ok (.istore_n 3, 1) := by decide +kernel
theorem dX11_writeNumbers_18 : decode cX11_writeNumbers 18 = .ok (.iconst 0, 1) := by decide +kernel
theorem dX11_writeNumbers_19 : decode cX11_writeNumbers 19 = .ok (.istore 4, 2) := by decide +kernel
theorem dX11_writeNumbers_21 : decode cX11_writeNumbers 21 = .ok (.iconst 0, 1) := by decide +kernel
theorem dX11_writeNumbers_22 : decode cX11_writeNumbers 22 = .ok (.istore 5, 2) := by decide +kernel
theorem dX11_writeNumbers_24 : decode cX11_writeNumbers 24 = .ok (.iload 5, 2) := by decide +kernel
theorem dX11_writeNumbers_26 : decode cX11_writeNumbers 26 = .ok (.iload_n 3, 1) := by decide +kernel
theorem dX11_writeNumbers_27 : decode cX11_writeNumbers 27 = .ok (.if_icmp .gt 30, 3) := by decide +kernel
theorem dX11_writeNumbers_30 : decode cX11_writeNumbers 30 = .ok (.iload 4, 2) := by decide +kernel
theorem dX11_writeNumbers_32 : decode cX11_writeNumbers 32 = .ok (.aload_n 0, 1) := by decide +kernel
theorem dX11_writeNumbers_33 : decode cX11_writeNumbers 33 = .ok (.getfield 16, 3) := by decide +kernel
theorem dX11_writeNumbers_36 : decode cX11_writeNumbers 36 = .ok (.iload 5, 2) := by decide +kernel
theorem dX11_writeNumbers_38 : decode cX11_writeNumbers 38 = .ok (.iaload, 1) := by decide +kernel
theorem dX11_writeNumbers_39 : decode cX11_writeNumbers 39 = .ok (.iconst (-1), 1) := by decide +kernel
theorem dX11_writeNumbers_40 : decode cX11_writeNumbers 40 = .ok (.if_icmp .ne 7, 3) := by decide +kernel
theorem dX11_writeNumbers_43 : decode cX11_writeNumbers 43 = .ok (.iconst 1, 1) := by decide +kernel
theorem dX11_writeNumbers_44 : decode cX11_writeNumbers 44 = .ok (.goto 4, 3) := by decide +kernel
theorem dX11_writeNumbers_47 : decode cX11_writeNumbers 47 = .ok (.iconst 0, 1) := by decide +kernel
theorem dX11_writeNumbers_48 : decode cX11_writeNumbers 48 = .ok (.iadd, 1) := by decide +kernel
theorem dX11_writeNumbers_49 : decode cX11_writeNumbers 49 = .ok (.istore 4, 2) := by decide +kernel
theorem dX11_writeNumbers_51 : decode cX11_writeNumbers 51 = .ok (.iinc 5 1, 3) := by decide +kernel
theorem dX11_writeNumbers_54 : decode cX11_writeNumbers 54 = .ok (.goto (-30), 3) := by decide +kernel
theorem dX11_writeNumbers_57 : decode cX11_writeNumbers 57 = .ok (.iconst 0, 1) := by decide +kernel
theorem dX11_writeNumbers_58 : decode cX11_writeNumbers 58 = .ok (.istore 5, 2) := by decide +kernel
theorem dX11_writeNumbers_60 : decode cX11_writeNumbers 60 = .ok (.iload_n 2, 1) := by decide +kernel
theorem dX11_writeNumbers_61 : decode cX11_writeNumbers 61 = .ok (.istore 6, 2) := by decide +kernel
theorem dX11_writeNumbers_63 : decode cX11_writeNumbers 63 = .ok (.iconst 0, 1) := by decide +kernel
theorem dX11_writeNumbers_64 : decode cX11_writeNumbers 64 = .ok (.istore 7, 2) := by decide +kernel
theorem dX11_writeNumbers_66 : decode cX11_writeNumbers 66 = .ok (.iload 7, 2) := by decide +kernel
theorem dX11_writeNumbers_68 : decode cX11_writeNumbers 68 = .ok (.aload_n 0, 1) := by decide +kernel
theorem dX11_writeNumbers_69 : decode cX11_writeNumbers 69 = .ok (.getfield 70, 3) := by decide +kernel
theorem dX11_writeNumbers_72 : decode cX11_writeNumbers 72 = .ok (.if_icmp .ge 26, 3) := by decide +kernel
theorem dX11_writeNumbers_75 : decode cX11_writeNumbers 75 = .ok (.aload_n 0, 1) := by decide +kernel
theorem dX11_writeNumbers_76 : decode cX11_writeNumbers 76 = .ok (.iload 7, 2) := by decide +kernel
theorem dX11_writeNumbers_78 : decode cX11_writeNumbers 78 = .ok (.invokevirtual 91, 3) := by decide +kernel
theorem dX11_writeNumbers_81 : decode cX11_writeNumbers 81 = .ok (.iload_n 3, 1) := by decide +kernel
theorem dX11_writeNumbers_82 : decode cX11_writeNumbers 82 = .ok (.if_icmp .ne 10, 3) := by decide +kernel
theorem dX11_writeNumbers_85 : decode cX11_writeNumbers 85 = .ok (.iinc 5 1, 3) := by decide +kernel
theorem dX11_writeNumbers_88 : decode cX11_writeNumbers 88 = .ok (.iload 7, 2) := by decide +kernel
theorem dX11_writeNumbers_90 : decode cX11_writeNumbers 90 = .ok (.istore 6, 2) := by decide +kernel
theorem dX11_writeNumbers_92 : decode cX11_writeNumbers 92 = .ok (.iinc 7 1, 3) := by decide +kernel
theorem dX11_writeNumbers_95 : decode cX11_writeNumbers 95 = .ok (.goto (-29), 3) := by decide +kernel
theorem dX11_writeNumbers_98 : decode cX11_writeNumbers 98 = .ok (.iload 6, 2) := by decide +kernel
theorem dX11_writeNumbers_100 : decode cX11_writeNumbers 100 = .ok (.iload_n 2, 1) := by decide +kernel
theorem dX11_writeNumbers_101 : decode cX11_writeNumbers 101 = .ok (.if_icmp .ne 12, 3) := by decide +kernel
theorem dX11_writeNumbers_104 : decode cX11_writeNumbers 104 = .ok (.aload_n 0, 1) := by decide +kernel
theorem dX11_writeNumbers_105 : decode cX11_writeNumbers 105 = .ok (.getfield 19, 3) := by decide +kernel
theorem dX11_writeNumbers_108 : decode cX11_writeNumbers 108 = .ok (.iload_n 3, 1) := by decide +kernel
theorem dX11_writeNumbers_109 : decode cX11_writeNumbers 109 = .ok (.iaload, 1) := by decide +kernel
theorem dX11_writeNumbers_110 : decode cX11_writeNumbers 110 = .ok (.goto 4, 3) := by decide +kernel
theorem dX11_writeNumbers_113 : decode cX11_writeNumbers 113 = .ok (.iconst 0, 1) := by decide +kernel
theorem dX11_writeNumbers_114 : decode cX11_writeNumbers 114 = .ok (.istore 7, 2) := by decide +kernel
theorem dX11_writeNumbers_116 : decode cX11_writeNumbers 116 = .ok (.iconst 0, 1) := by decide +kernel
theorem dX11_writeNumbers_117 : decode cX11_writeNumbers 117 = .ok (.istore 8, 2) := by decide +kernel
theorem dX11_writeNumbers_119 : decode cX11_writeNumbers 119 = .ok (.iconst 0, 1) := by decide +kernel
theorem dX11_writeNumbers_120 : decode cX11_writeNumbers 120 = .ok (.istore 9, 2) := by decide +kernel
theorem dX11_writeNumbers_122 : decode cX11_writeNumbers 122 = .ok (.iload 9, 2) := by decide +kernel
theorem dX11_writeNumbers_124 : decode cX11_writeNumbers 124 = .ok (.iload 7, 2) := by decide +kernel
theorem dX11_writeNumbers_126 : decode cX11_writeNumbers 126 = .ok (.if_icmp .ge 26, 3) := by decide +kernel
theorem dX11_writeNumbers_129 : decode cX11_writeNumbers 129 = .ok (.iload 8, 2) := by decide +kernel
theorem dX11_writeNumbers_131 : decode cX11_writeNumbers 131 = .ok (.aload_n 0, 1) := by decide +kernel
theorem dX11_writeNumbers_132 : decode cX11_writeNumbers 132 = .ok (.getfield 22, 3) := by decide +kernel
theorem dX11_writeNumbers_135 : decode cX11_writeNumbers 135 = .ok (.bipush 60, 2) := by decide +kernel
theorem dX11_writeNumbers_137 : decode cX11_writeNumbers 137 = .ok (.iload_n 3, 1) := by decide +kernel
theorem dX11_writeNumbers_138 : decode cX11_writeNumbers 138 = .ok (.imul, 1) := by decide +kernel
theorem dX11_writeNumbers_139 : decode cX11_writeNumbers 139 = .ok (.iload 9, 2) := by decide +kernel
theorem dX11_writeNumbers_141 : decode cX11_writeNumbers 141 = .ok (.iadd, 1) := by decide +kernel
theorem dX11_writeNumbers_142 : decode cX11_writeNumbers 142 = .ok (.iaload, 1) := by decide +kernel
theorem dX11_writeNumbers_143 : decode cX11_writeNumbers 143 = .ok (.iadd, 1) := by decide +kernel
theorem dX11_writeNumbers_144 : decode cX11_writeNumbers 144 = .ok (.istore 8, 2) := by decide +kernel
theorem dX11_writeNumbers_146 : decode cX11_writeNumbers 146 = .ok (.iinc 9 1, 3) := by decide +kernel
theorem dX11_writeNumbers_149 : decode cX11_writeNumbers 149 = .ok (.goto (-27), 3) := by decide +kernel
theorem dX11_writeNumbers_152 : decode cX11_writeNumbers 152 = .ok (.aload_n 0, 1) := by decide +kernel
theorem dX11_writeNumbers_153 : decode cX11_writeNumbers 153 = .ok (.iload 4, 2) := by decide +kernel
theorem dX11_writeNumbers_155 : decode cX11_writeNumbers 155 = .ok (.iload 5, 2) := by decide +kernel
theorem dX11_writeNumbers_157 : decode cX11_writeNumbers 157 = .ok (.aload_n 0, 1) := by decide +kernel
theorem dX11_writeNumbers_158 : decode cX11_writeNumbers 158 = .ok (.getfield 7, 3) := by decide +kernel
theorem dX11_writeNumbers_161 : decode cX11_writeNumbers 161 = .ok (.iload_n 2, 1) := by decide +kernel
theorem dX11_writeNumbers_162 : decode cX11_writeNumbers 162 = .ok (.iaload, 1) := by decide +kernel
theorem dX11_writeNumbers_163 : decode cX11_writeNumbers 163 = .ok (.iload 7, 2) := by decide +kernel
theorem dX11_writeNumbers_165 : decode cX11_writeNumbers 165 = .ok (.iload 8, 2) := by decide +kernel
theorem dX11_writeNumbers_167 : decode cX11_writeNumbers 167 = .ok (.ldc 97, 2) := by decide +kernel
theorem dX11_writeNumbers_169 : decode cX11_writeNumbers 169 = .ok (.iand, 1) := by decide +kernel
theorem dX11_writeNumbers_170 : decode cX11_writeNumbers 170 = .ok (.invokevirtual 98, 3) := by decide +kernel
theorem dX11_writeNumbers_173 : decode cX11_writeNumbers 173 = .ok (.iconst 0, 1) := by decide +kernel
theorem dX11_writeNumbers_174 : decode cX11_writeNumbers 174 = .ok (.istore 9, 2) := by decide +kernel
theorem dX11_writeNumbers_176 : decode cX11_writeNumbers 176 = .ok (.iload 9, 2) := by decide +kernel
theorem dX11_writeNumbers_178 : decode cX11_writeNumbers 178 = .ok (.aload_n 0, 1) := by decide +kernel
theorem dX11_writeNumbers_179 : decode cX11_writeNumbers 179 = .ok (.getfield 7, 3) := by decide +kernel
theorem dX11_writeNumbers_182 : decode cX11_writeNumbers 182 = .ok (.iload_n 2, 1) := by decide +kernel
theorem dX11_writeNumbers_183 : decode cX11_writeNumbers 183 = .ok (.iaload, 1) := by decide +kernel
theorem dX11_writeNumbers_184 : decode cX11_writeNumbers 184 = .ok (.if_icmp .ge 25, 3) := by decide +kernel
theorem dX11_writeNumbers_187 : decode cX11_writeNumbers 187 = .ok (.aload_n 0, 1) := by decide +kernel
theorem dX11_writeNumbers_188 : decode cX11_writeNumbers 188 = .ok (.aload_n 0, 1) := by decide +kernel
theorem dX11_writeNumbers_189 : decode cX11_writeNumbers 189 = .ok (.getfield 13, 3) := by decide +kernel
theorem dX11_writeNumbers_192 : decode cX11_writeNumbers 192 = .ok (.bipush 20, 2) := by decide +kernel
theorem dX11_writeNumbers_194 : decode cX11_writeNumbers 194 = .ok (.iload_n 2, 1) := by decide +kernel
theorem dX11_writeNumbers_195 : decode cX11_writeNumbers 195 = .ok (.imul, 1) := by decide +kernel
theorem dX11_writeNumbers_196 : decode cX11_writeNumbers 196 = .ok (.iload 9, 2) := by decide +kernel
theorem dX11_writeNumbers_198 : decode cX11_writeNumbers 198 = .ok (.iadd, 1) := by decide +kernel
theorem dX11_writeNumbers_199 : decode cX11_writeNumbers 199 = .ok (.iaload, 1) := by decide +kernel
theorem dX11_writeNumbers_200 : decode cX11_writeNumbers 200 = .ok (.invokevirtual 80, 3) := by decide +kernel
theorem dX11_writeNumbers_203 : decode cX11_writeNumbers 203 = .ok (.iinc 9 1, 3) := by decide +kernel
theorem dX11_writeNumbers_206 : decode cX11_writeNumbers 206 = .ok (.goto (-30), 3) := by decide +kernel
theorem dX11_writeNumbers_209 : decode cX11_writeNumbers 209 = .ok (.aload_n 0, 1) := by decide +kernel
theorem dX11_writeNumbers_210 : decode cX11_writeNumbers 210 = .ok (.iconst 0, 1) := by decide +kernel
theorem dX11_writeNumbers_211 : decode cX11_writeNumbers 211 = .ok (.invokevirtual 80, 3) := by decide +kernel
theorem dX11_writeNumbers_214 : decode cX11_writeNumbers 214 = .ok (.aload_n 0, 1) := by decide +kernel
theorem dX11_writeNumbers_215 : decode cX11_writeNumbers 215 = .ok (.getfield 7, 3) := by decide +kernel
theorem dX11_writeNumbers_218 : decode cX11_writeNumbers 218 = .ok (.iload_n 2, 1) := by decide +kernel
theorem dX11_writeNumbers_219 : decode cX11_writeNumbers 219 = .ok (.iaload, 1) := by decide +kernel
theorem dX11_writeNumbers_220 : decode cX11_writeNumbers 220 = .ok (.iconst 2, 1) := by decide +kernel
theorem dX11_writeNumbers_221 : decode cX11_writeNumbers 221 = .ok (.irem, 1) := by decide +kernel
theorem dX11_writeNumbers_222 : decode cX11_writeNumbers 222 = .ok (.ifCond .ne 8, 3) := by decide +kernel
theorem dX11_writeNumbers_225 : decode cX11_writeNumbers 225 = .ok (.aload_n 0, 1) := by decide +kernel
theorem dX11_writeNumbers_226 : decode cX11_writeNumbers 226 = .ok (.iconst 0, 1) := by decide +kernel
theorem dX11_writeNumbers_227 : decode cX11_writeNumbers 227 = .ok (.invokevirtual 80, 3) := by decide +kernel
theorem dX11_writeNumbers_230 : decode cX11_writeNumbers 230 = .ok (.iconst 0, 1) := by decide +kernel
theorem dX11_writeNumbers_231 : decode cX11_writeNumbers 231 = .ok (.istore 9, 2) := by decide +kernel
theorem dX11_writeNumbers_233 : decode cX11_writeNumbers 233 = .ok (.iload 9, 2) := by decide +kernel
theorem dX11_writeNumbers_235 : decode cX11_writeNumbers 235 = .ok (.iload 7, 2) := by decide +kernel
theorem dX11_writeNumbers_237 : decode cX11_writeNumbers 237 = .ok (.if_icmp .ge 25, 3) := by decide +kernel
theorem dX11_writeNumbers_240 : decode cX11_writeNumbers 240 = .ok (.aload_n 0, 1) := by decide +kernel
theorem dX11_writeNumbers_241 : decode cX11_writeNumbers 241 = .ok (.aload_n 0, 1) := by decide +kernel
theorem dX11_writeNumbers_242 : decode cX11_writeNumbers 242 = .ok (.getfield 22, 3) := by decide +kernel
theorem dX11_writeNumbers_245 : decode cX11_writeNumbers 245 = .ok (.bipush 60, 2) := by decide +kernel
theorem dX11_writeNumbers_247 : decode cX11_writeNumbers 247 = .ok (.iload_n 3, 1) := by decide +kernel
theorem dX11_writeNumbers_248 : decode cX11_writeNumbers 248 = .ok (.imul, 1) := by decide +kernel
theorem dX11_writeNumbers_249 : decode cX11_writeNumbers 249 = .ok (.iload 9, 2) := by decide +kernel
theorem dX11_writeNumbers_251 : decode cX11_writeNumbers 251 = .ok (.iadd, 1) := by decide +kernel
theorem dX11_writeNumbers_252 : decode cX11_writeNumbers 252 = .ok (.iaload, 1) := by decide +kernel
theorem dX11_writeNumbers_253 : decode cX11_writeNumbers 253 = .ok (.invokevirtual 80, 3) := by decide +kernel
theorem dX11_writeNumbers_256 : decode cX11_writeNumbers 256 = .ok (.iinc 9 1, 3) := by decide +kernel
theorem dX11_writeNumbers_259 : decode cX11_writeNumbers 259 = .ok (.goto (-26), 3) := by decide +kernel
theorem dX11_writeNumbers_262 : decode cX11_writeNumbers 262 = .ok (.iload 7, 2) := by decide +kernel
theorem dX11_writeNumbers_264 : decode cX11_writeNumbers 264 = .ok (.iconst 2, 1) := by decide +kernel
theorem dX11_writeNumbers_265 : decode cX11_writeNumbers 265 = .ok (.irem, 1) := by decide +kernel
theorem dX11_writeNumbers_266 : decode cX11_writeNumbers 266 = .ok (.iconst 1, 1) := by decide +kernel
theorem dX11_writeNumbers_267 : decode cX11_writeNumbers 267 = .ok (.if_icmp .ne 8, 3) := by decide +kernel
theorem dX11_writeNumbers_270 : decode cX11_writeNumbers 270 = .ok (.aload_n 0, 1) := by decide +kernel
theorem dX11_writeNumbers_271 : decode cX11_writeNumbers 271 = .ok (.iconst 0, 1) := by decide +kernel
theorem dX11_writeNumbers_272 : decode cX11_writeNumbers 272 = .ok (.invokevirtual 80, 3) := by decide +kernel
theorem dX11_writeNumbers_275 : decode cX11_writeNumbers 275 = .ok (.iload 4, 2) := by decide +kernel
theorem dX11_writeNumbers_277 : decode cX11_writeNumbers 277 = .ok (.istore_n 1, 1) := by decide +kernel
theorem dX11_writeNumbers_278 : decode cX11_writeNumbers 278 = .ok (.iinc 2 1, 3) := by decide +kernel
theorem dX11_writeNumbers_281 : decode cX11_writeNumbers 281 = .ok (.goto (-277), 3) := by decide +kernel
theorem dX11_writeNumbers_284 : decode cX11_writeNumbers 284 = .ok (.aload_n 0, 1) := by decide +kernel
theorem dX11_writeNumbers_285 : decode cX11_writeNumbers 285 = .ok (.iconst 0, 1) := by decide +kernel
theorem dX11_writeNumbers_286 : decode cX11_writeNumbers 286 = .ok (.iconst 1, 1) := by decide +kernel
theorem dX11_writeNumbers_287 : decode cX11_writeNumbers 287 = .ok (.bipush 8, 2) := by decide +kernel
theorem dX11_writeNumbers_289 : decode cX11_writeNumbers 289 = .ok (.iconst 0, 1) := by decide +kernel
theorem dX11_writeNumbers_290 : decode cX11_writeNumbers 290 = .ok (.iconst 0, 1) := by decide +kernel
theorem dX11_writeNumbers_291 : decode cX11_writeNumbers 291 = .ok (.invokevirtual 98, 3) := by decide +kernel
theorem dX11_writeNumbers_294 : decode cX11_writeNumbers 294 = .ok (.iconst 0, 1) := by decide +kernel
theorem dX11_writeNumbers_295 : decode cX11_writeNumbers 295 = .ok (.istore_n 2, 1) := by decide +kernel
theorem dX11_writeNumbers_296 : decode cX11_writeNumbers 296 = .ok (.iload_n 2, 1) := by decide +kernel
theorem dX11_writeNumbers_297 : decode cX11_writeNumbers 297 = .ok (.bipush 8, 2) := by decide +kernel
theorem dX11_writeNumbers_299 : decode cX11_writeNumbers 299 = .ok (.if_icmp .ge 17, 3) := by decide +kernel
theorem dX11_writeNumbers_302 : decode cX11_writeNumbers 302 = .ok (.aload_n 0, 1) := by decide +kernel
theorem dX11_writeNumbers_303 : decode cX11_writeNumbers 303 = .ok (.iload_n 2, 1) := by decide +kernel
theorem dX11_writeNumbers_304 : decode cX11_writeNumbers 304 = .ok (.invokestatic 66, 3) := by decide +kernel
theorem dX11_writeNumbers_307 : decode cX11_writeNumbers 307 = .ok (.invokevirtual 80, 3) := by decide +kernel
theorem dX11_writeNumbers_310 : decode cX11_writeNumbers 310 = .ok (.iinc 2 1, 3) := by decide +kernel
theorem dX11_writeNumbers_313 : decode cX11_writeNumbers 313 = .ok (.goto (-17), 3) := by decide +kernel
theorem dX11_writeNumbers_316 : decode cX11_writeNumbers 316 = .ok (.aload_n 0, 1) := by decide +kernel
theorem dX11_writeNumbers_317 : decode cX11_writeNumbers 317 = .ok (.iconst 0, 1) := by decide +kernel
theorem dX11_writeNumbers_318 : decode cX11_writeNumbers 318 = .ok (.invokevirtual 80, 3) := by decide +kernel
theorem dX11_writeNumbers_321 : decode cX11_writeNumbers 321 = .ok (.aload_n 0, 1) := by decide +kernel
theorem dX11_writeNumbers_322 : decode cX11_writeNumbers 322 = .ok (.iconst 0, 1) := by decide +kernel
theorem dX11_writeNumbers_323 : decode cX11_writeNumbers 323 = .ok (.invokevirtual 80, 3) := by decide +kernel
theorem dX11_writeNumbers_326 : decode cX11_writeNumbers 326 = .ok (.return_, 1) := by decide +kernel
theorem dX11_signOf_0 : decode cX11_signOf 0 = .ok (.iload_n 0, 1) := by decide +kernel
theorem dX11_signOf_1 : decode cX11_signOf 1 = .ok (.ifCond .ne 8, 3) := by decide +kernel
theorem dX11_signOf_4 : decode cX11_signOf 4 = .ok (.bipush 96, 2) := by decide +kernel
theorem dX11_signOf_6 : decode cX11_signOf 6 = .ok (.goto 7, 3) := by decide +kernel
theorem dX11_signOf_9 : decode cX11_signOf 9 = .ok (.bipush 32, 2) := by decide +kernel
theorem dX11_signOf_11 : decode cX11_signOf 11 = .ok (.iload_n 0, 1) := by decide +kernel
theorem dX11_signOf_12 : decode cX11_signOf 12 = .ok (.iadd, 1) := by decide +kernel
theorem dX11_signOf_13 : decode cX11_signOf 13 = .ok (.ireturn, 1) := by decide +kernel
theorem dX11_writeLines_0 : decode cX11_writeLines 0 = .ok (.iconst 0, 1) := by decide +kernel
theorem dX11_writeLines_1 : decode cX11_writeLines 1 = .ok (.istore_n 1, 1) := by decide +kernel
theorem dX11_writeLines_2 : decode cX11_writeLines 2 = .ok (.iload_n 1, 1) := by decide +kernel
theorem dX11_writeLines_3 : decode cX11_writeLines 3 = .ok (.aload_n 0, 1) := by decide +kernel
theorem dX11_writeLines_4 : decode cX11_writeLines 4 = .ok (.getfield 70, 3) := by decide +kernel
theorem dX11_writeLines_7 : decode cX11_writeLines 7 = .ok (.if_icmp .ge 318, 3) := by decide +kernel
theorem dX11_writeLines_10 : decode cX11_writeLines 10 = .ok (.aload_n 0, 1) := by decide +kernel
theorem dX11_writeLines_11 : decode cX11_writeLines 11 = .ok (.iload_n 1, 1) := by decide +kernel
theorem dX11_writeLines_12 : decode cX11_writeLines 12 = .ok (.invokevirtual 91, 3) := by decide +kernel
theorem dX11_writeLines_15 : decode cX11_writeLines 15 = .ok (.istore_n 2, 1) := by decide +kernel
theorem dX11_writeLines_16 : decode cX11_writeLines 16 = .ok (.aload_n 0, 1) := by decide +kernel
theorem dX11_writeLines_17 : decode cX11_writeLines 17 = .ok (.bipush 98, 2) := by decide +kernel
theorem dX11_writeLines_19 : decode cX11_writeLines 19 = .ok (.invokevirtual 80, 3) := by decide +kernel
theorem dX11_writeLines_22 : decode cX11_writeLines 22 = .ok (.aload_n 0, 1) := by decide +kernel
theorem dX11_writeLines_23 : decode cX11_writeLines 23 = .ok (.bipush 101, 2) := by decide +kernel
theorem dX11_writeLines_25 : decode cX11_writeLines 25 = .ok (.invokevirtual 80, 3) := by decide +kernel
theorem dX11_writeLines_28 : decode cX11_writeLines 28 = .ok (.aload_n 0, 1) := by decide +kernel
theorem dX11_writeLines_29 : decode cX11_writeLines 29 = .ok (.bipush 103, 2) := by decide +kernel
theorem dX11_writeLines_31 : decode cX11_writeLines 31 = .ok (.invokevirtual 80, 3) := by decide +kernel
theorem dX11_writeLines_34 : decode cX11_writeLines 34 = .ok (.aload_n 0, 1) := by decide +kernel
theorem dX11_writeLines_35 : decode cX11_writeLines 35 = .ok (.bipush 105, 2) := by decide +kernel
theorem dX11_writeLines_37 : decode cX11_writeLines 37 = .ok (.invokevirtual 80, 3) := by decide +kernel
theorem dX11_writeLines_40 : decode cX11_writeLines 40 = .ok (.aload_n 0, 1) := by decide +kernel
theorem dX11_writeLines_41 : decode cX11_writeLines 41 = .ok (.bipush 110, 2) := by decide +kernel
theorem dX11_writeLines_43 : decode cX11_writeLines 43 = .ok (.invokevirtual 80, 3) := by decide +kernel
theorem dX11_writeLines_46 : decode cX11_writeLines 46 = .ok (.aload_n 0, 1) := by decide +kernel
theorem dX11_writeLines_47 : decode cX11_writeLines 47 = .ok (.bipush 32, 2) := by decide +kernel
theorem dX11_writeLines_49 : decode cX11_writeLines 49 = .ok (.invokevirtual 80, 3) := by decide +kernel
theorem dX11_writeLines_52 : decode cX11_writeLines 52 = .ok (.iconst 0, 1) := by decide +kernel
theorem dX11_writeLines_53 : decode cX11_writeLines 53 = .ok (.istore_n 3, 1) := by decide +kernel
theorem dX11_writeLines_54 : decode cX11_writeLines 54 = .ok (.iload_n 3, 1) := by decide +kernel
theorem dX11_writeLines_55 : decode cX11_writeLines 55 = .ok (.aload_n 0, 1) := by decide +kernel
theorem dX11_writeLines_56 : decode cX11_writeLines 56 = .ok (.getfield 7, 3) := by decide +kernel
theorem dX11_writeLines_59 : decode cX11_writeLines 59 = .ok (.iload_n 1, 1) := by decide +kernel
theorem dX11_writeLines_60 : decode cX11_writeLines 60 = .ok (.iaload, 1) := by decide +kernel
theorem dX11_writeLines_61 : decode cX11_writeLines 61 = .ok (.if_icmp .ge 24, 3) := by decide +kernel
theorem dX11_writeLines_64 : decode cX11_writeLines 64 = .ok (.aload_n 0, 1) := by decide +kernel
theorem dX11_writeLines_65 : decode cX11_writeLines 65 = .ok (.aload_n 0, 1) := by decide +kernel
theorem dX11_writeLines_66 : decode cX11_writeLines 66 = .ok (.getfield 13, 3) := by decide +kernel
theorem dX11_writeLines_69 : decode cX11_writeLines 69 = .ok (.bipush 20, 2) := by decide +kernel
theorem dX11_writeLines_71 : decode cX11_writeLines 71 = .ok (.iload_n 1, 1) := by decide +kernel
theorem dX11_writeLines_72 : decode cX11_writeLines 72 = .ok (.imul, 1) := by decide +kernel
theorem dX11_writeLines_73 : decode cX11_writeLines 73 = .ok (.iload_n 3, 1) := by decide +kernel
theorem dX11_writeLines_74 : decode cX11_writeLines 74 = .ok (.iadd, 1) := by decide +kernel
theorem dX11_writeLines_75 : decode cX11_writeLines 75 = .ok (.iaload, 1) := by decide +kernel
theorem dX11_writeLines_76 : decode cX11_writeLines 76 = .ok (.invokevirtual 80, 3) := by decide +kernel
theorem dX11_writeLines_79 : decode cX11_writeLines 79 = .ok (.iinc 3 1, 3) := by decide +kernel
theorem dX11_writeLines_82 : decode cX11_writeLines 82 = .ok (.goto (-28), 3) := by decide +kernel
theorem dX11_writeLines_85 : decode cX11_writeLines 85 = .ok (.aload_n 0, 1) := by decide +kernel
theorem dX11_writeLines_86 : decode cX11_writeLines 86 = .ok (.bipush 10, 2) := by decide +kernel
theorem dX11_writeLines_88 : decode cX11_writeLines 88 = .ok (.invokevirtual 80, 3) := by decide +kernel
theorem dX11_writeLines_91 : decode cX11_writeLines 91 = .ok (.iconst 0, 1) := by decide +kernel
theorem dX11_writeLines_92 : decode cX11_writeLines 92 = .ok (.istore_n 3, 1) := by decide +kernel
theorem dX11_writeLines_93 : decode cX11_writeLines 93 = .ok (.iload_n 3, 1) := by decide +kernel
theorem dX11_writeLines_94 : decode cX11_writeLines 94 = .ok (.aload_n 0, 1) := by decide +kernel
theorem dX11_writeLines_95 : decode cX11_writeLines 95 = .ok (.getfield 19, 3) := by decide +kernel
theorem dX11_writeLines_98 : decode cX11_writeLines 98 = .ok (.iload_n 2, 1) := by decide +kernel
theorem dX11_writeLines_99 : decode cX11_writeLines 99 = .ok (.iaload, 1) := by decide +kernel
theorem dX11_writeLines_100 : decode cX11_writeLines 100 = .ok (.if_icmp .ge 183, 3) := by decide +kernel
theorem dX11_writeLines_103 : decode cX11_writeLines 103 = .ok (.aload_n 0, 1) := by decide +kernel
theorem dX11_writeLines_104 : decode cX11_writeLines 104 = .ok (.getfield 19, 3) := by decide +kernel
theorem dX11_writeLines_107 : decode cX11_writeLines 107 = .ok (.iload_n 2, 1) := by decide +kernel
theorem dX11_writeLines_108 : decode cX11_writeLines 108 = .ok (.iaload, 1) := by decide +kernel
theorem dX11_writeLines_109 : decode cX11_writeLines 109 = .ok (.iload_n 3, 1) := by decide +kernel
theorem dX11_writeLines_110 : decode cX11_writeLines 110 = .ok (.isub, 1) := by decide +kernel
theorem dX11_writeLines_111 : decode cX11_writeLines 111 = .ok (.bipush 15, 2) := by decide +kernel
theorem dX11_writeLines_113 : decode cX11_writeLines 113 = .ok (.if_icmp .ge 14, 3) := by decide +kernel
theorem dX11_writeLines_116 : decode cX11_writeLines 116 = .ok (.aload_n 0, 1) := by decide +kernel
theorem dX11_writeLines_117 : decode cX11_writeLines 117 = .ok (.getfield 19, 3) := by decide +kernel
theorem dX11_writeLines_120 : decode cX11_writeLines 120 = .ok (.iload_n 2, 1) := by decide +kernel
theorem dX11_writeLines_121 : decode cX11_writeLines 121 = .ok (.iaload, 1) := by decide +kernel
theorem dX11_writeLines_122 : decode cX11_writeLines 122 = .ok (.iload_n 3, 1) := by decide +kernel
theorem dX11_writeLines_123 : decode cX11_writeLines 123 = .ok (.isub, 1) := by decide +kernel
theorem dX11_writeLines_124 : decode cX11_writeLines 124 = .ok (.goto 5, 3) := by decide +kernel
theorem dX11_writeLines_127 : decode cX11_writeLines 127 = .ok (.bipush 15, 2) := by decide +kernel
theorem dX11_writeLines_129 : decode cX11_writeLines 129 = .ok (.istore 4, 2) := by decide +kernel
theorem dX11_writeLines_131 : decode cX11_writeLines 131 = .ok (.aload_n 0, 1) := by decide +kernel
theorem dX11_writeLines_132 : decode cX11_writeLines 132 = .ok (.iload 4, 2) := by decide +kernel
theorem dX11_writeLines_134 : decode cX11_writeLines 134 = .ok (.invokestatic 102, 3) := by decide +kernel
theorem dX11_writeLines_137 : decode cX11_writeLines 137 = .ok (.invokevirtual 80, 3) := by decide +kernel
theorem dX11_writeLines_140 : decode cX11_writeLines 140 = .ok (.iconst 0, 1) := by decide +kernel
theorem dX11_writeLines_141 : decode cX11_writeLines 141 = .ok (.istore 5, 2) := by decide +kernel
theorem dX11_writeLines_143 : decode cX11_writeLines 143 = .ok (.iload 5, 2) := by decide +kernel
theorem dX11_writeLines_145 : decode cX11_writeLines 145 = .ok (.iload 4, 2) := by decide +kernel
theorem dX11_writeLines_147 : decode cX11_writeLines 147 = .ok (.if_icmp .ge 124, 3) := by decide +kernel
theorem dX11_writeLines_150 : decode cX11_writeLines 150 = .ok (.iconst 0, 1) := by decide +kernel
theorem dX11_writeLines_151 : decode cX11_writeLines 151 = .ok (.istore 6, 2) := by decide +kernel
theorem dX11_writeLines_153 : decode cX11_writeLines 153 = .ok (.iconst 0, 1) := by decide +kernel
theorem dX11_writeLines_154 : decode cX11_writeLines 154 = .ok (.istore 7, 2) := by decide +kernel
theorem dX11_writeLines_156 : decode cX11_writeLines 156 = .ok (.iload 7, 2) := by decide +kernel
theorem dX11_writeLines_158 : decode cX11_writeLines 158 = .ok (.iconst 3, 1) := by decide +kernel
theorem dX11_writeLines_159 : decode cX11_writeLines 159 = .ok (.if_icmp .ge 49, 3) := by decide +kernel
theorem dX11_writeLines_162 : decode cX11_writeLines 162 = .ok (.sipush 256, 3) := by decide +kernel
theorem dX11_writeLines_165 : decode cX11_writeLines 165 = .ok (.iload 6, 2) := by decide +kernel
theorem dX11_writeLines_167 : decode cX11_writeLines 167 = .ok (.imul, 1) := by decide +kernel
theorem dX11_writeLines_168 : decode cX11_writeLines 168 = .ok (.iload 5, 2) := by decide +kernel
theorem dX11_writeLines_170 : decode cX11_writeLines 170 = .ok (.iload 7, 2) := by decide +kernel
theorem dX11_writeLines_172 : decode cX11_writeLines 172 = .ok (.iadd, 1) := by decide +kernel
theorem dX11_writeLines_173 : decode cX11_writeLines 173 = .ok (.iload 4, 2) := by decide +kernel
theorem dX11_writeLines_175 : decode cX11_writeLines 175 = .ok (.if_icmp .ge 23, 3) := by decide +kernel
theorem dX11_writeLines_178 : decode cX11_writeLines 178 = .ok (.aload_n 0, 1) := by decide +kernel
theorem dX11_writeLines_179 : decode cX11_writeLines 179 = .ok (.getfield 22, 3) := by decide +kernel
theorem dX11_writeLines_182 : decode cX11_writeLines 182 = .ok (.bipush 60, 2) := by decide +kernel
theorem dX11_writeLines_184 : decode cX11_writeLines 184 = .ok (.iload_n 2, 1) := by decide +kernel
theorem dX11_writeLines_185 : decode cX11_writeLines 185 = .ok (.imul, 1) := by decide +kernel
theorem dX11_writeLines_186 : decode cX11_writeLines 186 = .ok (.iload_n 3, 1) := by decide +kernel
theorem dX11_writeLines_187 : decode cX11_writeLines 187 = .ok (.iadd, 1) := by decide +kernel
theorem dX11_writeLines_188 : decode cX11_writeLines 188 = .ok (.iload 5, 2) := by decide +kernel
theorem dX11_writeLines_190 : decode cX11_writeLines 190 = .ok (.iadd, 1) := by decide +kernel
theorem dX11_writeLines_191 : decode cX11_writeLines 191 = .ok (.iload 7, 2) := by decide +kernel
theorem dX11_writeLines_193 : decode cX11_writeLines 193 = .ok (.iadd, 1) := by decide +kernel
theorem dX11_writeLines_194 : decode cX11_writeLines 194 = .ok (.iaload, 1) := by decide +kernel
theorem dX11_writeLines_195 : decode cX11_writeLines 195 = .ok (.goto 4, 3) := by decide +kernel
theorem dX11_writeLines_198 : decode cX11_writeLines 198 = .ok (.iconst 0, 1) := by decide +kernel
theorem dX11_writeLines_199 : decode cX11_writeLines 199 = .ok (.iadd, 1) := by decide +kernel
theorem dX11_writeLines_200 : decode cX11_writeLines 200 = .ok (.istore 6, 2) := by decide +kernel
theorem dX11_writeLines_202 : decode cX11_writeLines 202 = .ok (.iinc 7 1, 3) := by decide +kernel
theorem dX11_writeLines_205 : decode cX11_writeLines 205 = .ok (.goto (-49), 3) := by decide +kernel
theorem dX11_writeLines_208 : decode cX11_writeLines 208 = .ok (.aload_n 0, 1) := by decide +kernel
theorem dX11_writeLines_209 : decode cX11_writeLines 209 = .ok (.iload 6, 2) := by decide +kernel
theorem dX11_writeLines_211 : decode cX11_writeLines 211 = .ok (.bipush 18, 2) := by decide +kernel
theorem dX11_writeLines_213 : decode cX11_writeLines 213 = .ok (.ishr, 1) := by decide +kernel
theorem dX11_writeLines_214 : decode cX11_writeLines 214 = .ok (.bipush 63, 2) := by decide +kernel
theorem dX11_writeLines_216 : decode cX11_writeLines 216 = .ok (.iand, 1) := by decide +kernel
theorem dX11_writeLines_217 : decode cX11_writeLines 217 = .ok (.invokestatic 102, 3) := by decide +kernel
theorem dX11_writeLines_220 : decode cX11_writeLines 220 = .ok (.invokevirtual 80, 3) := by decide +kernel
theorem dX11_writeLines_223 : decode cX11_writeLines 223 = .ok (.aload_n 0, 1) := by decide +kernel
theorem dX11_writeLines_224 : decode cX11_writeLines 224 = .ok (.iload 6, 2) := by decide +kernel
theorem dX11_writeLines_226 : decode cX11_writeLines 226 = .ok (.bipush 12, 2) := by decide +kernel
theorem dX11_writeLines_228 : decode cX11_writeLines 228 = .ok (.ishr, 1) := by decide +kernel
theorem dX11_writeLines_229 : decode cX11_writeLines 229 = .ok (.bipush 63, 2) := by decide +kernel
theorem dX11_writeLines_231 : decode cX11_writeLines 231 = .ok (.iand, 1) := by decide +kernel
theorem dX11_writeLines_232 : decode cX11_writeLines 232 = .ok (.invokestatic 102, 3) := by decide +kernel
theorem dX11_writeLines_235 : decode cX11_writeLines 235 = .ok (.invokevirtual 80, 3) := by decide +kernel
theorem dX11_writeLines_238 : decode cX11_writeLines 238 = .ok (.aload_n 0, 1) := by decide +kernel
theorem dX11_writeLines_239 : decode cX11_writeLines 239 = .ok (.iload 6, 2) := by decide +kernel
theorem dX11_writeLines_241 : decode cX11_writeLines 241 = .ok (.bipush 6, 2) := by decide +kernel
theorem dX11_writeLines_243 : decode cX11_writeLines 243 = .ok (.ishr, 1) := by decide +kernel
theorem dX11_writeLines_244 : decode cX11_writeLines 244 = .ok (.bipush 63, 2) := by decide +kernel
theorem dX11_writeLines_246 : decode cX11_writeLines 246 = .ok (.iand, 1) := by decide +kernel
theorem dX11_writeLines_247 : decode cX11_writeLines 247 = .ok (.invokestatic 102, 3) := by decide +kernel
theorem dX11_writeLines_250 : decode cX11_writeLines 250 = .ok (.invokevirtual 80, 3) := by decide +kernel
theorem dX11_writeLines_253 : decode cX11_writeLines 253 = .ok (.aload_n 0, 1) := by decide +kernel
theorem dX11_writeLines_254 : decode cX11_writeLines 254 = .ok (.iload 6, 2) := by decide +kernel
theorem dX11_writeLines_256 : decode cX11_writeLines 256 = .ok (.bipush 63, 2) := by decide +kernel
theorem dX11_writeLines_258 : decode cX11_writeLines 258 = .ok (.iand, 1) := by decide +kernel
theorem dX11_writeLines_259 : decode cX11_writeLines 259 = .ok (.invokestatic 102, 3) := by decide +kernel
theorem dX11_writeLines_262 : decode cX11_writeLines 262 = .ok (.invokevirtual 80, 3) := by decide +kernel
theorem dX11_writeLines_265 : decode cX11_writeLines 265 = .ok (.iinc 5 3, 3) := by decide +kernel
theorem dX11_writeLines_268 : decode cX11_writeLines 268 = .ok (.goto (-125), 3) := by decide +kernel
theorem dX11_writeLines_271 : decode cX11_writeLines 271 = .ok (.aload_n 0, 1) := by decide +kernel
theorem dX11_writeLines_272 : decode cX11_writeLines 272 = .ok (.bipush 10, 2) := by decide +kernel
theorem dX11_writeLines_274 : decode cX11_writeLines 274 = .ok (.invokevirtual 80, 3) := by decide +kernel
theorem dX11_writeLines_277 : decode cX11_writeLines 277 = .ok (.iinc 3 15, 3) := by decide +kernel
theorem dX11_writeLines_280 : decode cX11_writeLines 280 = .ok (.goto (-187), 3) := by decide +kernel
theorem dX11_writeLines_283 : decode cX11_writeLines 283 = .ok (.aload_n 0, 1) := by decide +kernel
theorem dX11_writeLines_284 : decode cX11_writeLines 284 = .ok (.bipush 96, 2) := by decide +kernel
theorem dX11_writeLines_286 : decode cX11_writeLines 286 = .ok (.invokevirtual 80, 3) := by decide +kernel
theorem dX11_writeLines_289 : decode cX11_writeLines 289 = .ok (.aload_n 0, 1) := by decide +kernel
theorem dX11_writeLines_290 : decode cX11_writeLines 290 = .ok (.bipush 10, 2) := by decide +kernel
theorem dX11_writeLines_292 : decode cX11_writeLines 292 = .ok (.invokevirtual 80, 3) := by decide +kernel
theorem dX11_writeLines_295 : decode cX11_writeLines 295 = .ok (.aload_n 0, 1) := by decide +kernel
theorem dX11_writeLines_296 : decode cX11_writeLines 296 = .ok (.bipush 101, 2) := by decide +kernel
theorem dX11_writeLines_298 : decode cX11_writeLines 298 = .ok (.invokevirtual 80, 3) := by decide +kernel
theorem dX11_writeLines_301 : decode cX11_writeLines 301 = .ok (.aload_n 0, 1) := by decide +kernel
theorem dX11_writeLines_302 : decode cX11_writeLines 302 = .ok (.bipush 110, 2) := by decide +kernel
theorem dX11_writeLines_304 : decode cX11_writeLines 304 = .ok (.invokevirtual 80, 3) := by decide +kernel
theorem dX11_writeLines_307 : decode cX11_writeLines 307 = .ok (.aload_n 0, 1) := by decide +kernel
theorem dX11_writeLines_308 : decode cX11_writeLines 308 = .ok (.bipush 100, 2) := by decide +kernel
theorem dX11_writeLines_310 : decode cX11_writeLines 310 = .ok (.invokevirtual 80, 3) := by decide +kernel
theorem dX11_writeLines_313 : decode cX11_writeLines 313 = .ok (.aload_n 0, 1) := by decide +kernel
theorem dX11_writeLines_314 : decode cX11_writeLines 314 = .ok (.bipush 10, 2) := by decide +kernel
theorem dX11_writeLines_316 : decode cX11_writeLines 316 = .ok (.invokevirtual 80, 3) := by decide +kernel
theorem dX11_writeLines_319 : decode cX11_writeLines 319 = .ok (.iinc 1 1, 3) := by decide +kernel
theorem dX11_writeLines_322 : decode cX11_writeLines 322 = .ok (.goto (-320), 3) := by decide +kernel
theorem dX11_writeLines_325 : decode cX11_writeLines 325 = .ok (.return_, 1) := by decide +kernel
theorem dX11_write_0 : decode cX11_write 0 = .ok (.iload_n 1, 1) := by decide +kernel
theorem dX11_write_1 : decode cX11_write 1 = .ok (.iconst 0, 1) := by decide +kernel
theorem dX11_write_2 : decode cX11_write 2 = .ok (.iconst 2, 1) := by decide +kernel
theorem dX11_write_3 : decode cX11_write 3 = .ok (.invokestatic 62, 3) := by decide +kernel
theorem dX11_write_6 : decode cX11_write 6 = .ok (.ifCond .ne 6, 3) := by decide +kernel
theorem dX11_write_9 : decode cX11_write 9 = .ok (.bipush (-2), 2) := by decide +kernel
theorem dX11_write_11 : decode cX11_write 11 = .ok (.ireturn, 1) := by decide +kernel
theorem dX11_write_12 : decode cX11_write 12 = .ok (.aload_n 0, 1) := by decide +kernel
theorem dX11_write_13 : decode cX11_write 13 = .ok (.getfield 70, 3) := by decide +kernel
theorem dX11_write_16 : decode cX11_write 16 = .ok (.ifCond .le 21, 3) := by decide +kernel
theorem dX11_write_19 : decode cX11_write 19 = .ok (.aload_n 0, 1) := by decide +kernel
theorem dX11_write_20 : decode cX11_write 20 = .ok (.getfield 7, 3) := by decide +kernel
theorem dX11_write_23 : decode cX11_write 23 = .ok (.aload_n 0, 1) := by decide +kernel
theorem dX11_write_24 : decode cX11_write 24 = .ok (.getfield 70, 3) := by decide +kernel
theorem dX11_write_27 : decode cX11_write 27 = .ok (.iconst 1, 1) := by decide +kernel
theorem dX11_write_28 : decode cX11_write 28 = .ok (.isub, 1) := by decide +kernel
theorem dX11_write_29 : decode cX11_write 29 = .ok (.iaload, 1) := by decide +kernel
theorem dX11_write_30 : decode cX11_write 30 = .ok (.ifCond .ne 7, 3) := by decide +kernel
theorem dX11_write_33 : decode cX11_write 33 = .ok (.iconst 1, 1) := by decide +kernel
theorem dX11_write_34 : decode cX11_write 34 = .ok (.goto 4, 3) := by decide +kernel
theorem dX11_write_37 : decode cX11_write 37 = .ok (.iconst 0, 1) := by decide +kernel
theorem dX11_write_38 : decode cX11_write 38 = .ok (.istore_n 2, 1) := by decide +kernel
theorem dX11_write_39 : decode cX11_write 39 = .ok (.iconst 0, 1) := by decide +kernel
theorem dX11_write_40 : decode cX11_write 40 = .ok (.istore_n 3, 1) := by decide +kernel
theorem dX11_write_41 : decode cX11_write 41 = .ok (.iload_n 3, 1) := by decide +kernel
theorem dX11_write_42 : decode cX11_write 42 = .ok (.aload_n 0, 1) := by decide +kernel
theorem dX11_write_43 : decode cX11_write 43 = .ok (.getfield 70, 3) := by decide +kernel
theorem dX11_write_46 : decode cX11_write 46 = .ok (.if_icmp .ge 39, 3) := by decide +kernel
theorem dX11_write_49 : decode cX11_write 49 = .ok (.iload_n 2, 1) := by decide +kernel
theorem dX11_write_50 : decode cX11_write 50 = .ok (.ifCond .ne 23, 3) := by decide +kernel
theorem dX11_write_53 : decode cX11_write 53 = .ok (.aload_n 0, 1) := by decide +kernel
theorem dX11_write_54 : decode cX11_write 54 = .ok (.getfield 13, 3) := by decide +kernel
theorem dX11_write_57 : decode cX11_write 57 = .ok (.bipush 20, 2) := by decide +kernel
theorem dX11_write_59 : decode cX11_write 59 = .ok (.iload_n 3, 1) := by decide +kernel
theorem dX11_write_60 : decode cX11_write 60 = .ok (.imul, 1) := by decide +kernel
theorem dX11_write_61 : decode cX11_write 61 = .ok (.aload_n 0, 1) := by decide +kernel
theorem dX11_write_62 : decode cX11_write 62 = .ok (.getfield 7, 3) := by decide +kernel
theorem dX11_write_65 : decode cX11_write 65 = .ok (.iload_n 3, 1) := by decide +kernel
theorem dX11_write_66 : decode cX11_write 66 = .ok (.iaload, 1) := by decide +kernel
theorem dX11_write_67 : decode cX11_write 67 = .ok (.invokestatic 105, 3) := by decide +kernel
theorem dX11_write_70 : decode cX11_write 70 = .ok (.ifCond .eq 7, 3) := by decide +kernel
theorem dX11_write_73 : decode cX11_write 73 = .ok (.iconst 1, 1) := by decide +kernel
theorem dX11_write_74 : decode cX11_write 74 = .ok (.goto 4, 3) := by decide +kernel
theorem dX11_write_77 : decode cX11_write 77 = .ok (.iconst 0, 1) := by decide +kernel
theorem dX11_write_78 : decode cX11_write 78 = .ok (.istore_n 2, 1) := by decide +kernel
theorem dX11_write_79 : decode cX11_write 79 = .ok (.iinc 3 1, 3) := by decide +kernel
theorem dX11_write_82 : decode cX11_write 82 = .ok (.goto (-41), 3) := by decide +kernel
theorem dX11_write_85 : decode cX11_write 85 = .ok (.iload_n 2, 1) := by decide +kernel
theorem dX11_write_86 : decode cX11_write 86 = .ok (.ifCond .eq 6, 3) := by decide +kernel
theorem dX11_write_89 : decode cX11_write 89 = .ok (.bipush (-3), 2) := by decide +kernel
theorem dX11_write_91 : decode cX11_write 91 = .ok (.ireturn, 1) := by decide +kernel
theorem dX11_write_92 : decode cX11_write 92 = .ok (.aload_n 0, 1) := by decide +kernel
theorem dX11_write_93 : decode cX11_write 93 = .ok (.iconst 0, 1) := by decide +kernel
theorem dX11_write_94 : decode cX11_write 94 = .ok (.putfield 77, 3) := by decide +kernel
theorem dX11_write_97 : decode cX11_write 97 = .ok (.iload_n 1, 1) := by decide +kernel
theorem dX11_write_98 : decode cX11_write 98 = .ok (.ifCond .ne 10, 3) := by decide +kernel
theorem dX11_write_101 : decode cX11_write 101 = .ok (.aload_n 0, 1) := by decide +kernel
theorem dX11_write_102 : decode cX11_write 102 = .ok (.invokevirtual 109, 3) := by decide +kernel
theorem dX11_write_105 : decode cX11_write 105 = .ok (.goto 19, 3) := by decide +kernel
theorem dX11_write_108 : decode cX11_write 108 = .ok (.iload_n 1, 1) := by decide +kernel
theorem dX11_write_109 : decode cX11_write 109 = .ok (.iconst 1, 1) := by decide +kernel
theorem dX11_write_110 : decode cX11_write 110 = .ok (.if_icmp .ne 10, 3) := by decide +kernel
theorem dX11_write_113 : decode cX11_write 113 = .ok (.aload_n 0, 1) := by decide +kernel
theorem dX11_write_114 : decode cX11_write 114 = .ok (.invokevirtual 112, 3) := by decide +kernel
theorem dX11_write_117 : decode cX11_write 117 = .ok (.goto 7, 3) := by decide +kernel
theorem dX11_write_120 : decode cX11_write 120 = .ok (.aload_n 0, 1) := by decide +kernel
theorem dX11_write_121 : decode cX11_write 121 = .ok (.invokevirtual 115, 3) := by decide +kernel
theorem dX11_write_124 : decode cX11_write 124 = .ok (.aload_n 0, 1) := by decide +kernel
theorem dX11_write_125 : decode cX11_write 125 = .ok (.getfield 77, 3) := by decide +kernel
theorem dX11_write_128 : decode cX11_write 128 = .ok (.sipush 1500, 3) := by decide +kernel
theorem dX11_write_131 : decode cX11_write 131 = .ok (.if_icmp .le 6, 3) := by decide +kernel
theorem dX11_write_134 : decode cX11_write 134 = .ok (.bipush (-4), 2) := by decide +kernel
theorem dX11_write_136 : decode cX11_write 136 = .ok (.ireturn, 1) := by decide +kernel
theorem dX11_write_137 : decode cX11_write 137 = .ok (.iconst 0, 1) := by decide +kernel
theorem dX11_write_138 : decode cX11_write 138 = .ok (.istore_n 3, 1) := by decide +kernel
theorem dX11_write_139 : decode cX11_write 139 = .ok (.iload_n 3, 1) := by decide +kernel
theorem dX11_write_140 : decode cX11_write 140 = .ok (.aload_n 0, 1) := by decide +kernel
theorem dX11_write_141 : decode cX11_write 141 = .ok (.getfield 77, 3) := by decide +kernel
theorem dX11_write_144 : decode cX11_write 144 = .ok (.if_icmp .ge 21, 3) := by decide +kernel
theorem dX11_write_147 : decode cX11_write 147 = .ok (.aload_n 0, 1) := by decide +kernel
theorem dX11_write_148 : decode cX11_write 148 = .ok (.getfield 25, 3) := by decide +kernel
theorem dX11_write_151 : decode cX11_write 151 = .ok (.iload_n 3, 1) := by decide +kernel
theorem dX11_write_152 : decode cX11_write 152 = .ok (.aload_n 0, 1) := by decide +kernel
theorem dX11_write_153 : decode cX11_write 153 = .ok (.getfield 28, 3) := by decide +kernel
theorem dX11_write_156 : decode cX11_write 156 = .ok (.iload_n 3, 1) := by decide +kernel
theorem dX11_write_157 : decode cX11_write 157 = .ok (.iaload, 1) := by decide +kernel
theorem dX11_write_158 : decode cX11_write 158 = .ok (.iastore, 1) := by decide +kernel
theorem dX11_write_159 : decode cX11_write 159 = .ok (.iinc 3 1, 3) := by decide +kernel
theorem dX11_write_162 : decode cX11_write 162 = .ok (.goto (-23), 3) := by decide +kernel
theorem dX11_write_165 : decode cX11_write 165 = .ok (.aload_n 0, 1) := by decide +kernel
theorem dX11_write_166 : decode cX11_write 166 = .ok (.aload_n 0, 1) := by decide +kernel
theorem dX11_write_167 : decode cX11_write 167 = .ok (.getfield 77, 3) := by decide +kernel
theorem dX11_write_170 : decode cX11_write 170 = .ok (.putfield 118, 3) := by decide +kernel
theorem dX11_write_173 : decode cX11_write 173 = .ok (.aload_n 0, 1) := by decide +kernel
theorem dX11_write_174 : decode cX11_write 174 = .ok (.getfield 118, 3) := by decide +kernel
theorem dX11_write_177 : decode cX11_write 177 = .ok (.ireturn, 1) := by decide +kernel
theorem dX11_put_0 : decode cX11_put 0 = .ok (.iload_n 1, 1) := by decide +kernel
theorem dX11_put_1 : decode cX11_put 1 = .ok (.iconst 0, 1) := by decide +kernel
theorem dX11_put_2 : decode cX11_put 2 = .ok (.sipush 255, 3) := by decide +kernel
theorem dX11_put_5 : decode cX11_put 5 = .ok (.invokestatic 62, 3) := by decide +kernel
theorem dX11_put_8 : decode cX11_put 8 = .ok (.ifCond .ne 6, 3) := by decide +kernel
theorem dX11_put_11 : decode cX11_put 11 = .ok (.bipush (-2), 2) := by decide +kernel
theorem dX11_put_13 : decode cX11_put 13 = .ok (.ireturn, 1) := by decide +kernel
theorem dX11_put_14 : decode cX11_put 14 = .ok (.aload_n 0, 1) := by decide +kernel
theorem dX11_put_15 : decode cX11_put 15 = .ok (.getfield 118, 3) := by decide +kernel
theorem dX11_put_18 : decode cX11_put 18 = .ok (.sipush 1500, 3) := by decide +kernel
theorem dX11_put_21 : decode cX11_put 21 = .ok (.if_icmp .ne 6, 3) := by decide +kernel
theorem dX11_put_24 : decode cX11_put 24 = .ok (.bipush (-4), 2) := by decide +kernel
theorem dX11_put_26 : decode cX11_put 26 = .ok (.ireturn, 1) := by decide +kernel
theorem dX11_put_27 : decode cX11_put 27 = .ok (.aload_n 0, 1) := by decide +kernel
theorem dX11_put_28 : decode cX11_put 28 = .ok (.getfield 25, 3) := by decide +kernel
theorem dX11_put_31 : decode cX11_put 31 = .ok (.aload_n 0, 1) := by decide +kernel
theorem dX11_put_32 : decode cX11_put 32 = .ok (.getfield 118, 3) := by decide +kernel
theorem dX11_put_35 : decode cX11_put 35 = .ok (.iload_n 1, 1) := by decide +kernel
theorem dX11_put_36 : decode cX11_put 36 = .ok (.iastore, 1) := by decide +kernel
theorem dX11_put_37 : decode cX11_put 37 = .ok (.aload_n 0, 1) := by decide +kernel
theorem dX11_put_38 : decode cX11_put 38 = .ok (.dup, 1) := by decide +kernel
theorem dX11_put_39 : decode cX11_put 39 = .ok (.getfield 118, 3) := by decide +kernel
theorem dX11_put_42 : decode cX11_put 42 = .ok (.iconst 1, 1) := by decide +kernel
theorem dX11_put_43 : decode cX11_put 43 = .ok (.iadd, 1) := by decide +kernel
theorem dX11_put_44 : decode cX11_put 44 = .ok (.putfield 118, 3) := by decide +kernel
theorem dX11_put_47 : decode cX11_put 47 = .ok (.aload_n 0, 1) := by decide +kernel
theorem dX11_put_48 : decode cX11_put 48 = .ok (.getfield 118, 3) := by decide +kernel
theorem dX11_put_51 : decode cX11_put 51 = .ok (.ireturn, 1) := by decide +kernel
theorem dX11_row_0 : decode cX11_row 0 = .ok (.iload_n 1, 1) := by decide +kernel
theorem dX11_row_1 : decode cX11_row 1 = .ok (.iconst (-1), 1) := by decide +kernel
theorem dX11_row_2 : decode cX11_row 2 = .ok (.if_icmp .ne 10, 3) := by decide +kernel
theorem dX11_row_5 : decode cX11_row 5 = .ok (.aload_n 0, 1) := by decide +kernel
theorem dX11_row_6 : decode cX11_row 6 = .ok (.getfield 118, 3) := by decide +kernel
theorem dX11_row_9 : decode cX11_row 9 = .ok (.goto 28, 3) := by decide +kernel
theorem dX11_row_12 : decode cX11_row 12 = .ok (.iload_n 1, 1) := by decide +kernel
theorem dX11_row_13 : decode cX11_row 13 = .ok (.iconst 0, 1) := by decide +kernel
theorem dX11_row_14 : decode cX11_row 14 = .ok (.aload_n 0, 1) := by decide +kernel
theorem dX11_row_15 : decode cX11_row 15 = .ok (.getfield 118, 3) := by decide +kernel
theorem dX11_row_18 : decode cX11_row 18 = .ok (.iconst 1, 1) := by decide +kernel
theorem dX11_row_19 : decode cX11_row 19 = .ok (.isub, 1) := by decide +kernel
theorem dX11_row_20 : decode cX11_row 20 = .ok (.invokestatic 62, 3) := by decide +kernel
theorem dX11_row_23 : decode cX11_row 23 = .ok (.ifCond .eq 12, 3) := by decide +kernel
theorem dX11_row_26 : decode cX11_row 26 = .ok (.aload_n 0, 1) := by decide +kernel
theorem dX11_row_27 : decode cX11_row 27 = .ok (.getfield 25, 3) := by decide +kernel
theorem dX11_row_30 : decode cX11_row 30 = .ok (.iload_n 1, 1) := by decide +kernel
theorem dX11_row_31 : decode cX11_row 31 = .ok (.iaload, 1) := by decide +kernel
theorem dX11_row_32 : decode cX11_row 32 = .ok (.goto 5, 3) := by decide +kernel
theorem dX11_row_35 : decode cX11_row 35 = .ok (.bipush (-2), 2) := by decide +kernel
theorem dX11_row_37 : decode cX11_row 37 = .ok (.ireturn, 1) := by decide +kernel
theorem dX11_poke_0 : decode cX11_poke 0 = .ok (.iload_n 1, 1) := by decide +kernel
theorem dX11_poke_1 : decode cX11_poke 1 = .ok (.iconst 0, 1) := by decide +kernel
theorem dX11_poke_2 : decode cX11_poke 2 = .ok (.aload_n 0, 1) := by decide +kernel
theorem dX11_poke_3 : decode cX11_poke 3 = .ok (.getfield 118, 3) := by decide +kernel
theorem dX11_poke_6 : decode cX11_poke 6 = .ok (.iconst 1, 1) := by decide +kernel
theorem dX11_poke_7 : decode cX11_poke 7 = .ok (.isub, 1) := by decide +kernel
theorem dX11_poke_8 : decode cX11_poke 8 = .ok (.invokestatic 62, 3) := by decide +kernel
theorem dX11_poke_11 : decode cX11_poke 11 = .ok (.ifCond .eq 14, 3) := by decide +kernel
theorem dX11_poke_14 : decode cX11_poke 14 = .ok (.iload_n 2, 1) := by decide +kernel
theorem dX11_poke_15 : decode cX11_poke 15 = .ok (.iconst 0, 1) := by decide +kernel
theorem dX11_poke_16 : decode cX11_poke 16 = .ok (.sipush 255, 3) := by decide +kernel
theorem dX11_poke_19 : decode cX11_poke 19 = .ok (.invokestatic 62, 3) := by decide +kernel
theorem dX11_poke_22 : decode cX11_poke 22 = .ok (.ifCond .ne 6, 3) := by decide +kernel
theorem dX11_poke_25 : decode cX11_poke 25 = .ok (.bipush (-2), 2) := by decide +kernel
theorem dX11_poke_27 : decode cX11_poke 27 = .ok (.ireturn, 1) := by decide +kernel
theorem dX11_poke_28 : decode cX11_poke 28 = .ok (.aload_n 0, 1) := by decide +kernel
theorem dX11_poke_29 : decode cX11_poke 29 = .ok (.getfield 25, 3) := by decide +kernel
theorem dX11_poke_32 : decode cX11_poke 32 = .ok (.iload_n 1, 1) := by decide +kernel
theorem dX11_poke_33 : decode cX11_poke 33 = .ok (.iaload, 1) := by decide +kernel
theorem dX11_poke_34 : decode cX11_poke 34 = .ok (.istore_n 3, 1) := by decide +kernel
theorem dX11_poke_35 : decode cX11_poke 35 = .ok (.aload_n 0, 1) := by decide +kernel
theorem dX11_poke_36 : decode cX11_poke 36 = .ok (.getfield 25, 3) := by decide +kernel
theorem dX11_poke_39 : decode cX11_poke 39 = .ok (.iload_n 1, 1) := by decide +kernel
theorem dX11_poke_40 : decode cX11_poke 40 = .ok (.iload_n 2, 1) := by decide +kernel
theorem dX11_poke_41 : decode cX11_poke 41 = .ok (.iastore, 1) := by decide +kernel
theorem dX11_poke_42 : decode cX11_poke 42 = .ok (.iload_n 3, 1) := by decide +kernel
theorem dX11_poke_43 : decode cX11_poke 43 = .ok (.ireturn, 1) := by decide +kernel
theorem dX11_cut_0 : decode cX11_cut 0 = .ok (.iload_n 1, 1) := by decide +kernel
theorem dX11_cut_1 : decode cX11_cut 1 = .ok (.iconst 0, 1) := by decide +kernel
theorem dX11_cut_2 : decode cX11_cut 2 = .ok (.aload_n 0, 1) := by decide +kernel
theorem dX11_cut_3 : decode cX11_cut 3 = .ok (.getfield 118, 3) := by decide +kernel
theorem dX11_cut_6 : decode cX11_cut 6 = .ok (.invokestatic 62, 3) := by decide +kernel
theorem dX11_cut_9 : decode cX11_cut 9 = .ok (.ifCond .ne 6, 3) := by decide +kernel
theorem dX11_cut_12 : decode cX11_cut 12 = .ok (.bipush (-2), 2) := by decide +kernel
theorem dX11_cut_14 : decode cX11_cut 14 = .ok (.ireturn, 1) := by decide +kernel
theorem dX11_cut_15 : decode cX11_cut 15 = .ok (.aload_n 0, 1) := by decide +kernel
theorem dX11_cut_16 : decode cX11_cut 16 = .ok (.getfield 118, 3) := by decide +kernel
theorem dX11_cut_19 : decode cX11_cut 19 = .ok (.iload_n 1, 1) := by decide +kernel
theorem dX11_cut_20 : decode cX11_cut 20 = .ok (.isub, 1) := by decide +kernel
theorem dX11_cut_21 : decode cX11_cut 21 = .ok (.istore_n 2, 1) := by decide +kernel
theorem dX11_cut_22 : decode cX11_cut 22 = .ok (.aload_n 0, 1) := by decide +kernel
theorem dX11_cut_23 : decode cX11_cut 23 = .ok (.iload_n 1, 1) := by decide +kernel
theorem dX11_cut_24 : decode cX11_cut 24 = .ok (.putfield 118, 3) := by decide +kernel
theorem dX11_cut_27 : decode cX11_cut 27 = .ok (.iload_n 2, 1) := by decide +kernel
theorem dX11_cut_28 : decode cX11_cut 28 = .ok (.ireturn, 1) := by decide +kernel
theorem dX11_fail_0 : decode cX11_fail 0 = .ok (.aload_n 0, 1) := by decide +kernel
theorem dX11_fail_1 : decode cX11_fail 1 = .ok (.getfield 121, 3) := by decide +kernel
theorem dX11_fail_4 : decode cX11_fail 4 = .ok (.ifCond .ne 13, 3) := by decide +kernel
theorem dX11_fail_7 : decode cX11_fail 7 = .ok (.aload_n 0, 1) := by decide +kernel
theorem dX11_fail_8 : decode cX11_fail 8 = .ok (.iload_n 1, 1) := by decide +kernel
theorem dX11_fail_9 : decode cX11_fail 9 = .ok (.putfield 121, 3) := by decide +kernel
theorem dX11_fail_12 : decode cX11_fail 12 = .ok (.aload_n 0, 1) := by decide +kernel
theorem dX11_fail_13 : decode cX11_fail 13 = .ok (.iload_n 2, 1) := by decide +kernel
theorem dX11_fail_14 : decode cX11_fail 14 = .ok (.putfield 55, 3) := by decide +kernel
theorem dX11_fail_17 : decode cX11_fail 17 = .ok (.return_, 1) := by decide +kernel
theorem dX11_here_0 : decode cX11_here 0 = .ok (.aload_n 0, 1) := by decide +kernel
theorem dX11_here_1 : decode cX11_here 1 = .ok (.getfield 121, 3) := by decide +kernel
theorem dX11_here_4 : decode cX11_here 4 = .ok (.ifCond .ne 23, 3) := by decide +kernel
theorem dX11_here_7 : decode cX11_here 7 = .ok (.aload_n 0, 1) := by decide +kernel
theorem dX11_here_8 : decode cX11_here 8 = .ok (.getfield 124, 3) := by decide +kernel
theorem dX11_here_11 : decode cX11_here 11 = .ok (.aload_n 0, 1) := by decide +kernel
theorem dX11_here_12 : decode cX11_here 12 = .ok (.getfield 118, 3) := by decide +kernel
theorem dX11_here_15 : decode cX11_here 15 = .ok (.if_icmp .lt 12, 3) := by decide +kernel
theorem dX11_here_18 : decode cX11_here 18 = .ok (.aload_n 0, 1) := by decide +kernel
theorem dX11_here_19 : decode cX11_here 19 = .ok (.iconst 2, 1) := by decide +kernel
theorem dX11_here_20 : decode cX11_here 20 = .ok (.aload_n 0, 1) := by decide +kernel
theorem dX11_here_21 : decode cX11_here 21 = .ok (.getfield 118, 3) := by decide +kernel
theorem dX11_here_24 : decode cX11_here 24 = .ok (.invokevirtual 127, 3) := by decide +kernel
theorem dX11_here_27 : decode cX11_here 27 = .ok (.aload_n 0, 1) := by decide +kernel
theorem dX11_here_28 : decode cX11_here 28 = .ok (.getfield 121, 3) := by decide +kernel
theorem dX11_here_31 : decode cX11_here 31 = .ok (.ifCond .ne 15, 3) := by decide +kernel
theorem dX11_here_34 : decode cX11_here 34 = .ok (.aload_n 0, 1) := by decide +kernel
theorem dX11_here_35 : decode cX11_here 35 = .ok (.getfield 25, 3) := by decide +kernel
theorem dX11_here_38 : decode cX11_here 38 = .ok (.aload_n 0, 1) := by decide +kernel
theorem dX11_here_39 : decode cX11_here 39 = .ok (.getfield 124, 3) := by decide +kernel
theorem dX11_here_42 : decode cX11_here 42 = .ok (.iaload, 1) := by decide +kernel
theorem dX11_here_43 : decode cX11_here 43 = .ok (.goto 4, 3) := by decide +kernel
theorem dX11_here_46 : decode cX11_here 46 = .ok (.iconst (-1), 1) := by decide +kernel
theorem dX11_here_47 : decode cX11_here 47 = .ok (.ireturn, 1) := by decide +kernel
theorem dX11_want_0 : decode cX11_want 0 = .ok (.aload_n 0, 1) := by decide +kernel
theorem dX11_want_1 : decode cX11_want 1 = .ok (.invokevirtual 130, 3) := by decide +kernel
theorem dX11_want_4 : decode cX11_want 4 = .ok (.istore_n 2, 1) := by decide +kernel
theorem dX11_want_5 : decode cX11_want 5 = .ok (.aload_n 0, 1) := by decide +kernel
theorem dX11_want_6 : decode cX11_want 6 = .ok (.getfield 121, 3) := by decide +kernel
theorem dX11_want_9 : decode cX11_want 9 = .ok (.ifCond .ne 17, 3) := by decide +kernel
theorem dX11_want_12 : decode cX11_want 12 = .ok (.iload_n 2, 1) := by decide +kernel
theorem dX11_want_13 : decode cX11_want 13 = .ok (.iload_n 1, 1) := by decide +kernel
theorem dX11_want_14 : decode cX11_want 14 = .ok (.if_icmp .eq 12, 3) := by decide +kernel
theorem dX11_want_17 : decode cX11_want 17 = .ok (.aload_n 0, 1) := by decide +kernel
theorem dX11_want_18 : decode cX11_want 18 = .ok (.iconst 4, 1) := by decide +kernel
theorem dX11_want_19 : decode cX11_want 19 = .ok (.aload_n 0, 1) := by decide +kernel
theorem dX11_want_20 : decode cX11_want 20 = .ok (.getfield 124, 3) := by decide +kernel
theorem dX11_want_23 : decode cX11_want 23 = .ok (.invokevirtual 127, 3) := by decide +kernel
theorem dX11_want_26 : decode cX11_want 26 = .ok (.aload_n 0, 1) := by decide +kernel
theorem dX11_want_27 : decode cX11_want 27 = .ok (.dup, 1) := by decide +kernel
theorem dX11_want_28 : decode cX11_want 28 = .ok (.getfield 124, 3) := by decide +kernel
theorem dX11_want_31 : decode cX11_want 31 = .ok (.iconst 1, 1) := by decide +kernel
theorem dX11_want_32 : decode cX11_want 32 = .ok (.iadd, 1) := by decide +kernel
theorem dX11_want_33 : decode cX11_want 33 = .ok (.putfield 124, 3) := by decide +kernel
theorem dX11_want_36 : decode cX11_want 36 = .ok (.return_, 1) := by decide +kernel
theorem dX11_take_0 : decode cX11_take 0 = .ok (.aload_n 0, 1) := by decide +kernel
theorem dX11_take_1 : decode cX11_take 1 = .ok (.invokevirtual 130, 3) := by decide +kernel
theorem dX11_take_4 : decode cX11_take 4 = .ok (.istore_n 1, 1) := by decide +kernel
theorem dX11_take_5 : decode cX11_take 5 = .ok (.aload_n 0, 1) := by decide +kernel
theorem dX11_take_6 : decode cX11_take 6 = .ok (.dup, 1) := by decide +kernel
theorem dX11_take_7 : decode cX11_take 7 = .ok (.getfield 124, 3) := by decide +kernel
theorem dX11_take_10 : decode cX11_take 10 = .ok (.iconst 1, 1) := by decide +kernel
theorem dX11_take_11 : decode cX11_take 11 = .ok (.iadd, 1) := by decide +kernel
theorem dX11_take_12 : decode cX11_take 12 = .ok (.putfield 124, 3) := by decide +kernel
theorem dX11_take_15 : decode cX11_take 15 = .ok (.iload_n 1, 1) := by decide +kernel
theorem dX11_take_16 : decode cX11_take 16 = .ok (.ireturn, 1) := by decide +kernel
theorem dX11_take2_0 : decode cX11_take2 0 = .ok (.aload_n 0, 1) := by decide +kernel
theorem dX11_take2_1 : decode cX11_take2 1 = .ok (.invokevirtual 134, 3) := by decide +kernel
theorem dX11_take2_4 : decode cX11_take2 4 = .ok (.istore_n 1, 1) := by decide +kernel
theorem dX11_take2_5 : decode cX11_take2 5 = .ok (.sipush 256, 3) := by decide +kernel
theorem dX11_take2_8 : decode cX11_take2 8 = .ok (.iload_n 1, 1) := by decide +kernel
theorem dX11_take2_9 : decode cX11_take2 9 = .ok (.imul, 1) := by decide +kernel
theorem dX11_take2_10 : decode cX11_take2 10 = .ok (.aload_n 0, 1) := by decide +kernel
theorem dX11_take2_11 : decode cX11_take2 11 = .ok (.invokevirtual 134, 3) := by decide +kernel
theorem dX11_take2_14 : decode cX11_take2 14 = .ok (.iadd, 1) := by decide +kernel
theorem dX11_take2_15 : decode cX11_take2 15 = .ok (.ireturn, 1) := by decide +kernel
theorem dX11_bytes_0 : decode cX11_bytes 0 = .ok (.iconst 0, 1) := by decide +kernel
theorem dX11_bytes_1 : decode cX11_bytes 1 = .ok (.istore_n 2, 1) := by decide +kernel
theorem dX11_bytes_2 : decode cX11_bytes 2 = .ok (.iload_n 2, 1) := by decide +kernel
theorem dX11_bytes_3 : decode cX11_bytes 3 = .ok (.iload_n 1, 1) := by decide +kernel
theorem dX11_bytes_4 : decode cX11_bytes 4 = .ok (.if_icmp .ge 34, 3) := by decide +kernel
theorem dX11_bytes_7 : decode cX11_bytes 7 = .ok (.aload_n 0, 1) := by decide +kernel
theorem dX11_bytes_8 : decode cX11_bytes 8 = .ok (.getfield 121, 3) := by decide +kernel
theorem dX11_bytes_11 : decode cX11_bytes 11 = .ok (.ifCond .ne 27, 3) := by decide +kernel
theorem dX11_bytes_14 : decode cX11_bytes 14 = .ok (.aload_n 0, 1) := by decide +kernel
theorem dX11_bytes_15 : decode cX11_bytes 15 = .ok (.getfield 40, 3) := by decide +kernel
theorem dX11_bytes_18 : decode cX11_bytes 18 = .ok (.bipush 60, 2) := by decide +kernel
theorem dX11_bytes_20 : decode cX11_bytes 20 = .ok (.aload_n 0, 1) := by decide +kernel
theorem dX11_bytes_21 : decode cX11_bytes 21 = .ok (.getfield 137, 3) := by decide +kernel
theorem dX11_bytes_24 : decode cX11_bytes 24 = .ok (.imul, 1) := by decide +kernel
theorem dX11_bytes_25 : decode cX11_bytes 25 = .ok (.iload_n 2, 1) := by decide +kernel
theorem dX11_bytes_26 : decode cX11_bytes 26 = .ok (.iadd, 1) := by decide +kernel
theorem dX11_bytes_27 : decode cX11_bytes 27 = .ok (.aload_n 0, 1) := by decide +kernel
theorem dX11_bytes_28 : decode cX11_bytes 28 = .ok (.invokevirtual 134, 3) := by decide +kernel
theorem dX11_bytes_31 : decode cX11_bytes 31 = .ok (.iastore, 1) := by decide +kernel
theorem dX11_bytes_32 : decode cX11_bytes 32 = .ok (.iinc 2 1, 3) := by decide +kernel
theorem dX11_bytes_35 : decode cX11_bytes 35 = .ok (.goto (-33), 3) := by decide +kernel
theorem dX11_bytes_38 : decode cX11_bytes 38 = .ok (.return_, 1) := by decide +kernel
theorem dX11_begin_0 : decode cX11_begin 0 = .ok (.aload_n 0, 1) := by decide +kernel
theorem dX11_begin_1 : decode cX11_begin 1 = .ok (.getfield 43, 3) := by decide +kernel
theorem dX11_begin_4 : decode cX11_begin 4 = .ok (.aload_n 0, 1) := by decide +kernel
theorem dX11_begin_5 : decode cX11_begin 5 = .ok (.getfield 137, 3) := by decide +kernel
theorem dX11_begin_8 : decode cX11_begin 8 = .ok (.aload_n 0, 1) := by decide +kernel
theorem dX11_begin_9 : decode cX11_begin 9 = .ok (.getfield 124, 3) := by decide +kernel
theorem dX11_begin_12 : decode cX11_begin 12 = .ok (.iastore, 1) := by decide +kernel
theorem dX11_begin_13 : decode cX11_begin 13 = .ok (.aload_n 0, 1) := by decide +kernel
theorem dX11_begin_14 : decode cX11_begin 14 = .ok (.getfield 31, 3) := by decide +kernel
theorem dX11_begin_17 : decode cX11_begin 17 = .ok (.aload_n 0, 1) := by decide +kernel
theorem dX11_begin_18 : decode cX11_begin 18 = .ok (.getfield 137, 3) := by decide +kernel
theorem dX11_begin_21 : decode cX11_begin 21 = .ok (.iconst 0, 1) := by decide +kernel
theorem dX11_begin_22 : decode cX11_begin 22 = .ok (.iastore, 1) := by decide +kernel
theorem dX11_begin_23 : decode cX11_begin 23 = .ok (.aload_n 0, 1) := by decide +kernel
theorem dX11_begin_24 : decode cX11_begin 24 = .ok (.getfield 46, 3) := by decide +kernel
theorem dX11_begin_27 : decode cX11_begin 27 = .ok (.aload_n 0, 1) := by decide +kernel
theorem dX11_begin_28 : decode cX11_begin 28 = .ok (.getfield 137, 3) := by decide +kernel
theorem dX11_begin_31 : decode cX11_begin 31 = .ok (.iconst 0, 1) := by decide +kernel
theorem dX11_begin_32 : decode cX11_begin 32 = .ok (.iastore, 1) := by decide +kernel
theorem dX11_begin_33 : decode cX11_begin 33 = .ok (.aload_n 0, 1) := by decide +kernel
theorem dX11_begin_34 : decode cX11_begin 34 = .ok (.getfield 49, 3) := by decide +kernel
theorem dX11_begin_37 : decode cX11_begin 37 = .ok (.aload_n 0, 1) := by decide +kernel
theorem dX11_begin_38 : decode cX11_begin 38 = .ok (.getfield 137, 3) := by decide +kernel
theorem dX11_begin_41 : decode cX11_begin 41 = .ok (.iconst 0, 1) := by decide +kernel
theorem dX11_begin_42 : decode cX11_begin 42 = .ok (.iastore, 1) := by decide +kernel
theorem dX11_begin_43 : decode cX11_begin 43 = .ok (.return_, 1) := by decide +kernel
theorem dX11_nameField_0 : decode cX11_nameField 0 = .ok (.iconst 0, 1) := by decide +kernel
theorem dX11_nameField_1 : decode cX11_nameField 1 = .ok (.istore_n 1, 1) := by decide +kernel
theorem dX11_nameField_2 : decode cX11_nameField 2 = .ok (.aload_n 0, 1) := by decide +kernel
theorem dX11_nameField_3 : decode cX11_nameField 3 = .ok (.iconst 0, 1) := by decide +kernel
theorem dX11_nameField_4 : decode cX11_nameField 4 = .ok (.putfield 140, 3) := by decide +kernel
theorem dX11_nameField_7 : decode cX11_nameField 7 = .ok (.aload_n 0, 1) := by decide +kernel
theorem dX11_nameField_8 : decode cX11_nameField 8 = .ok (.iconst 0, 1) := by decide +kernel
theorem dX11_nameField_9 : decode cX11_nameField 9 = .ok (.putfield 143, 3) := by decide +kernel
theorem dX11_nameField_12 : decode cX11_nameField 12 = .ok (.iconst 0, 1) := by decide +kernel
theorem dX11_nameField_13 : decode cX11_nameField 13 = .ok (.istore_n 2, 1) := by decide +kernel
theorem dX11_nameField_14 : decode cX11_nameField 14 = .ok (.iload_n 2, 1) := by decide +kernel
theorem dX11_nameField_15 : decode cX11_nameField 15 = .ok (.bipush 8, 2) := by decide +kernel
theorem dX11_nameField_17 : decode cX11_nameField 17 = .ok (.if_icmp .ge 361, 3) := by decide +kernel
theorem dX11_nameField_20 : decode cX11_nameField 20 = .ok (.aload_n 0, 1) := by decide +kernel
theorem dX11_nameField_21 : decode cX11_nameField 21 = .ok (.getfield 121, 3) := by decide +kernel
theorem dX11_nameField_24 : decode cX11_nameField 24 = .ok (.ifCond .ne 354, 3) := by decide +kernel
theorem dX11_nameField_27 : decode cX11_nameField 27 = .ok (.aload_n 0, 1) := by decide +kernel
theorem dX11_nameField_28 : decode cX11_nameField 28 = .ok (.invokevirtual 130, 3) := by decide +kernel
theorem dX11_nameField_31 : decode cX11_nameField 31 = .ok (.istore_n 3, 1) := by decide +kernel
theorem dX11_nameField_32 : decode cX11_nameField 32 = .ok (.aload_n 0, 1) := by decide +kernel
theorem dX11_nameField_33 : decode cX11_nameField 33 = .ok (.getfield 121, 3) := by decide +kernel
theorem dX11_nameField_36 : decode cX11_nameField 36 = .ok (.ifCond .ne 7, 3) := by decide +kernel
theorem dX11_nameField_39 : decode cX11_nameField 39 = .ok (.iconst 1, 1) := by decide +kernel
theorem dX11_nameField_40 : decode cX11_nameField 40 = .ok (.goto 4, 3) := by decide +kernel
theorem dX11_nameField_43 : decode cX11_nameField 43 = .ok (.iconst 0, 1) := by decide +kernel
theorem dX11_nameField_44 : decode cX11_nameField 44 = .ok (.istore 4, 2) := by decide +kernel
theorem dX11_nameField_46 : decode cX11_nameField 46 = .ok (.iload 4, 2) := by decide +kernel
theorem dX11_nameField_48 : decode cX11_nameField 48 = .ok (.ifCond .eq 42, 3) := by decide +kernel
theorem dX11_nameField_51 : decode cX11_nameField 51 = .ok (.iload_n 1, 1) := by decide +kernel
theorem dX11_nameField_52 : decode cX11_nameField 52 = .ok (.ifCond .ne 38, 3) := by decide +kernel
theorem dX11_nameField_55 : decode cX11_nameField 55 = .ok (.iload_n 3, 1) := by decide +kernel
theorem dX11_nameField_56 : decode cX11_nameField 56 = .ok (.bipush 47, 2) := by decide +kernel
theorem dX11_nameField_58 : decode cX11_nameField 58 = .ok (.if_icmp .eq 10, 3) := by decide +kernel
theorem dX11_nameField_61 : decode cX11_nameField 61 = .ok (.iload_n 3, 1) := by decide +kernel
theorem dX11_nameField_62 : decode cX11_nameField 62 = .ok (.invokestatic 73, 3) := by decide +kernel
theorem dX11_nameField_65 : decode cX11_nameField 65 = .ok (.ifCond .eq 7, 3) := by decide +kernel
theorem dX11_nameField_68 : decode cX11_nameField 68 = .ok (.iconst 1, 1) := by decide +kernel
theorem dX11_nameField_69 : decode cX11_nameField 69 = .ok (.goto 4, 3) := by decide +kernel
theorem dX11_nameField_72 : decode cX11_nameField 72 = .ok (.iconst 0, 1) := by decide +kernel
theorem dX11_nameField_73 : decode cX11_nameField 73 = .ok (.istore 4, 2) := by decide +kernel
theorem dX11_nameField_75 : decode cX11_nameField 75 = .ok (.iload_n 3, 1) := by decide +kernel
theorem dX11_nameField_76 : decode cX11_nameField 76 = .ok (.bipush 47, 2) := by decide +kernel
theorem dX11_nameField_78 : decode cX11_nameField 78 = .ok (.if_icmp .ne 7, 3) := by decide +kernel
theorem dX11_nameField_81 : decode cX11_nameField 81 = .ok (.iconst 2, 1) := by decide +kernel
theorem dX11_nameField_82 : decode cX11_nameField 82 = .ok (.goto 4, 3) := by decide +kernel
theorem dX11_nameField_85 : decode cX11_nameField 85 = .ok (.iconst 1, 1) := by decide +kernel
theorem dX11_nameField_86 : decode cX11_nameField 86 = .ok (.istore_n 1, 1) := by decide +kernel
theorem dX11_nameField_87 : decode cX11_nameField 87 = .ok (.goto 185, 3) := by decide +kernel
theorem dX11_nameField_90 : decode cX11_nameField 90 = .ok (.iload 4, 2) := by decide +kernel
theorem dX11_nameField_92 : decode cX11_nameField 92 = .ok (.ifCond .eq 49, 3) := by decide +kernel
theorem dX11_nameField_95 : decode cX11_nameField 95 = .ok (.iload_n 1, 1) := by decide +kernel
theorem dX11_nameField_96 : decode cX11_nameField 96 = .ok (.iconst 1, 1) := by decide +kernel
theorem dX11_nameField_97 : decode cX11_nameField 97 = .ok (.if_icmp .ne 44, 3) := by decide +kernel
theorem dX11_nameField_100 : decode cX11_nameField 100 = .ok (.iload_n 3, 1) := by decide +kernel
theorem dX11_nameField_101 : decode cX11_nameField 101 = .ok (.bipush 47, 2) := by decide +kernel
theorem dX11_nameField_103 : decode cX11_nameField 103 = .ok (.if_icmp .eq 16, 3) := by decide +kernel
theorem dX11_nameField_106 : decode cX11_nameField 106 = .ok (.iload_n 3, 1) := by decide +kernel
theorem dX11_nameField_107 : decode cX11_nameField 107 = .ok (.invokestatic 73, 3) := by decide +kernel
theorem dX11_nameField_110 : decode cX11_nameField 110 = .ok (.ifCond .eq 13, 3) := by decide +kernel
theorem dX11_nameField_113 : decode cX11_nameField 113 = .ok (.iload_n 2, 1) := by decide +kernel
theorem dX11_nameField_114 : decode cX11_nameField 114 = .ok (.bipush 7, 2) := by decide +kernel
theorem dX11_nameField_116 : decode cX11_nameField 116 = .ok (.if_icmp .ge 7, 3) := by decide +kernel
theorem dX11_nameField_119 : decode cX11_nameField 119 = .ok (.iconst 1, 1) := by decide +kernel
theorem dX11_nameField_120 : decode cX11_nameField 120 = .ok (.goto 4, 3) := by decide +kernel
theorem dX11_nameField_123 : decode cX11_nameField 123 = .ok (.iconst 0, 1) := by decide +kernel
theorem dX11_nameField_124 : decode cX11_nameField 124 = .ok (.istore 4, 2) := by decide +kernel
theorem dX11_nameField_126 : decode cX11_nameField 126 = .ok (.iload_n 3, 1) := by decide +kernel
theorem dX11_nameField_127 : decode cX11_nameField 127 = .ok (.bipush 47, 2) := by decide +kernel
theorem dX11_nameField_129 : decode cX11_nameField 129 = .ok (.if_icmp .ne 7, 3) := by decide +kernel
theorem dX11_nameField_132 : decode cX11_nameField 132 = .ok (.iconst 4, 1) := by decide +kernel
theorem dX11_nameField_133 : decode cX11_nameField 133 = .ok (.goto 4, 3) := by decide +kernel
theorem dX11_nameField_136 : decode cX11_nameField 136 = .ok (.iconst 1, 1) := by decide +kernel
theorem dX11_nameField_137 : decode cX11_nameField 137 = .ok (.istore_n 1, 1) := by decide +kernel
theorem dX11_nameField_138 : decode cX11_nameField 138 = .ok (.goto 134, 3) := by decide +kernel
theorem dX11_nameField_141 : decode cX11_nameField 141 = .ok (.iload 4, 2) := by decide +kernel
theorem dX11_nameField_143 : decode cX11_nameField 143 = .ok (.ifCond .eq 62, 3) := by decide +kernel
theorem dX11_nameField_146 : decode cX11_nameField 146 = .ok (.iload_n 1, 1) := by decide +kernel
theorem dX11_nameField_147 : decode cX11_nameField 147 = .ok (.iconst 2, 1) := by decide +kernel
theorem dX11_nameField_148 : decode cX11_nameField 148 = .ok (.if_icmp .ne 57, 3) := by decide +kernel
theorem dX11_nameField_151 : decode cX11_nameField 151 = .ok (.iload_n 3, 1) := by decide +kernel
theorem dX11_nameField_152 : decode cX11_nameField 152 = .ok (.bipush 47, 2) := by decide +kernel
theorem dX11_nameField_154 : decode cX11_nameField 154 = .ok (.if_icmp .eq 14, 3) := by decide +kernel
theorem dX11_nameField_157 : decode cX11_nameField 157 = .ok (.iload_n 3, 1) := by decide +kernel
theorem dX11_nameField_158 : decode cX11_nameField 158 = .ok (.bipush 48, 2) := by decide +kernel
theorem dX11_nameField_160 : decode cX11_nameField 160 = .ok (.bipush 57, 2) := by decide +kernel
theorem dX11_nameField_162 : decode cX11_nameField 162 = .ok (.invokestatic 62, 3) := by decide +kernel
theorem dX11_nameField_165 : decode cX11_nameField 165 = .ok (.ifCond .eq 7, 3) := by decide +kernel
theorem dX11_nameField_168 : decode cX11_nameField 168 = .ok (.iconst 1, 1) := by decide +kernel
theorem dX11_nameField_169 : decode cX11_nameField 169 = .ok (.goto 4, 3) := by decide +kernel
theorem dX11_nameField_172 : decode cX11_nameField 172 = .ok (.iconst 0, 1) := by decide +kernel
theorem dX11_nameField_173 : decode cX11_nameField 173 = .ok (.istore 4, 2) := by decide +kernel
theorem dX11_nameField_175 : decode cX11_nameField 175 = .ok (.aload_n 0, 1) := by decide +kernel
theorem dX11_nameField_176 : decode cX11_nameField 176 = .ok (.iload_n 3, 1) := by decide +kernel
theorem dX11_nameField_177 : decode cX11_nameField 177 = .ok (.bipush 47, 2) := by decide +kernel
theorem dX11_nameField_179 : decode cX11_nameField 179 = .ok (.if_icmp .ne 7, 3) := by decide +kernel
theorem dX11_nameField_182 : decode cX11_nameField 182 = .ok (.iconst 2, 1) := by decide +kernel
theorem dX11_nameField_183 : decode cX11_nameField 183 = .ok (.goto 4, 3) := by decide +kernel
theorem dX11_nameField_186 : decode cX11_nameField 186 = .ok (.iconst 1, 1) := by decide +kernel
theorem dX11_nameField_187 : decode cX11_nameField 187 = .ok (.putfield 140, 3) := by decide +kernel
theorem dX11_nameField_190 : decode cX11_nameField 190 = .ok (.iload_n 3, 1) := by decide +kernel
theorem dX11_nameField_191 : decode cX11_nameField 191 = .ok (.bipush 47, 2) := by decide +kernel
theorem dX11_nameField_193 : decode cX11_nameField 193 = .ok (.if_icmp .ne 7, 3) := by decide +kernel
theorem dX11_nameField_196 : decode cX11_nameField 196 = .ok (.iconst 4, 1) := by decide +kernel
theorem dX11_nameField_197 : decode cX11_nameField 197 = .ok (.goto 4, 3) := by decide +kernel
theorem dX11_nameField_200 : decode cX11_nameField 200 = .ok (.iconst 3, 1) := by decide +kernel
theorem dX11_nameField_201 : decode cX11_nameField 201 = .ok (.istore_n 1, 1) := by decide +kernel
theorem dX11_nameField_202 : decode cX11_nameField 202 = .ok (.goto 70, 3) := by decide +kernel
theorem dX11_nameField_205 : decode cX11_nameField 205 = .ok (.iload 4, 2) := by decide +kernel
theorem dX11_nameField_207 : decode cX11_nameField 207 = .ok (.ifCond .eq 47, 3) := by decide +kernel
theorem dX11_nameField_210 : decode cX11_nameField 210 = .ok (.iload_n 1, 1) := by decide +kernel
theorem dX11_nameField_211 : decode cX11_nameField 211 = .ok (.iconst 3, 1) := by decide +kernel
theorem dX11_nameField_212 : decode cX11_nameField 212 = .ok (.if_icmp .ne 42, 3) := by decide +kernel
theorem dX11_nameField_215 : decode cX11_nameField 215 = .ok (.iload_n 3, 1) := by decide +kernel
theorem dX11_nameField_216 : decode cX11_nameField 216 = .ok (.bipush 32, 2) := by decide +kernel
theorem dX11_nameField_218 : decode cX11_nameField 218 = .ok (.if_icmp .eq 14, 3) := by decide +kernel
theorem dX11_nameField_221 : decode cX11_nameField 221 = .ok (.iload_n 3, 1) := by decide +kernel
theorem dX11_nameField_222 : decode cX11_nameField 222 = .ok (.bipush 48, 2) := by decide +kernel
theorem dX11_nameField_224 : decode cX11_nameField 224 = .ok (.bipush 57, 2) := by decide +kernel
theorem dX11_nameField_226 : decode cX11_nameField 226 = .ok (.invokestatic 62, 3) := by decide +kernel
theorem dX11_nameField_229 : decode cX11_nameField 229 = .ok (.ifCond .eq 7, 3) := by decide +kernel
theorem dX11_nameField_232 : decode cX11_nameField 232 = .ok (.iconst 1, 1) := by decide +kernel
theorem dX11_nameField_233 : decode cX11_nameField 233 = .ok (.goto 4, 3) := by decide +kernel
theorem dX11_nameField_236 : decode cX11_nameField 236 = .ok (.iconst 0, 1) := by decide +kernel
theorem dX11_nameField_237 : decode cX11_nameField 237 = .ok (.istore 4, 2) := by decide +kernel
theorem dX11_nameField_239 : decode cX11_nameField 239 = .ok (.iload_n 3, 1) := by decide +kernel
theorem dX11_nameField_240 : decode cX11_nameField 240 = .ok (.bipush 32, 2) := by decide +kernel
theorem dX11_nameField_242 : decode cX11_nameField 242 = .ok (.if_icmp .ne 7, 3) := by decide +kernel
theorem dX11_nameField_245 : decode cX11_nameField 245 = .ok (.iconst 4, 1) := by decide +kernel
theorem dX11_nameField_246 : decode cX11_nameField 246 = .ok (.goto 4, 3) := by decide +kernel
theorem dX11_nameField_249 : decode cX11_nameField 249 = .ok (.iconst 3, 1) := by decide +kernel
theorem dX11_nameField_250 : decode cX11_nameField 250 = .ok (.istore_n 1, 1) := by decide +kernel
theorem dX11_nameField_251 : decode cX11_nameField 251 = .ok (.goto 21, 3) := by decide +kernel
theorem dX11_nameField_254 : decode cX11_nameField 254 = .ok (.iload 4, 2) := by decide +kernel
theorem dX11_nameField_256 : decode cX11_nameField 256 = .ok (.ifCond .eq 16, 3) := by decide +kernel
theorem dX11_nameField_259 : decode cX11_nameField 259 = .ok (.iload_n 3, 1) := by decide +kernel
theorem dX11_nameField_260 : decode cX11_nameField 260 = .ok (.bipush 32, 2) := by decide +kernel
theorem dX11_nameField_262 : decode cX11_nameField 262 = .ok (.if_icmp .ne 7, 3) := by decide +kernel
theorem dX11_nameField_265 : decode cX11_nameField 265 = .ok (.iconst 1, 1) := by decide +kernel
theorem dX11_nameField_266 : decode cX11_nameField 266 = .ok (.goto 4, 3) := by decide +kernel
theorem dX11_nameField_269 : decode cX11_nameField 269 = .ok (.iconst 0, 1) := by decide +kernel
theorem dX11_nameField_270 : decode cX11_nameField 270 = .ok (.istore 4, 2) := by decide +kernel
theorem dX11_nameField_272 : decode cX11_nameField 272 = .ok (.iload 4, 2) := by decide +kernel
theorem dX11_nameField_274 : decode cX11_nameField 274 = .ok (.ifCond .ne 12, 3) := by decide +kernel
theorem dX11_nameField_277 : decode cX11_nameField 277 = .ok (.aload_n 0, 1) := by decide +kernel
theorem dX11_nameField_278 : decode cX11_nameField 278 = .ok (.iconst 4, 1) := by decide +kernel
theorem dX11_nameField_279 : decode cX11_nameField 279 = .ok (.aload_n 0, 1) := by decide +kernel
theorem dX11_nameField_280 : decode cX11_nameField 280 = .ok (.getfield 124, 3) := by decide +kernel
theorem dX11_nameField_283 : decode cX11_nameField 283 = .ok (.invokevirtual 127, 3) := by decide +kernel
theorem dX11_nameField_286 : decode cX11_nameField 286 = .ok (.iload_n 1, 1) := by decide +kernel
theorem dX11_nameField_287 : decode cX11_nameField 287 = .ok (.iconst 1, 1) := by decide +kernel
theorem dX11_nameField_288 : decode cX11_nameField 288 = .ok (.if_icmp .ne 46, 3) := by decide +kernel
theorem dX11_nameField_291 : decode cX11_nameField 291 = .ok (.aload_n 0, 1) := by decide +kernel
theorem dX11_nameField_292 : decode cX11_nameField 292 = .ok (.getfield 121, 3) := by decide +kernel
theorem dX11_nameField_295 : decode cX11_nameField 295 = .ok (.ifCond .ne 39, 3) := by decide +kernel
theorem dX11_nameField_298 : decode cX11_nameField 298 = .ok (.aload_n 0, 1) := by decide +kernel
theorem dX11_nameField_299 : decode cX11_nameField 299 = .ok (.getfield 34, 3) := by decide +kernel
theorem dX11_nameField_302 : decode cX11_nameField 302 = .ok (.bipush 20, 2) := by decide +kernel
theorem dX11_nameField_304 : decode cX11_nameField 304 = .ok (.aload_n 0, 1) := by decide +kernel
theorem dX11_nameField_305 : decode cX11_nameField 305 = .ok (.getfield 137, 3) := by decide +kernel
theorem dX11_nameField_308 : decode cX11_nameField 308 = .ok (.imul, 1) := by decide +kernel
theorem dX11_nameField_309 : decode cX11_nameField 309 = .ok (.aload_n 0, 1) := by decide +kernel
theorem dX11_nameField_310 : decode cX11_nameField 310 = .ok (.getfield 31, 3) := by decide +kernel
theorem dX11_nameField_313 : decode cX11_nameField 313 = .ok (.aload_n 0, 1) := by decide +kernel
theorem dX11_nameField_314 : decode cX11_nameField 314 = .ok (.getfield 137, 3) := by decide +kernel
theorem dX11_nameField_317 : decode cX11_nameField 317 = .ok (.iaload, 1) := by decide +kernel
theorem dX11_nameField_318 : decode cX11_nameField 318 = .ok (.iadd, 1) := by decide +kernel
theorem dX11_nameField_319 : decode cX11_nameField 319 = .ok (.iload_n 3, 1) := by decide +kernel
theorem dX11_nameField_320 : decode cX11_nameField 320 = .ok (.iastore, 1) := by decide +kernel
theorem dX11_nameField_321 : decode cX11_nameField 321 = .ok (.aload_n 0, 1) := by decide +kernel
theorem dX11_nameField_322 : decode cX11_nameField 322 = .ok (.getfield 31, 3) := by decide +kernel
theorem dX11_nameField_325 : decode cX11_nameField 325 = .ok (.aload_n 0, 1) := by decide +kernel
theorem dX11_nameField_326 : decode cX11_nameField 326 = .ok (.getfield 137, 3) := by decide +kernel
theorem dX11_nameField_329 : decode cX11_nameField 329 = .ok (.dup2, 1) := by decide +kernel
theorem dX11_nameField_330 : decode cX11_nameField 330 = .ok (.iaload, 1) := by decide +kernel
theorem dX11_nameField_331 : decode cX11_nameField 331 = .ok (.iconst 1, 1) := by decide +kernel
theorem dX11_nameField_332 : decode cX11_nameField 332 = .ok (.iadd, 1) := by decide +kernel
theorem dX11_nameField_333 : decode cX11_nameField 333 = .ok (.iastore, 1) := by decide +kernel
theorem dX11_nameField_334 : decode cX11_nameField 334 = .ok (.iload_n 1, 1) := by decide +kernel
theorem dX11_nameField_335 : decode cX11_nameField 335 = .ok (.iconst 3, 1) := by decide +kernel
theorem dX11_nameField_336 : decode cX11_nameField 336 = .ok (.if_icmp .ne 26, 3) := by decide +kernel
theorem dX11_nameField_339 : decode cX11_nameField 339 = .ok (.aload_n 0, 1) := by decide +kernel
theorem dX11_nameField_340 : decode cX11_nameField 340 = .ok (.getfield 121, 3) := by decide +kernel
theorem dX11_nameField_343 : decode cX11_nameField 343 = .ok (.ifCond .ne 19, 3) := by decide +kernel
theorem dX11_nameField_346 : decode cX11_nameField 346 = .ok (.aload_n 0, 1) := by decide +kernel
theorem dX11_nameField_347 : decode cX11_nameField 347 = .ok (.bipush 10, 2) := by decide +kernel
theorem dX11_nameField_349 : decode cX11_nameField 349 = .ok (.aload_n 0, 1) := by decide +kernel
theorem dX11_nameField_350 : decode cX11_nameField 350 = .ok (.getfield 143, 3) := by decide +kernel
theorem dX11_nameField_353 : decode cX11_nameField 353 = .ok (.imul, 1) := by decide +kernel
theorem dX11_nameField_354 : decode cX11_nameField 354 = .ok (.iload_n 3, 1) := by decide +kernel
theorem dX11_nameField_355 : decode cX11_nameField 355 = .ok (.iadd, 1) := by decide +kernel
theorem dX11_nameField_356 : decode cX11_nameField 356 = .ok (.bipush 48, 2) := by decide +kernel
theorem dX11_nameField_358 : decode cX11_nameField 358 = .ok (.isub, 1) := by decide +kernel
theorem dX11_nameField_359 : decode cX11_nameField 359 = .ok (.putfield 143, 3) := by decide +kernel
theorem dX11_nameField_362 : decode cX11_nameField 362 = .ok (.aload_n 0, 1) := by decide +kernel
theorem dX11_nameField_363 : decode cX11_nameField 363 = .ok (.dup, 1) := by decide +kernel
theorem dX11_nameField_364 : decode cX11_nameField 364 = .ok (.getfield 124, 3) := by decide +kernel
theorem dX11_nameField_367 : decode cX11_nameField 367 = .ok (.iconst 1, 1) := by decide +kernel
theorem dX11_nameField_368 : decode cX11_nameField 368 = .ok (.iadd, 1) := by decide +kernel
theorem dX11_nameField_369 : decode cX11_nameField 369 = .ok (.putfield 124, 3) := by decide +kernel
theorem dX11_nameField_372 : decode cX11_nameField 372 = .ok (.iinc 2 1, 3) := by decide +kernel
theorem dX11_nameField_375 : decode cX11_nameField 375 = .ok (.goto (-361), 3) := by decide +kernel
theorem dX11_nameField_378 : decode cX11_nameField 378 = .ok (.return_, 1) := by decide +kernel
theorem dX11_sizeField_0 : decode cX11_sizeField 0 = .ok (.iconst 0, 1) := by decide +kernel
theorem dX11_sizeField_1 : decode cX11_sizeField 1 = .ok (.istore_n 1, 1) := by decide +kernel
theorem dX11_sizeField_2 : decode cX11_sizeField 2 = .ok (.iconst 0, 1) := by decide +kernel
theorem dX11_sizeField_3 : decode cX11_sizeField 3 = .ok (.istore_n 2, 1) := by decide +kernel
theorem dX11_sizeField_4 : decode cX11_sizeField 4 = .ok (.iconst 0, 1) := by decide +kernel
theorem dX11_sizeField_5 : decode cX11_sizeField 5 = .ok (.istore_n 3, 1) := by decide +kernel
theorem dX11_sizeField_6 : decode cX11_sizeField 6 = .ok (.iload_n 3, 1) := by decide +kernel
theorem dX11_sizeField_7 : decode cX11_sizeField 7 = .ok (.iconst 4, 1) := by decide +kernel
theorem dX11_sizeField_8 : decode cX11_sizeField 8 = .ok (.if_icmp .ge 116, 3) := by decide +kernel
theorem dX11_sizeField_11 : decode cX11_sizeField 11 = .ok (.aload_n 0, 1) := by decide +kernel
theorem dX11_sizeField_12 : decode cX11_sizeField 12 = .ok (.getfield 121, 3) := by decide +kernel
theorem dX11_sizeField_15 : decode cX11_sizeField 15 = .ok (.ifCond .ne 109, 3) := by decide +kernel
theorem dX11_sizeField_18 : decode cX11_sizeField 18 = .ok (.aload_n 0, 1) := by decide +kernel
theorem dX11_sizeField_19 : decode cX11_sizeField 19 = .ok (.invokevirtual 130, 3) := by decide +kernel
theorem dX11_sizeField_22 : decode cX11_sizeField 22 = .ok (.istore 4, 2) := by decide +kernel
theorem dX11_sizeField_24 : decode cX11_sizeField 24 = .ok (.iload 4, 2) := by decide +kernel
theorem dX11_sizeField_26 : decode cX11_sizeField 26 = .ok (.bipush 48, 2) := by decide +kernel
theorem dX11_sizeField_28 : decode cX11_sizeField 28 = .ok (.bipush 57, 2) := by decide +kernel
theorem dX11_sizeField_30 : decode cX11_sizeField 30 = .ok (.invokestatic 62, 3) := by decide +kernel
theorem dX11_sizeField_33 : decode cX11_sizeField 33 = .ok (.istore 5, 2) := by decide +kernel
theorem dX11_sizeField_35 : decode cX11_sizeField 35 = .ok (.aload_n 0, 1) := by decide +kernel
theorem dX11_sizeField_36 : decode cX11_sizeField 36 = .ok (.getfield 121, 3) := by decide +kernel
theorem dX11_sizeField_39 : decode cX11_sizeField 39 = .ok (.ifCond .ne 32, 3) := by decide +kernel
theorem dX11_sizeField_42 : decode cX11_sizeField 42 = .ok (.iload 5, 2) := by decide +kernel
theorem dX11_sizeField_44 : decode cX11_sizeField 44 = .ok (.ifCond .eq 7, 3) := by decide +kernel
theorem dX11_sizeField_47 : decode cX11_sizeField 47 = .ok (.iload_n 2, 1) := by decide +kernel
theorem dX11_sizeField_48 : decode cX11_sizeField 48 = .ok (.ifCond .eq 23, 3) := by decide +kernel
theorem dX11_sizeField_51 : decode cX11_sizeField 51 = .ok (.iload 4, 2) := by decide +kernel
theorem dX11_sizeField_53 : decode cX11_sizeField 53 = .ok (.bipush 32, 2) := by decide +kernel
theorem dX11_sizeField_55 : decode cX11_sizeField 55 = .ok (.if_icmp .ne 7, 3) := by decide +kernel
theorem dX11_sizeField_58 : decode cX11_sizeField 58 = .ok (.iload_n 3, 1) := by decide +kernel
theorem dX11_sizeField_59 : decode cX11_sizeField 59 = .ok (.ifCond .gt 12, 3) := by decide +kernel
theorem dX11_sizeField_62 : decode cX11_sizeField 62 = .ok (.aload_n 0, 1) := by decide +kernel
theorem dX11_sizeField_63 : decode cX11_sizeField 63 = .ok (.iconst 4, 1) := by decide +kernel
theorem dX11_sizeField_64 : decode cX11_sizeField 64 = .ok (.aload_n 0, 1) := by decide +kernel
theorem dX11_sizeField_65 : decode cX11_sizeField 65 = .ok (.getfield 124, 3) := by decide +kernel
theorem dX11_sizeField_68 : decode cX11_sizeField 68 = .ok (.invokevirtual 127, 3) := by decide +kernel
theorem dX11_sizeField_71 : decode cX11_sizeField 71 = .ok (.iload_n 2, 1) := by decide +kernel
theorem dX11_sizeField_72 : decode cX11_sizeField 72 = .ok (.ifCond .ne 10, 3) := by decide +kernel
theorem dX11_sizeField_75 : decode cX11_sizeField 75 = .ok (.iload 4, 2) := by decide +kernel
theorem dX11_sizeField_77 : decode cX11_sizeField 77 = .ok (.bipush 32, 2) := by decide +kernel
theorem dX11_sizeField_79 : decode cX11_sizeField 79 = .ok (.if_icmp .ne 7, 3) := by decide +kernel
theorem dX11_sizeField_82 : decode cX11_sizeField 82 = .ok (.iconst 1, 1) := by decide +kernel
theorem dX11_sizeField_83 : decode cX11_sizeField 83 = .ok (.goto 4, 3) := by decide +kernel
theorem dX11_sizeField_86 : decode cX11_sizeField 86 = .ok (.iconst 0, 1) := by decide +kernel
theorem dX11_sizeField_87 : decode cX11_sizeField 87 = .ok (.istore_n 2, 1) := by decide +kernel
theorem dX11_sizeField_88 : decode cX11_sizeField 88 = .ok (.iload 5, 2) := by decide +kernel
theorem dX11_sizeField_90 : decode cX11_sizeField 90 = .ok (.ifCond .eq 16, 3) := by decide +kernel
theorem dX11_sizeField_93 : decode cX11_sizeField 93 = .ok (.bipush 10, 2) := by decide +kernel
theorem dX11_sizeField_95 : decode cX11_sizeField 95 = .ok (.iload_n 1, 1) := by decide +kernel
theorem dX11_sizeField_96 : decode cX11_sizeField 96 = .ok (.imul, 1) := by decide +kernel
theorem dX11_sizeField_97 : decode cX11_sizeField 97 = .ok (.iload 4, 2) := by decide +kernel
theorem dX11_sizeField_99 : decode cX11_sizeField 99 = .ok (.iadd, 1) := by decide +kernel
theorem dX11_sizeField_100 : decode cX11_sizeField 100 = .ok (.bipush 48, 2) := by decide +kernel
theorem dX11_sizeField_102 : decode cX11_sizeField 102 = .ok (.isub, 1) := by decide +kernel
theorem dX11_sizeField_103 : decode cX11_sizeField 103 = .ok (.goto 4, 3) := by decide +kernel
theorem dX11_sizeField_106 : decode cX11_sizeField 106 = .ok (.iload_n 1, 1) := by decide +kernel
theorem dX11_sizeField_107 : decode cX11_sizeField 107 = .ok (.istore_n 1, 1) := by decide +kernel
theorem dX11_sizeField_108 : decode cX11_sizeField 108 = .ok (.aload_n 0, 1) := by decide +kernel
theorem dX11_sizeField_109 : decode cX11_sizeField 109 = .ok (.dup, 1) := by decide +kernel
theorem dX11_sizeField_110 : decode cX11_sizeField 110 = .ok (.getfield 124, 3) := by decide +kernel
theorem dX11_sizeField_113 : decode cX11_sizeField 113 = .ok (.iconst 1, 1) := by decide +kernel
theorem dX11_sizeField_114 : decode cX11_sizeField 114 = .ok (.iadd, 1) := by decide +kernel
theorem dX11_sizeField_115 : decode cX11_sizeField 115 = .ok (.putfield 124, 3) := by decide +kernel
theorem dX11_sizeField_118 : decode cX11_sizeField 118 = .ok (.iinc 3 1, 3) := by decide +kernel
theorem dX11_sizeField_121 : decode cX11_sizeField 121 = .ok (.goto (-115), 3) := by decide +kernel
theorem dX11_sizeField_124 : decode cX11_sizeField 124 = .ok (.iload_n 1, 1) := by decide +kernel
theorem dX11_sizeField_125 : decode cX11_sizeField 125 = .ok (.ireturn, 1) := by decide +kernel
theorem dX11_longName_0 : decode cX11_longName 0 = .ok (.aload_n 0, 1) := by decide +kernel
theorem dX11_longName_1 : decode cX11_longName 1 = .ok (.getfield 146, 3) := by decide +kernel
theorem dX11_longName_4 : decode cX11_longName 4 = .ok (.iconst (-1), 1) := by decide +kernel
theorem dX11_longName_5 : decode cX11_longName 5 = .ok (.if_icmp .ne 10, 3) := by decide +kernel
theorem dX11_longName_8 : decode cX11_longName 8 = .ok (.aload_n 0, 1) := by decide +kernel
theorem dX11_longName_9 : decode cX11_longName 9 = .ok (.iconst 1, 1) := by decide +kernel
theorem dX11_longName_10 : decode cX11_longName 10 = .ok (.iload_n 1, 1) := by decide +kernel
theorem dX11_longName_11 : decode cX11_longName 11 = .ok (.invokevirtual 127, 3) := by decide +kernel
theorem dX11_longName_14 : decode cX11_longName 14 = .ok (.return_, 1) := by decide +kernel
theorem dX11_longName_15 : decode cX11_longName 15 = .ok (.aload_n 0, 1) := by decide +kernel
theorem dX11_longName_16 : decode cX11_longName 16 = .ok (.getfield 143, 3) := by decide +kernel
theorem dX11_longName_19 : decode cX11_longName 19 = .ok (.istore_n 2, 1) := by decide +kernel
theorem dX11_longName_20 : decode cX11_longName 20 = .ok (.iconst 0, 1) := by decide +kernel
theorem dX11_longName_21 : decode cX11_longName 21 = .ok (.istore_n 3, 1) := by decide +kernel
theorem dX11_longName_22 : decode cX11_longName 22 = .ok (.aload_n 0, 1) := by decide +kernel
theorem dX11_longName_23 : decode cX11_longName 23 = .ok (.getfield 121, 3) := by decide +kernel
theorem dX11_longName_26 : decode cX11_longName 26 = .ok (.ifCond .ne 122, 3) := by decide +kernel
theorem dX11_longName_29 : decode cX11_longName 29 = .ok (.iload_n 3, 1) := by decide +kernel
theorem dX11_longName_30 : decode cX11_longName 30 = .ok (.ifCond .ne 118, 3) := by decide +kernel
theorem dX11_longName_33 : decode cX11_longName 33 = .ok (.iload_n 2, 1) := by decide +kernel
theorem dX11_longName_34 : decode cX11_longName 34 = .ok (.aload_n 0, 1) := by decide +kernel
theorem dX11_longName_35 : decode cX11_longName 35 = .ok (.getfield 146, 3) := by decide +kernel
theorem dX11_longName_38 : decode cX11_longName 38 = .ok (.if_icmp .lt 12, 3) := by decide +kernel
theorem dX11_longName_41 : decode cX11_longName 41 = .ok (.aload_n 0, 1) := by decide +kernel
theorem dX11_longName_42 : decode cX11_longName 42 = .ok (.iconst 2, 1) := by decide +kernel
theorem dX11_longName_43 : decode cX11_longName 43 = .ok (.iload_n 1, 1) := by decide +kernel
theorem dX11_longName_44 : decode cX11_longName 44 = .ok (.invokevirtual 127, 3) := by decide +kernel
theorem dX11_longName_47 : decode cX11_longName 47 = .ok (.goto (-25), 3) := by decide +kernel
theorem dX11_longName_50 : decode cX11_longName 50 = .ok (.aload_n 0, 1) := by decide +kernel
theorem dX11_longName_51 : decode cX11_longName 51 = .ok (.getfield 52, 3) := by decide +kernel
theorem dX11_longName_54 : decode cX11_longName 54 = .ok (.iload_n 2, 1) := by decide +kernel
theorem dX11_longName_55 : decode cX11_longName 55 = .ok (.iaload, 1) := by decide +kernel
theorem dX11_longName_56 : decode cX11_longName 56 = .ok (.bipush 47, 2) := by decide +kernel
theorem dX11_longName_58 : decode cX11_longName 58 = .ok (.if_icmp .ne 8, 3) := by decide +kernel
theorem dX11_longName_61 : decode cX11_longName 61 = .ok (.iconst 1, 1) := by decide +kernel
theorem dX11_longName_62 : decode cX11_longName 62 = .ok (.istore_n 3, 1) := by decide +kernel
theorem dX11_longName_63 : decode cX11_longName 63 = .ok (.goto (-41), 3) := by decide +kernel
theorem dX11_longName_66 : decode cX11_longName 66 = .ok (.aload_n 0, 1) := by decide +kernel
theorem dX11_longName_67 : decode cX11_longName 67 = .ok (.getfield 52, 3) := by decide +kernel
theorem dX11_longName_70 : decode cX11_longName 70 = .ok (.iload_n 2, 1) := by decide +kernel
theorem dX11_longName_71 : decode cX11_longName 71 = .ok (.iaload, 1) := by decide +kernel
theorem dX11_longName_72 : decode cX11_longName 72 = .ok (.invokestatic 73, 3) := by decide +kernel
theorem dX11_longName_75 : decode cX11_longName 75 = .ok (.ifCond .eq 17, 3) := by decide +kernel
theorem dX11_longName_78 : decode cX11_longName 78 = .ok (.aload_n 0, 1) := by decide +kernel
theorem dX11_longName_79 : decode cX11_longName 79 = .ok (.getfield 31, 3) := by decide +kernel
theorem dX11_longName_82 : decode cX11_longName 82 = .ok (.aload_n 0, 1) := by decide +kernel
theorem dX11_longName_83 : decode cX11_longName 83 = .ok (.getfield 137, 3) := by decide +kernel
theorem dX11_longName_86 : decode cX11_longName 86 = .ok (.iaload, 1) := by decide +kernel
theorem dX11_longName_87 : decode cX11_longName 87 = .ok (.bipush 20, 2) := by decide +kernel
theorem dX11_longName_89 : decode cX11_longName 89 = .ok (.if_icmp .ne 12, 3) := by decide +kernel
theorem dX11_longName_92 : decode cX11_longName 92 = .ok (.aload_n 0, 1) := by decide +kernel
theorem dX11_longName_93 : decode cX11_longName 93 = .ok (.iconst 4, 1) := by decide +kernel
theorem dX11_longName_94 : decode cX11_longName 94 = .ok (.iload_n 1, 1) := by decide +kernel
theorem dX11_longName_95 : decode cX11_longName 95 = .ok (.invokevirtual 127, 3) := by decide +kernel
theorem dX11_longName_98 : decode cX11_longName 98 = .ok (.goto (-76), 3) := by decide +kernel
theorem dX11_longName_101 : decode cX11_longName 101 = .ok (.aload_n 0, 1) := by decide +kernel
theorem dX11_longName_102 : decode cX11_longName 102 = .ok (.getfield 34, 3) := by decide +kernel
theorem dX11_longName_105 : decode cX11_longName 105 = .ok (.bipush 20, 2) := by decide +kernel
theorem dX11_longName_107 : decode cX11_longName 107 = .ok (.aload_n 0, 1) := by decide +kernel
theorem dX11_longName_108 : decode cX11_longName 108 = .ok (.getfield 137, 3) := by decide +kernel
theorem dX11_longName_111 : decode cX11_longName 111 = .ok (.imul, 1) := by decide +kernel
theorem dX11_longName_112 : decode cX11_longName 112 = .ok (.aload_n 0, 1) := by decide +kernel
theorem dX11_longName_113 : decode cX11_longName 113 = .ok (.getfield 31, 3) := by decide +kernel
theorem dX11_longName_116 : decode cX11_longName 116 = .ok (.aload_n 0, 1) := by decide +kernel
theorem dX11_longName_117 : decode cX11_longName 117 = .ok (.getfield 137, 3) := by decide +kernel
theorem dX11_longName_120 : decode cX11_longName 120 = .ok (.iaload, 1) := by decide +kernel
theorem dX11_longName_121 : decode cX11_longName 121 = .ok (.iadd, 1) := by decide +kernel
theorem dX11_longName_122 : decode cX11_longName 122 = .ok (.aload_n 0, 1) := by decide +kernel
theorem dX11_longName_123 : decode cX11_longName 123 = .ok (.getfield 52, 3) := by decide +kernel
theorem dX11_longName_126 : decode cX11_longName 126 = .ok (.iload_n 2, 1) := by decide +kernel
theorem dX11_longName_127 : decode cX11_longName 127 = .ok (.iaload, 1) := by decide +kernel
theorem dX11_longName_128 : decode cX11_longName 128 = .ok (.iastore, 1) := by decide +kernel
theorem dX11_longName_129 : decode cX11_longName 129 = .ok (.aload_n 0, 1) := by decide +kernel
theorem dX11_longName_130 : decode cX11_longName 130 = .ok (.getfield 31, 3) := by decide +kernel
theorem dX11_longName_133 : decode cX11_longName 133 = .ok (.aload_n 0, 1) := by decide +kernel
theorem dX11_longName_134 : decode cX11_longName 134 = .ok (.getfield 137, 3) := by decide +kernel
theorem dX11_longName_137 : decode cX11_longName 137 = .ok (.dup2, 1) := by decide +kernel
theorem dX11_longName_138 : decode cX11_longName 138 = .ok (.iaload, 1) := by decide +kernel
theorem dX11_longName_139 : decode cX11_longName 139 = .ok (.iconst 1, 1) := by decide +kernel
theorem dX11_longName_140 : decode cX11_longName 140 = .ok (.iadd, 1) := by decide +kernel
theorem dX11_longName_141 : decode cX11_longName 141 = .ok (.iastore, 1) := by decide +kernel
theorem dX11_longName_142 : decode cX11_longName 142 = .ok (.iinc 2 1, 3) := by decide +kernel
theorem dX11_longName_145 : decode cX11_longName 145 = .ok (.goto (-123), 3) := by decide +kernel
theorem dX11_longName_148 : decode cX11_longName 148 = .ok (.aload_n 0, 1) := by decide +kernel
theorem dX11_longName_149 : decode cX11_longName 149 = .ok (.getfield 121, 3) := by decide +kernel
theorem dX11_longName_152 : decode cX11_longName 152 = .ok (.ifCond .ne 21, 3) := by decide +kernel
theorem dX11_longName_155 : decode cX11_longName 155 = .ok (.aload_n 0, 1) := by decide +kernel
theorem dX11_longName_156 : decode cX11_longName 156 = .ok (.getfield 31, 3) := by decide +kernel
theorem dX11_longName_159 : decode cX11_longName 159 = .ok (.aload_n 0, 1) := by decide +kernel
theorem dX11_longName_160 : decode cX11_longName 160 = .ok (.getfield 137, 3) := by decide +kernel
theorem dX11_longName_163 : decode cX11_longName 163 = .ok (.iaload, 1) := by decide +kernel
theorem dX11_longName_164 : decode cX11_longName 164 = .ok (.ifCond .ne 9, 3) := by decide +kernel
theorem dX11_longName_167 : decode cX11_longName 167 = .ok (.aload_n 0, 1) := by decide +kernel
theorem dX11_longName_168 : decode cX11_longName 168 = .ok (.iconst 4, 1) := by decide +kernel
theorem dX11_longName_169 : decode cX11_longName 169 = .ok (.iload_n 1, 1) := by decide +kernel
theorem dX11_longName_170 : decode cX11_longName 170 = .ok (.invokevirtual 127, 3) := by decide +kernel
theorem dX11_longName_173 : decode cX11_longName 173 = .ok (.aload_n 0, 1) := by decide +kernel
theorem dX11_longName_174 : decode cX11_longName 174 = .ok (.getfield 121, 3) := by decide +kernel
theorem dX11_longName_177 : decode cX11_longName 177 = .ok (.ifCond .ne 19, 3) := by decide +kernel
theorem dX11_longName_180 : decode cX11_longName 180 = .ok (.iload_n 2, 1) := by decide +kernel
theorem dX11_longName_181 : decode cX11_longName 181 = .ok (.iconst 1, 1) := by decide +kernel
theorem dX11_longName_182 : decode cX11_longName 182 = .ok (.iadd, 1) := by decide +kernel
theorem dX11_longName_183 : decode cX11_longName 183 = .ok (.aload_n 0, 1) := by decide +kernel
theorem dX11_longName_184 : decode cX11_longName 184 = .ok (.getfield 146, 3) := by decide +kernel
theorem dX11_longName_187 : decode cX11_longName 187 = .ok (.if_icmp .lt 9, 3) := by decide +kernel
theorem dX11_longName_190 : decode cX11_longName 190 = .ok (.aload_n 0, 1) := by decide +kernel
theorem dX11_longName_191 : decode cX11_longName 191 = .ok (.iconst 2, 1) := by decide +kernel
theorem dX11_longName_192 : decode cX11_longName 192 = .ok (.iload_n 1, 1) := by decide +kernel
theorem dX11_longName_193 : decode cX11_longName 193 = .ok (.invokevirtual 127, 3) := by decide +kernel
theorem dX11_longName_196 : decode cX11_longName 196 = .ok (.aload_n 0, 1) := by decide +kernel
theorem dX11_longName_197 : decode cX11_longName 197 = .ok (.getfield 121, 3) := by decide +kernel
theorem dX11_longName_200 : decode cX11_longName 200 = .ok (.ifCond .ne 22, 3) := by decide +kernel
theorem dX11_longName_203 : decode cX11_longName 203 = .ok (.aload_n 0, 1) := by decide +kernel
theorem dX11_longName_204 : decode cX11_longName 204 = .ok (.getfield 52, 3) := by decide +kernel
theorem dX11_longName_207 : decode cX11_longName 207 = .ok (.iload_n 2, 1) := by decide +kernel
theorem dX11_longName_208 : decode cX11_longName 208 = .ok (.iconst 1, 1) := by decide +kernel
theorem dX11_longName_209 : decode cX11_longName 209 = .ok (.iadd, 1) := by decide +kernel
theorem dX11_longName_210 : decode cX11_longName 210 = .ok (.iaload, 1) := by decide +kernel
theorem dX11_longName_211 : decode cX11_longName 211 = .ok (.bipush 10, 2) := by decide +kernel
theorem dX11_longName_213 : decode cX11_longName 213 = .ok (.if_icmp .eq 9, 3) := by decide +kernel
theorem dX11_longName_216 : decode cX11_longName 216 = .ok (.aload_n 0, 1) := by decide +kernel
theorem dX11_longName_217 : decode cX11_longName 217 = .ok (.iconst 4, 1) := by decide +kernel
theorem dX11_longName_218 : decode cX11_longName 218 = .ok (.iload_n 1, 1) := by decide +kernel
theorem dX11_longName_219 : decode cX11_longName 219 = .ok (.invokevirtual 127, 3) := by decide +kernel
theorem dX11_longName_222 : decode cX11_longName 222 = .ok (.return_, 1) := by decide +kernel
theorem dX11_readHead_0 : decode cX11_readHead 0 = .ok (.aload_n 0, 1) := by decide +kernel
theorem dX11_readHead_1 : decode cX11_readHead 1 = .ok (.getfield 124, 3) := by decide +kernel
theorem dX11_readHead_4 : decode cX11_readHead 4 = .ok (.istore_n 1, 1) := by decide +kernel
theorem dX11_readHead_5 : decode cX11_readHead 5 = .ok (.aload_n 0, 1) := by decide +kernel
theorem dX11_readHead_6 : decode cX11_readHead 6 = .ok (.invokevirtual 149, 3) := by decide +kernel
theorem dX11_readHead_9 : decode cX11_readHead 9 = .ok (.aload_n 0, 1) := by decide +kernel
theorem dX11_readHead_10 : decode cX11_readHead 10 = .ok (.invokevirtual 152, 3) := by decide +kernel
theorem dX11_readHead_13 : decode cX11_readHead 13 = .ok (.aload_n 0, 1) := by decide +kernel
theorem dX11_readHead_14 : decode cX11_readHead 14 = .ok (.getfield 124, 3) := by decide +kernel
theorem dX11_readHead_17 : decode cX11_readHead 17 = .ok (.istore_n 2, 1) := by decide +kernel
theorem dX11_readHead_18 : decode cX11_readHead 18 = .ok (.aload_n 0, 1) := by decide +kernel
theorem dX11_readHead_19 : decode cX11_readHead 19 = .ok (.getfield 121, 3) := by decide +kernel
theorem dX11_readHead_22 : decode cX11_readHead 22 = .ok (.ifCond .ne 10, 3) := by decide +kernel
theorem dX11_readHead_25 : decode cX11_readHead 25 = .ok (.aload_n 0, 1) := by decide +kernel
theorem dX11_readHead_26 : decode cX11_readHead 26 = .ok (.invokevirtual 155, 3) := by decide +kernel
theorem dX11_readHead_29 : decode cX11_readHead 29 = .ok (.goto 4, 3) := by decide +kernel
theorem dX11_readHead_32 : decode cX11_readHead 32 = .ok (.iconst 0, 1) := by decide +kernel
theorem dX11_readHead_33 : decode cX11_readHead 33 = .ok (.istore_n 3, 1) := by decide +kernel
theorem dX11_readHead_34 : decode cX11_readHead 34 = .ok (.aload_n 0, 1) := by decide +kernel
theorem dX11_readHead_35 : decode cX11_readHead 35 = .ok (.bipush 96, 2) := by decide +kernel
theorem dX11_readHead_37 : decode cX11_readHead 37 = .ok (.invokevirtual 158, 3) := by decide +kernel
theorem dX11_readHead_40 : decode cX11_readHead 40 = .ok (.aload_n 0, 1) := by decide +kernel
theorem dX11_readHead_41 : decode cX11_readHead 41 = .ok (.bipush 10, 2) := by decide +kernel
theorem dX11_readHead_43 : decode cX11_readHead 43 = .ok (.invokevirtual 158, 3) := by decide +kernel
theorem dX11_readHead_46 : decode cX11_readHead 46 = .ok (.aload_n 0, 1) := by decide +kernel
theorem dX11_readHead_47 : decode cX11_readHead 47 = .ok (.getfield 140, 3) := by decide +kernel
theorem dX11_readHead_50 : decode cX11_readHead 50 = .ok (.iconst 2, 1) := by decide +kernel
theorem dX11_readHead_51 : decode cX11_readHead 51 = .ok (.if_icmp .ne 7, 3) := by decide +kernel
theorem dX11_readHead_54 : decode cX11_readHead 54 = .ok (.iconst 1, 1) := by decide +kernel
theorem dX11_readHead_55 : decode cX11_readHead 55 = .ok (.goto 4, 3) := by decide +kernel
theorem dX11_readHead_58 : decode cX11_readHead 58 = .ok (.iconst 0, 1) := by decide +kernel
theorem dX11_readHead_59 : decode cX11_readHead 59 = .ok (.istore 4, 2) := by decide +kernel
theorem dX11_readHead_61 : decode cX11_readHead 61 = .ok (.aload_n 0, 1) := by decide +kernel
theorem dX11_readHead_62 : decode cX11_readHead 62 = .ok (.getfield 121, 3) := by decide +kernel
theorem dX11_readHead_65 : decode cX11_readHead 65 = .ok (.ifCond .ne 19, 3) := by decide +kernel
theorem dX11_readHead_68 : decode cX11_readHead 68 = .ok (.iload 4, 2) := by decide +kernel
theorem dX11_readHead_70 : decode cX11_readHead 70 = .ok (.ifCond .eq 14, 3) := by decide +kernel
theorem dX11_readHead_73 : decode cX11_readHead 73 = .ok (.iload_n 1, 1) := by decide +kernel
theorem dX11_readHead_74 : decode cX11_readHead 74 = .ok (.iconst 4, 1) := by decide +kernel
theorem dX11_readHead_75 : decode cX11_readHead 75 = .ok (.if_icmp .eq 9, 3) := by decide +kernel
theorem dX11_readHead_78 : decode cX11_readHead 78 = .ok (.aload_n 0, 1) := by decide +kernel
theorem dX11_readHead_79 : decode cX11_readHead 79 = .ok (.iconst 4, 1) := by decide +kernel
theorem dX11_readHead_80 : decode cX11_readHead 80 = .ok (.iload_n 1, 1) := by decide +kernel
theorem dX11_readHead_81 : decode cX11_readHead 81 = .ok (.invokevirtual 127, 3) := by decide +kernel
theorem dX11_readHead_84 : decode cX11_readHead 84 = .ok (.aload_n 0, 1) := by decide +kernel
theorem dX11_readHead_85 : decode cX11_readHead 85 = .ok (.getfield 121, 3) := by decide +kernel
theorem dX11_readHead_88 : decode cX11_readHead 88 = .ok (.ifCond .ne 16, 3) := by decide +kernel
theorem dX11_readHead_91 : decode cX11_readHead 91 = .ok (.aload_n 0, 1) := by decide +kernel
theorem dX11_readHead_92 : decode cX11_readHead 92 = .ok (.getfield 140, 3) := by decide +kernel
theorem dX11_readHead_95 : decode cX11_readHead 95 = .ok (.iconst 1, 1) := by decide +kernel
theorem dX11_readHead_96 : decode cX11_readHead 96 = .ok (.if_icmp .ne 8, 3) := by decide +kernel
theorem dX11_readHead_99 : decode cX11_readHead 99 = .ok (.aload_n 0, 1) := by decide +kernel
theorem dX11_readHead_100 : decode cX11_readHead 100 = .ok (.iload_n 1, 1) := by decide +kernel
theorem dX11_readHead_101 : decode cX11_readHead 101 = .ok (.invokevirtual 161, 3) := by decide +kernel
theorem dX11_readHead_104 : decode cX11_readHead 104 = .ok (.aload_n 0, 1) := by decide +kernel
theorem dX11_readHead_105 : decode cX11_readHead 105 = .ok (.getfield 121, 3) := by decide +kernel
theorem dX11_readHead_108 : decode cX11_readHead 108 = .ok (.ifCond .ne 26, 3) := by decide +kernel
theorem dX11_readHead_111 : decode cX11_readHead 111 = .ok (.iload_n 3, 1) := by decide +kernel
theorem dX11_readHead_112 : decode cX11_readHead 112 = .ok (.iload 4, 2) := by decide +kernel
theorem dX11_readHead_114 : decode cX11_readHead 114 = .ok (.ifCond .eq 9, 3) := by decide +kernel
theorem dX11_readHead_117 : decode cX11_readHead 117 = .ok (.sipush 300, 3) := by decide +kernel
theorem dX11_readHead_120 : decode cX11_readHead 120 = .ok (.goto 5, 3) := by decide +kernel
theorem dX11_readHead_123 : decode cX11_readHead 123 = .ok (.bipush 60, 2) := by decide +kernel
theorem dX11_readHead_125 : decode cX11_readHead 125 = .ok (.if_icmp .le 9, 3) := by decide +kernel
theorem dX11_readHead_128 : decode cX11_readHead 128 = .ok (.aload_n 0, 1) := by decide +kernel
theorem dX11_readHead_129 : decode cX11_readHead 129 = .ok (.iconst 4, 1) := by decide +kernel
theorem dX11_readHead_130 : decode cX11_readHead 130 = .ok (.iload_n 2, 1) := by decide +kernel
theorem dX11_readHead_131 : decode cX11_readHead 131 = .ok (.invokevirtual 127, 3) := by decide +kernel
theorem dX11_readHead_134 : decode cX11_readHead 134 = .ok (.iload 4, 2) := by decide +kernel
theorem dX11_readHead_136 : decode cX11_readHead 136 = .ok (.ifCond .eq 39, 3) := by decide +kernel
theorem dX11_readHead_139 : decode cX11_readHead 139 = .ok (.iconst 0, 1) := by decide +kernel
theorem dX11_readHead_140 : decode cX11_readHead 140 = .ok (.istore 5, 2) := by decide +kernel
theorem dX11_readHead_142 : decode cX11_readHead 142 = .ok (.iload 5, 2) := by decide +kernel
theorem dX11_readHead_144 : decode cX11_readHead 144 = .ok (.iload_n 3, 1) := by decide +kernel
theorem dX11_readHead_145 : decode cX11_readHead 145 = .ok (.if_icmp .ge 27, 3) := by decide +kernel
theorem dX11_readHead_148 : decode cX11_readHead 148 = .ok (.aload_n 0, 1) := by decide +kernel
theorem dX11_readHead_149 : decode cX11_readHead 149 = .ok (.getfield 121, 3) := by decide +kernel
theorem dX11_readHead_152 : decode cX11_readHead 152 = .ok (.ifCond .ne 20, 3) := by decide +kernel
theorem dX11_readHead_155 : decode cX11_readHead 155 = .ok (.aload_n 0, 1) := by decide +kernel
theorem dX11_readHead_156 : decode cX11_readHead 156 = .ok (.getfield 52, 3) := by decide +kernel
theorem dX11_readHead_159 : decode cX11_readHead 159 = .ok (.iload 5, 2) := by decide +kernel
theorem dX11_readHead_161 : decode cX11_readHead 161 = .ok (.aload_n 0, 1) := by decide +kernel
theorem dX11_readHead_162 : decode cX11_readHead 162 = .ok (.invokevirtual 134, 3) := by decide +kernel
theorem dX11_readHead_165 : decode cX11_readHead 165 = .ok (.iastore, 1) := by decide +kernel
theorem dX11_readHead_166 : decode cX11_readHead 166 = .ok (.iinc 5 1, 3) := by decide +kernel
theorem dX11_readHead_169 : decode cX11_readHead 169 = .ok (.goto (-27), 3) := by decide +kernel
theorem dX11_readHead_172 : decode cX11_readHead 172 = .ok (.goto 19, 3) := by decide +kernel
theorem dX11_readHead_175 : decode cX11_readHead 175 = .ok (.aload_n 0, 1) := by decide +kernel
theorem dX11_readHead_176 : decode cX11_readHead 176 = .ok (.aload_n 0, 1) := by decide +kernel
theorem dX11_readHead_177 : decode cX11_readHead 177 = .ok (.getfield 121, 3) := by decide +kernel
theorem dX11_readHead_180 : decode cX11_readHead 180 = .ok (.ifCond .ne 7, 3) := by decide +kernel
theorem dX11_readHead_183 : decode cX11_readHead 183 = .ok (.iload_n 3, 1) := by decide +kernel
theorem dX11_readHead_184 : decode cX11_readHead 184 = .ok (.goto 4, 3) := by decide +kernel
theorem dX11_readHead_187 : decode cX11_readHead 187 = .ok (.iconst 0, 1) := by decide +kernel
theorem dX11_readHead_188 : decode cX11_readHead 188 = .ok (.invokevirtual 164, 3) := by decide +kernel
theorem dX11_readHead_191 : decode cX11_readHead 191 = .ok (.iload_n 3, 1) := by decide +kernel
theorem dX11_readHead_192 : decode cX11_readHead 192 = .ok (.iconst 2, 1) := by decide +kernel
theorem dX11_readHead_193 : decode cX11_readHead 193 = .ok (.irem, 1) := by decide +kernel
theorem dX11_readHead_194 : decode cX11_readHead 194 = .ok (.iconst 1, 1) := by decide +kernel
theorem dX11_readHead_195 : decode cX11_readHead 195 = .ok (.if_icmp .ne 9, 3) := by decide +kernel
theorem dX11_readHead_198 : decode cX11_readHead 198 = .ok (.aload_n 0, 1) := by decide +kernel
theorem dX11_readHead_199 : decode cX11_readHead 199 = .ok (.bipush 10, 2) := by decide +kernel
theorem dX11_readHead_201 : decode cX11_readHead 201 = .ok (.invokevirtual 158, 3) := by decide +kernel
theorem dX11_readHead_204 : decode cX11_readHead 204 = .ok (.aload_n 0, 1) := by decide +kernel
theorem dX11_readHead_205 : decode cX11_readHead 205 = .ok (.getfield 121, 3) := by decide +kernel
theorem dX11_readHead_208 : decode cX11_readHead 208 = .ok (.ifCond .ne 16, 3) := by decide +kernel
theorem dX11_readHead_211 : decode cX11_readHead 211 = .ok (.iload 4, 2) := by decide +kernel
theorem dX11_readHead_213 : decode cX11_readHead 213 = .ok (.ifCond .eq 11, 3) := by decide +kernel
theorem dX11_readHead_216 : decode cX11_readHead 216 = .ok (.aload_n 0, 1) := by decide +kernel
theorem dX11_readHead_217 : decode cX11_readHead 217 = .ok (.iload_n 3, 1) := by decide +kernel
theorem dX11_readHead_218 : decode cX11_readHead 218 = .ok (.putfield 146, 3) := by decide +kernel
theorem dX11_readHead_221 : decode cX11_readHead 221 = .ok (.goto 30, 3) := by decide +kernel
theorem dX11_readHead_224 : decode cX11_readHead 224 = .ok (.aload_n 0, 1) := by decide +kernel
theorem dX11_readHead_225 : decode cX11_readHead 225 = .ok (.getfield 121, 3) := by decide +kernel
theorem dX11_readHead_228 : decode cX11_readHead 228 = .ok (.ifCond .ne 23, 3) := by decide +kernel
theorem dX11_readHead_231 : decode cX11_readHead 231 = .ok (.aload_n 0, 1) := by decide +kernel
theorem dX11_readHead_232 : decode cX11_readHead 232 = .ok (.getfield 37, 3) := by decide +kernel
theorem dX11_readHead_235 : decode cX11_readHead 235 = .ok (.aload_n 0, 1) := by decide +kernel
theorem dX11_readHead_236 : decode cX11_readHead 236 = .ok (.getfield 137, 3) := by decide +kernel
theorem dX11_readHead_239 : decode cX11_readHead 239 = .ok (.iload_n 3, 1) := by decide +kernel
theorem dX11_readHead_240 : decode cX11_readHead 240 = .ok (.iastore, 1) := by decide +kernel
theorem dX11_readHead_241 : decode cX11_readHead 241 = .ok (.aload_n 0, 1) := by decide +kernel
theorem dX11_readHead_242 : decode cX11_readHead 242 = .ok (.dup, 1) := by decide +kernel
theorem dX11_readHead_243 : decode cX11_readHead 243 = .ok (.getfield 137, 3) := by decide +kernel
theorem dX11_readHead_246 : decode cX11_readHead 246 = .ok (.iconst 1, 1) := by decide +kernel
theorem dX11_readHead_247 : decode cX11_readHead 247 = .ok (.iadd, 1) := by decide +kernel
theorem dX11_readHead_248 : decode cX11_readHead 248 = .ok (.putfield 137, 3) := by decide +kernel
theorem dX11_readHead_251 : decode cX11_readHead 251 = .ok (.return_, 1) := by decide +kernel
theorem dX11_readHeads_0 : decode cX11_readHeads 0 = .ok (.aload_n 0, 1) := by decide +kernel
theorem dX11_readHeads_1 : decode cX11_readHeads 1 = .ok (.bipush 33, 2) := by decide +kernel
theorem dX11_readHeads_3 : decode cX11_readHeads 3 = .ok (.invokevirtual 158, 3) := by decide +kernel
theorem dX11_readHeads_6 : decode cX11_readHeads 6 = .ok (.aload_n 0, 1) := by decide +kernel
theorem dX11_readHeads_7 : decode cX11_readHeads 7 = .ok (.bipush 60, 2) := by decide +kernel
theorem dX11_readHeads_9 : decode cX11_readHeads 9 = .ok (.invokevirtual 158, 3) := by decide +kernel
theorem dX11_readHeads_12 : decode cX11_readHeads 12 = .ok (.aload_n 0, 1) := by decide +kernel
theorem dX11_readHeads_13 : decode cX11_readHeads 13 = .ok (.bipush 97, 2) := by decide +kernel
theorem dX11_readHeads_15 : decode cX11_readHeads 15 = .ok (.invokevirtual 158, 3) := by decide +kernel
theorem dX11_readHeads_18 : decode cX11_readHeads 18 = .ok (.aload_n 0, 1) := by decide +kernel
theorem dX11_readHeads_19 : decode cX11_readHeads 19 = .ok (.bipush 62, 2) := by decide +kernel
theorem dX11_readHeads_21 : decode cX11_readHeads 21 = .ok (.invokevirtual 158, 3) := by decide +kernel
theorem dX11_readHeads_24 : decode cX11_readHeads 24 = .ok (.aload_n 0, 1) := by decide +kernel
theorem dX11_readHeads_25 : decode cX11_readHeads 25 = .ok (.getfield 121, 3) := by decide +kernel
theorem dX11_readHeads_28 : decode cX11_readHeads 28 = .ok (.ifCond .ne 21, 3) := by decide +kernel
theorem dX11_readHeads_31 : decode cX11_readHeads 31 = .ok (.aload_n 0, 1) := by decide +kernel
theorem dX11_readHeads_32 : decode cX11_readHeads 32 = .ok (.getfield 124, 3) := by decide +kernel
theorem dX11_readHeads_35 : decode cX11_readHeads 35 = .ok (.aload_n 0, 1) := by decide +kernel
theorem dX11_readHeads_36 : decode cX11_readHeads 36 = .ok (.getfield 118, 3) := by decide +kernel
theorem dX11_readHeads_39 : decode cX11_readHeads 39 = .ok (.if_icmp .ge 10, 3) := by decide +kernel
theorem dX11_readHeads_42 : decode cX11_readHeads 42 = .ok (.aload_n 0, 1) := by decide +kernel
theorem dX11_readHeads_43 : decode cX11_readHeads 43 = .ok (.invokevirtual 167, 3) := by decide +kernel
theorem dX11_readHeads_46 : decode cX11_readHeads 46 = .ok (.goto (-22), 3) := by decide +kernel
theorem dX11_readHeads_49 : decode cX11_readHeads 49 = .ok (.return_, 1) := by decide +kernel
theorem dX11_readNumber_0 : decode cX11_readNumber 0 = .ok (.aload_n 0, 1) := by decide +kernel
theorem dX11_readNumber_1 : decode cX11_readNumber 1 = .ok (.invokevirtual 149, 3) := by decide +kernel
theorem dX11_readNumber_4 : decode cX11_readNumber 4 = .ok (.aload_n 0, 1) := by decide +kernel
theorem dX11_readNumber_5 : decode cX11_readNumber 5 = .ok (.sipush 199, 3) := by decide +kernel
theorem dX11_readNumber_8 : decode cX11_readNumber 8 = .ok (.invokevirtual 158, 3) := by decide +kernel
theorem dX11_readNumber_11 : decode cX11_readNumber 11 = .ok (.aload_n 0, 1) := by decide +kernel
theorem dX11_readNumber_12 : decode cX11_readNumber 12 = .ok (.bipush 113, 2) := by decide +kernel
theorem dX11_readNumber_14 : decode cX11_readNumber 14 = .ok (.invokevirtual 158, 3) := by decide +kernel
theorem dX11_readNumber_17 : decode cX11_readNumber 17 = .ok (.aload_n 0, 1) := by decide +kernel
theorem dX11_readNumber_18 : decode cX11_readNumber 18 = .ok (.invokevirtual 170, 3) := by decide +kernel
theorem dX11_readNumber_21 : decode cX11_readNumber 21 = .ok (.istore_n 1, 1) := by decide +kernel
theorem dX11_readNumber_22 : decode cX11_readNumber 22 = .ok (.aload_n 0, 1) := by decide +kernel
theorem dX11_readNumber_23 : decode cX11_readNumber 23 = .ok (.invokevirtual 134, 3) := by decide +kernel
theorem dX11_readNumber_26 : decode cX11_readNumber 26 = .ok (.istore_n 2, 1) := by decide +kernel
theorem dX11_readNumber_27 : decode cX11_readNumber 27 = .ok (.aload_n 0, 1) := by decide +kernel
theorem dX11_readNumber_28 : decode cX11_readNumber 28 = .ok (.invokevirtual 134, 3) := by decide +kernel
theorem dX11_readNumber_31 : decode cX11_readNumber 31 = .ok (.istore_n 3, 1) := by decide +kernel
theorem dX11_readNumber_32 : decode cX11_readNumber 32 = .ok (.aload_n 0, 1) := by decide +kernel
theorem dX11_readNumber_33 : decode cX11_readNumber 33 = .ok (.invokevirtual 170, 3) := by decide +kernel
theorem dX11_readNumber_36 : decode cX11_readNumber 36 = .ok (.istore 4, 2) := by decide +kernel
theorem dX11_readNumber_38 : decode cX11_readNumber 38 = .ok (.aload_n 0, 1) := by decide +kernel
theorem dX11_readNumber_39 : decode cX11_readNumber 39 = .ok (.getfield 124, 3) := by decide +kernel
theorem dX11_readNumber_42 : decode cX11_readNumber 42 = .ok (.istore 5, 2) := by decide +kernel
theorem dX11_readNumber_44 : decode cX11_readNumber 44 = .ok (.aload_n 0, 1) := by decide +kernel
theorem dX11_readNumber_45 : decode cX11_readNumber 45 = .ok (.invokevirtual 170, 3) := by decide +kernel
theorem dX11_readNumber_48 : decode cX11_readNumber 48 = .ok (.istore 6, 2) := by decide +kernel
theorem dX11_readNumber_50 : decode cX11_readNumber 50 = .ok (.aload_n 0, 1) := by decide +kernel
theorem dX11_readNumber_51 : decode cX11_readNumber 51 = .ok (.getfield 121, 3) := by decide +kernel
theorem dX11_readNumber_54 : decode cX11_readNumber 54 = .ok (.ifCond .ne 16, 3) := by decide +kernel
theorem dX11_readNumber_57 : decode cX11_readNumber 57 = .ok (.iload_n 2, 1) := by decide +kernel
theorem dX11_readNumber_58 : decode cX11_readNumber 58 = .ok (.ifCond .ne 12, 3) := by decide +kernel
theorem dX11_readNumber_61 : decode cX11_readNumber 61 = .ok (.aload_n 0, 1) := by decide +kernel
theorem dX11_readNumber_62 : decode cX11_readNumber 62 = .ok (.iconst 4, 1) := by decide +kernel
theorem dX11_readNumber_63 : decode cX11_readNumber 63 = .ok (.iload 5, 2) := by decide +kernel
theorem dX11_readNumber_65 : decode cX11_readNumber 65 = .ok (.iconst 4, 1) := by decide +kernel
theorem dX11_readNumber_66 : decode cX11_readNumber 66 = .ok (.isub, 1) := by decide +kernel
theorem dX11_readNumber_67 : decode cX11_readNumber 67 = .ok (.invokevirtual 127, 3) := by decide +kernel
theorem dX11_readNumber_70 : decode cX11_readNumber 70 = .ok (.aload_n 0, 1) := by decide +kernel
theorem dX11_readNumber_71 : decode cX11_readNumber 71 = .ok (.getfield 121, 3) := by decide +kernel
theorem dX11_readNumber_74 : decode cX11_readNumber 74 = .ok (.ifCond .ne 18, 3) := by decide +kernel
theorem dX11_readNumber_77 : decode cX11_readNumber 77 = .ok (.iload_n 3, 1) := by decide +kernel
theorem dX11_readNumber_78 : decode cX11_readNumber 78 = .ok (.bipush 127, 2) := by decide +kernel
theorem dX11_readNumber_80 : decode cX11_readNumber 80 = .ok (.if_icmp .le 12, 3) := by decide +kernel
theorem dX11_readNumber_83 : decode cX11_readNumber 83 = .ok (.aload_n 0, 1) := by decide +kernel
theorem dX11_readNumber_84 : decode cX11_readNumber 84 = .ok (.iconst 3, 1) := by decide +kernel
theorem dX11_readNumber_85 : decode cX11_readNumber 85 = .ok (.iload 5, 2) := by decide +kernel
theorem dX11_readNumber_87 : decode cX11_readNumber 87 = .ok (.iconst 3, 1) := by decide +kernel
theorem dX11_readNumber_88 : decode cX11_readNumber 88 = .ok (.isub, 1) := by decide +kernel
theorem dX11_readNumber_89 : decode cX11_readNumber 89 = .ok (.invokevirtual 127, 3) := by decide +kernel
theorem dX11_readNumber_92 : decode cX11_readNumber 92 = .ok (.aload_n 0, 1) := by decide +kernel
theorem dX11_readNumber_93 : decode cX11_readNumber 93 = .ok (.getfield 121, 3) := by decide +kernel
theorem dX11_readNumber_96 : decode cX11_readNumber 96 = .ok (.ifCond .ne 20, 3) := by decide +kernel
theorem dX11_readNumber_99 : decode cX11_readNumber 99 = .ok (.iload 4, 2) := by decide +kernel
theorem dX11_readNumber_101 : decode cX11_readNumber 101 = .ok (.sipush 32767, 3) := by decide +kernel
theorem dX11_readNumber_104 : decode cX11_readNumber 104 = .ok (.if_icmp .le 12, 3) := by decide +kernel
theorem dX11_readNumber_107 : decode cX11_readNumber 107 = .ok (.aload_n 0, 1) := by decide +kernel
theorem dX11_readNumber_108 : decode cX11_readNumber 108 = .ok (.iconst 3, 1) := by decide +kernel
theorem dX11_readNumber_109 : decode cX11_readNumber 109 = .ok (.iload 5, 2) := by decide +kernel
theorem dX11_readNumber_111 : decode cX11_readNumber 111 = .ok (.iconst 2, 1) := by decide +kernel
theorem dX11_readNumber_112 : decode cX11_readNumber 112 = .ok (.isub, 1) := by decide +kernel
theorem dX11_readNumber_113 : decode cX11_readNumber 113 = .ok (.invokevirtual 127, 3) := by decide +kernel
theorem dX11_readNumber_116 : decode cX11_readNumber 116 = .ok (.aload_n 0, 1) := by decide +kernel
theorem dX11_readNumber_117 : decode cX11_readNumber 117 = .ok (.getfield 121, 3) := by decide +kernel
theorem dX11_readNumber_120 : decode cX11_readNumber 120 = .ok (.ifCond .ne 22, 3) := by decide +kernel
theorem dX11_readNumber_123 : decode cX11_readNumber 123 = .ok (.iload_n 3, 1) := by decide +kernel
theorem dX11_readNumber_124 : decode cX11_readNumber 124 = .ok (.iconst 2, 1) := by decide +kernel
theorem dX11_readNumber_125 : decode cX11_readNumber 125 = .ok (.bipush 21, 2) := by decide +kernel
theorem dX11_readNumber_127 : decode cX11_readNumber 127 = .ok (.invokestatic 62, 3) := by decide +kernel
theorem dX11_readNumber_130 : decode cX11_readNumber 130 = .ok (.ifCond .ne 12, 3) := by decide +kernel
theorem dX11_readNumber_133 : decode cX11_readNumber 133 = .ok (.aload_n 0, 1) := by decide +kernel
theorem dX11_readNumber_134 : decode cX11_readNumber 134 = .ok (.iconst 4, 1) := by decide +kernel
theorem dX11_readNumber_135 : decode cX11_readNumber 135 = .ok (.iload 5, 2) := by decide +kernel
theorem dX11_readNumber_137 : decode cX11_readNumber 137 = .ok (.iconst 3, 1) := by decide +kernel
theorem dX11_readNumber_138 : decode cX11_readNumber 138 = .ok (.isub, 1) := by decide +kernel
theorem dX11_readNumber_139 : decode cX11_readNumber 139 = .ok (.invokevirtual 127, 3) := by decide +kernel
theorem dX11_readNumber_142 : decode cX11_readNumber 142 = .ok (.aload_n 0, 1) := by decide +kernel
theorem dX11_readNumber_143 : decode cX11_readNumber 143 = .ok (.getfield 121, 3) := by decide +kernel
theorem dX11_readNumber_146 : decode cX11_readNumber 146 = .ok (.ifCond .ne 19, 3) := by decide +kernel
theorem dX11_readNumber_149 : decode cX11_readNumber 149 = .ok (.iload 4, 2) := by decide +kernel
theorem dX11_readNumber_151 : decode cX11_readNumber 151 = .ok (.bipush 60, 2) := by decide +kernel
theorem dX11_readNumber_153 : decode cX11_readNumber 153 = .ok (.if_icmp .le 12, 3) := by decide +kernel
theorem dX11_readNumber_156 : decode cX11_readNumber 156 = .ok (.aload_n 0, 1) := by decide +kernel
theorem dX11_readNumber_157 : decode cX11_readNumber 157 = .ok (.iconst 4, 1) := by decide +kernel
theorem dX11_readNumber_158 : decode cX11_readNumber 158 = .ok (.iload 5, 2) := by decide +kernel
theorem dX11_readNumber_160 : decode cX11_readNumber 160 = .ok (.iconst 2, 1) := by decide +kernel
theorem dX11_readNumber_161 : decode cX11_readNumber 161 = .ok (.isub, 1) := by decide +kernel
theorem dX11_readNumber_162 : decode cX11_readNumber 162 = .ok (.invokevirtual 127, 3) := by decide +kernel
theorem dX11_readNumber_165 : decode cX11_readNumber 165 = .ok (.iconst 0, 1) := by decide +kernel
theorem dX11_readNumber_166 : decode cX11_readNumber 166 = .ok (.istore 7, 2) := by decide +kernel
theorem dX11_readNumber_168 : decode cX11_readNumber 168 = .ok (.iload 7, 2) := by decide +kernel
theorem dX11_readNumber_170 : decode cX11_readNumber 170 = .ok (.iload_n 3, 1) := by decide +kernel
theorem dX11_readNumber_171 : decode cX11_readNumber 171 = .ok (.iconst 1, 1) := by decide +kernel
theorem dX11_readNumber_172 : decode cX11_readNumber 172 = .ok (.isub, 1) := by decide +kernel
theorem dX11_readNumber_173 : decode cX11_readNumber 173 = .ok (.if_icmp .ge 73, 3) := by decide +kernel
theorem dX11_readNumber_176 : decode cX11_readNumber 176 = .ok (.aload_n 0, 1) := by decide +kernel
theorem dX11_readNumber_177 : decode cX11_readNumber 177 = .ok (.getfield 121, 3) := by decide +kernel
theorem dX11_readNumber_180 : decode cX11_readNumber 180 = .ok (.ifCond .ne 66, 3) := by decide +kernel
theorem dX11_readNumber_183 : decode cX11_readNumber 183 = .ok (.aload_n 0, 1) := by decide +kernel
theorem dX11_readNumber_184 : decode cX11_readNumber 184 = .ok (.invokevirtual 130, 3) := by decide +kernel
theorem dX11_readNumber_187 : decode cX11_readNumber 187 = .ok (.istore 8, 2) := by decide +kernel
theorem dX11_readNumber_189 : decode cX11_readNumber 189 = .ok (.aload_n 0, 1) := by decide +kernel
theorem dX11_readNumber_190 : decode cX11_readNumber 190 = .ok (.getfield 121, 3) := by decide +kernel
theorem dX11_readNumber_193 : decode cX11_readNumber 193 = .ok (.ifCond .ne 20, 3) := by decide +kernel
theorem dX11_readNumber_196 : decode cX11_readNumber 196 = .ok (.iload 8, 2) := by decide +kernel
theorem dX11_readNumber_198 : decode cX11_readNumber 198 = .ok (.invokestatic 73, 3) := by decide +kernel
theorem dX11_readNumber_201 : decode cX11_readNumber 201 = .ok (.ifCond .ne 12, 3) := by decide +kernel
theorem dX11_readNumber_204 : decode cX11_readNumber 204 = .ok (.aload_n 0, 1) := by decide +kernel
theorem dX11_readNumber_205 : decode cX11_readNumber 205 = .ok (.iconst 4, 1) := by decide +kernel
theorem dX11_readNumber_206 : decode cX11_readNumber 206 = .ok (.aload_n 0, 1) := by decide +kernel
theorem dX11_readNumber_207 : decode cX11_readNumber 207 = .ok (.getfield 124, 3) := by decide +kernel
theorem dX11_readNumber_210 : decode cX11_readNumber 210 = .ok (.invokevirtual 127, 3) := by decide +kernel
theorem dX11_readNumber_213 : decode cX11_readNumber 213 = .ok (.aload_n 0, 1) := by decide +kernel
theorem dX11_readNumber_214 : decode cX11_readNumber 214 = .ok (.getfield 34, 3) := by decide +kernel
theorem dX11_readNumber_217 : decode cX11_readNumber 217 = .ok (.bipush 20, 2) := by decide +kernel
theorem dX11_readNumber_219 : decode cX11_readNumber 219 = .ok (.aload_n 0, 1) := by decide +kernel
theorem dX11_readNumber_220 : decode cX11_readNumber 220 = .ok (.getfield 137, 3) := by decide +kernel
theorem dX11_readNumber_223 : decode cX11_readNumber 223 = .ok (.imul, 1) := by decide +kernel
theorem dX11_readNumber_224 : decode cX11_readNumber 224 = .ok (.iload 7, 2) := by decide +kernel
theorem dX11_readNumber_226 : decode cX11_readNumber 226 = .ok (.iadd, 1) := by decide +kernel
theorem dX11_readNumber_227 : decode cX11_readNumber 227 = .ok (.iload 8, 2) := by decide +kernel
theorem dX11_readNumber_229 : decode cX11_readNumber 229 = .ok (.iastore, 1) := by decide +kernel
theorem dX11_readNumber_230 : decode cX11_readNumber 230 = .ok (.aload_n 0, 1) := by decide +kernel
theorem dX11_readNumber_231 : decode cX11_readNumber 231 = .ok (.dup, 1) := by decide +kernel
theorem dX11_readNumber_232 : decode cX11_readNumber 232 = .ok (.getfield 124, 3) := by decide +kernel
theorem dX11_readNumber_235 : decode cX11_readNumber 235 = .ok (.iconst 1, 1) := by decide +kernel
theorem dX11_readNumber_236 : decode cX11_readNumber 236 = .ok (.iadd, 1) := by decide +kernel
theorem dX11_readNumber_237 : decode cX11_readNumber 237 = .ok (.putfield 124, 3) := by decide +kernel
theorem dX11_readNumber_240 : decode cX11_readNumber 240 = .ok (.iinc 7 1, 3) := by decide +kernel
theorem dX11_readNumber_243 : decode cX11_readNumber 243 = .ok (.goto (-75), 3) := by decide +kernel
theorem dX11_readNumber_246 : decode cX11_readNumber 246 = .ok (.aload_n 0, 1) := by decide +kernel
theorem dX11_readNumber_247 : decode cX11_readNumber 247 = .ok (.iconst 0, 1) := by decide +kernel
theorem dX11_readNumber_248 : decode cX11_readNumber 248 = .ok (.invokevirtual 158, 3) := by decide +kernel
theorem dX11_readNumber_251 : decode cX11_readNumber 251 = .ok (.aload_n 0, 1) := by decide +kernel
theorem dX11_readNumber_252 : decode cX11_readNumber 252 = .ok (.getfield 121, 3) := by decide +kernel
theorem dX11_readNumber_255 : decode cX11_readNumber 255 = .ok (.ifCond .ne 15, 3) := by decide +kernel
theorem dX11_readNumber_258 : decode cX11_readNumber 258 = .ok (.iload_n 3, 1) := by decide +kernel
theorem dX11_readNumber_259 : decode cX11_readNumber 259 = .ok (.iconst 2, 1) := by decide +kernel
theorem dX11_readNumber_260 : decode cX11_readNumber 260 = .ok (.irem, 1) := by decide +kernel
theorem dX11_readNumber_261 : decode cX11_readNumber 261 = .ok (.iconst 1, 1) := by decide +kernel
theorem dX11_readNumber_262 : decode cX11_readNumber 262 = .ok (.if_icmp .ne 8, 3) := by decide +kernel
theorem dX11_readNumber_265 : decode cX11_readNumber 265 = .ok (.aload_n 0, 1) := by decide +kernel
theorem dX11_readNumber_266 : decode cX11_readNumber 266 = .ok (.iconst 0, 1) := by decide +kernel
theorem dX11_readNumber_267 : decode cX11_readNumber 267 = .ok (.invokevirtual 158, 3) := by decide +kernel
theorem dX11_readNumber_270 : decode cX11_readNumber 270 = .ok (.aload_n 0, 1) := by decide +kernel
theorem dX11_readNumber_271 : decode cX11_readNumber 271 = .ok (.aload_n 0, 1) := by decide +kernel
theorem dX11_readNumber_272 : decode cX11_readNumber 272 = .ok (.getfield 121, 3) := by decide +kernel
theorem dX11_readNumber_275 : decode cX11_readNumber 275 = .ok (.ifCond .ne 8, 3) := by decide +kernel
theorem dX11_readNumber_278 : decode cX11_readNumber 278 = .ok (.iload 4, 2) := by decide +kernel
theorem dX11_readNumber_280 : decode cX11_readNumber 280 = .ok (.goto 4, 3) := by decide +kernel
theorem dX11_readNumber_283 : decode cX11_readNumber 283 = .ok (.iconst 0, 1) := by decide +kernel
theorem dX11_readNumber_284 : decode cX11_readNumber 284 = .ok (.invokevirtual 164, 3) := by decide +kernel
theorem dX11_readNumber_287 : decode cX11_readNumber 287 = .ok (.iconst 0, 1) := by decide +kernel
theorem dX11_readNumber_288 : decode cX11_readNumber 288 = .ok (.istore 7, 2) := by decide +kernel
theorem dX11_readNumber_290 : decode cX11_readNumber 290 = .ok (.iconst 0, 1) := by decide +kernel
theorem dX11_readNumber_291 : decode cX11_readNumber 291 = .ok (.istore 8, 2) := by decide +kernel
theorem dX11_readNumber_293 : decode cX11_readNumber 293 = .ok (.iload 8, 2) := by decide +kernel
theorem dX11_readNumber_295 : decode cX11_readNumber 295 = .ok (.iload 4, 2) := by decide +kernel
theorem dX11_readNumber_297 : decode cX11_readNumber 297 = .ok (.if_icmp .ge 36, 3) := by decide +kernel
theorem dX11_readNumber_300 : decode cX11_readNumber 300 = .ok (.aload_n 0, 1) := by decide +kernel
theorem dX11_readNumber_301 : decode cX11_readNumber 301 = .ok (.getfield 121, 3) := by decide +kernel
theorem dX11_readNumber_304 : decode cX11_readNumber 304 = .ok (.ifCond .ne 29, 3) := by decide +kernel
theorem dX11_readNumber_307 : decode cX11_readNumber 307 = .ok (.iload 7, 2) := by decide +kernel
theorem dX11_readNumber_309 : decode cX11_readNumber 309 = .ok (.aload_n 0, 1) := by decide +kernel
theorem dX11_readNumber_310 : decode cX11_readNumber 310 = .ok (.getfield 40, 3) := by decide +kernel
theorem dX11_readNumber_313 : decode cX11_readNumber 313 = .ok (.bipush 60, 2) := by decide +kernel
theorem dX11_readNumber_315 : decode cX11_readNumber 315 = .ok (.aload_n 0, 1) := by decide +kernel
theorem dX11_readNumber_316 : decode cX11_readNumber 316 = .ok (.getfield 137, 3) := by decide +kernel
theorem dX11_readNumber_319 : decode cX11_readNumber 319 = .ok (.imul, 1) := by decide +kernel
theorem dX11_readNumber_320 : decode cX11_readNumber 320 = .ok (.iload 8, 2) := by decide +kernel
theorem dX11_readNumber_322 : decode cX11_readNumber 322 = .ok (.iadd, 1) := by decide +kernel
theorem dX11_readNumber_323 : decode cX11_readNumber 323 = .ok (.iaload, 1) := by decide +kernel
theorem dX11_readNumber_324 : decode cX11_readNumber 324 = .ok (.iadd, 1) := by decide +kernel
theorem dX11_readNumber_325 : decode cX11_readNumber 325 = .ok (.istore 7, 2) := by decide +kernel
theorem dX11_readNumber_327 : decode cX11_readNumber 327 = .ok (.iinc 8 1, 3) := by decide +kernel
theorem dX11_readNumber_330 : decode cX11_readNumber 330 = .ok (.goto (-37), 3) := by decide +kernel
theorem dX11_readNumber_333 : decode cX11_readNumber 333 = .ok (.aload_n 0, 1) := by decide +kernel
theorem dX11_readNumber_334 : decode cX11_readNumber 334 = .ok (.getfield 121, 3) := by decide +kernel
theorem dX11_readNumber_337 : decode cX11_readNumber 337 = .ok (.ifCond .ne 20, 3) := by decide +kernel
theorem dX11_readNumber_340 : decode cX11_readNumber 340 = .ok (.iload 7, 2) := by decide +kernel
theorem dX11_readNumber_342 : decode cX11_readNumber 342 = .ok (.ldc 97, 2) := by decide +kernel
theorem dX11_readNumber_344 : decode cX11_readNumber 344 = .ok (.iand, 1) := by decide +kernel
theorem dX11_readNumber_345 : decode cX11_readNumber 345 = .ok (.iload 6, 2) := by decide +kernel
theorem dX11_readNumber_347 : decode cX11_readNumber 347 = .ok (.if_icmp .eq 10, 3) := by decide +kernel
theorem dX11_readNumber_350 : decode cX11_readNumber 350 = .ok (.aload_n 0, 1) := by decide +kernel
theorem dX11_readNumber_351 : decode cX11_readNumber 351 = .ok (.iconst 5, 1) := by decide +kernel
theorem dX11_readNumber_352 : decode cX11_readNumber 352 = .ok (.iload 5, 2) := by decide +kernel
theorem dX11_readNumber_354 : decode cX11_readNumber 354 = .ok (.invokevirtual 127, 3) := by decide +kernel
theorem dX11_readNumber_357 : decode cX11_readNumber 357 = .ok (.aload_n 0, 1) := by decide +kernel
theorem dX11_readNumber_358 : decode cX11_readNumber 358 = .ok (.getfield 121, 3) := by decide +kernel
theorem dX11_readNumber_361 : decode cX11_readNumber 361 = .ok (.ifCond .ne 16, 3) := by decide +kernel
theorem dX11_readNumber_364 : decode cX11_readNumber 364 = .ok (.iload 4, 2) := by decide +kernel
theorem dX11_readNumber_366 : decode cX11_readNumber 366 = .ok (.iconst 2, 1) := by decide +kernel
theorem dX11_readNumber_367 : decode cX11_readNumber 367 = .ok (.irem, 1) := by decide +kernel
theorem dX11_readNumber_368 : decode cX11_readNumber 368 = .ok (.iconst 1, 1) := by decide +kernel
theorem dX11_readNumber_369 : decode cX11_readNumber 369 = .ok (.if_icmp .ne 8, 3) := by decide +kernel
theorem dX11_readNumber_372 : decode cX11_readNumber 372 = .ok (.aload_n 0, 1) := by decide +kernel
theorem dX11_readNumber_373 : decode cX11_readNumber 373 = .ok (.iconst 0, 1) := by decide +kernel
theorem dX11_readNumber_374 : decode cX11_readNumber 374 = .ok (.invokevirtual 158, 3) := by decide +kernel
theorem dX11_readNumber_377 : decode cX11_readNumber 377 = .ok (.aload_n 0, 1) := by decide +kernel
theorem dX11_readNumber_378 : decode cX11_readNumber 378 = .ok (.getfield 121, 3) := by decide +kernel
theorem dX11_readNumber_381 : decode cX11_readNumber 381 = .ok (.ifCond .eq 5, 3) := by decide +kernel
theorem dX11_readNumber_384 : decode cX11_readNumber 384 = .ok (.iconst 0, 1) := by decide +kernel
theorem dX11_readNumber_385 : decode cX11_readNumber 385 = .ok (.ireturn, 1) := by decide +kernel
theorem dX11_readNumber_386 : decode cX11_readNumber 386 = .ok (.aload_n 0, 1) := by decide +kernel
theorem dX11_readNumber_387 : decode cX11_readNumber 387 = .ok (.getfield 34, 3) := by decide +kernel
theorem dX11_readNumber_390 : decode cX11_readNumber 390 = .ok (.bipush 20, 2) := by decide +kernel
theorem dX11_readNumber_392 : decode cX11_readNumber 392 = .ok (.aload_n 0, 1) := by decide +kernel
theorem dX11_readNumber_393 : decode cX11_readNumber 393 = .ok (.getfield 137, 3) := by decide +kernel
theorem dX11_readNumber_396 : decode cX11_readNumber 396 = .ok (.imul, 1) := by decide +kernel
theorem dX11_readNumber_397 : decode cX11_readNumber 397 = .ok (.iload_n 3, 1) := by decide +kernel
theorem dX11_readNumber_398 : decode cX11_readNumber 398 = .ok (.iconst 1, 1) := by decide +kernel
theorem dX11_readNumber_399 : decode cX11_readNumber 399 = .ok (.isub, 1) := by decide +kernel
theorem dX11_readNumber_400 : decode cX11_readNumber 400 = .ok (.invokestatic 105, 3) := by decide +kernel
theorem dX11_readNumber_403 : decode cX11_readNumber 403 = .ok (.ifCond .eq 5, 3) := by decide +kernel
theorem dX11_readNumber_406 : decode cX11_readNumber 406 = .ok (.iconst 1, 1) := by decide +kernel
theorem dX11_readNumber_407 : decode cX11_readNumber 407 = .ok (.ireturn, 1) := by decide +kernel
theorem dX11_readNumber_408 : decode cX11_readNumber 408 = .ok (.aload_n 0, 1) := by decide +kernel
theorem dX11_readNumber_409 : decode cX11_readNumber 409 = .ok (.getfield 31, 3) := by decide +kernel
theorem dX11_readNumber_412 : decode cX11_readNumber 412 = .ok (.aload_n 0, 1) := by decide +kernel
theorem dX11_readNumber_413 : decode cX11_readNumber 413 = .ok (.getfield 137, 3) := by decide +kernel
theorem dX11_readNumber_416 : decode cX11_readNumber 416 = .ok (.iload_n 3, 1) := by decide +kernel
theorem dX11_readNumber_417 : decode cX11_readNumber 417 = .ok (.iconst 1, 1) := by decide +kernel
theorem dX11_readNumber_418 : decode cX11_readNumber 418 = .ok (.isub, 1) := by decide +kernel
theorem dX11_readNumber_419 : decode cX11_readNumber 419 = .ok (.iastore, 1) := by decide +kernel
theorem dX11_readNumber_420 : decode cX11_readNumber 420 = .ok (.aload_n 0, 1) := by decide +kernel
theorem dX11_readNumber_421 : decode cX11_readNumber 421 = .ok (.getfield 37, 3) := by decide +kernel
theorem dX11_readNumber_424 : decode cX11_readNumber 424 = .ok (.aload_n 0, 1) := by decide +kernel
theorem dX11_readNumber_425 : decode cX11_readNumber 425 = .ok (.getfield 137, 3) := by decide +kernel
theorem dX11_readNumber_428 : decode cX11_readNumber 428 = .ok (.iload 4, 2) := by decide +kernel
theorem dX11_readNumber_430 : decode cX11_readNumber 430 = .ok (.iastore, 1) := by decide +kernel
theorem dX11_readNumber_431 : decode cX11_readNumber 431 = .ok (.aload_n 0, 1) := by decide +kernel
theorem dX11_readNumber_432 : decode cX11_readNumber 432 = .ok (.getfield 46, 3) := by decide +kernel
theorem dX11_readNumber_435 : decode cX11_readNumber 435 = .ok (.aload_n 0, 1) := by decide +kernel
theorem dX11_readNumber_436 : decode cX11_readNumber 436 = .ok (.getfield 137, 3) := by decide +kernel
theorem dX11_readNumber_439 : decode cX11_readNumber 439 = .ok (.iload_n 1, 1) := by decide +kernel
theorem dX11_readNumber_440 : decode cX11_readNumber 440 = .ok (.iastore, 1) := by decide +kernel
theorem dX11_readNumber_441 : decode cX11_readNumber 441 = .ok (.aload_n 0, 1) := by decide +kernel
theorem dX11_readNumber_442 : decode cX11_readNumber 442 = .ok (.getfield 49, 3) := by decide +kernel
theorem dX11_readNumber_445 : decode cX11_readNumber 445 = .ok (.aload_n 0, 1) := by decide +kernel
theorem dX11_readNumber_446 : decode cX11_readNumber 446 = .ok (.getfield 137, 3) := by decide +kernel
theorem dX11_readNumber_449 : decode cX11_readNumber 449 = .ok (.iload_n 2, 1) := by decide +kernel
theorem dX11_readNumber_450 : decode cX11_readNumber 450 = .ok (.iastore, 1) := by decide +kernel
theorem dX11_readNumber_451 : decode cX11_readNumber 451 = .ok (.aload_n 0, 1) := by decide +kernel
theorem dX11_readNumber_452 : decode cX11_readNumber 452 = .ok (.dup, 1) := by decide +kernel
theorem dX11_readNumber_453 : decode cX11_readNumber 453 = .ok (.getfield 137, 3) := by decide +kernel
theorem dX11_readNumber_456 : decode cX11_readNumber 456 = .ok (.iconst 1, 1) := by decide +kernel
theorem dX11_readNumber_457 : decode cX11_readNumber 457 = .ok (.iadd, 1) := by decide +kernel
theorem dX11_readNumber_458 : decode cX11_readNumber 458 = .ok (.putfield 137, 3) := by decide +kernel
theorem dX11_readNumber_461 : decode cX11_readNumber 461 = .ok (.iconst 0, 1) := by decide +kernel
theorem dX11_readNumber_462 : decode cX11_readNumber 462 = .ok (.ireturn, 1) := by decide +kernel
theorem dX11_readNumbers_0 : decode cX11_readNumbers 0 = .ok (.iconst 0, 1) := by decide +kernel
theorem dX11_readNumbers_1 : decode cX11_readNumbers 1 = .ok (.istore_n 1, 1) := by decide +kernel
theorem dX11_readNumbers_2 : decode cX11_readNumbers 2 = .ok (.aload_n 0, 1) := by decide +kernel
theorem dX11_readNumbers_3 : decode cX11_readNumbers 3 = .ok (.getfield 121, 3) := by decide +kernel
theorem dX11_readNumbers_6 : decode cX11_readNumbers 6 = .ok (.ifCond .ne 15, 3) := by decide +kernel
theorem dX11_readNumbers_9 : decode cX11_readNumbers 9 = .ok (.iload_n 1, 1) := by decide +kernel
theorem dX11_readNumbers_10 : decode cX11_readNumbers 10 = .ok (.ifCond .ne 11, 3) := by decide +kernel
theorem dX11_readNumbers_13 : decode cX11_readNumbers 13 = .ok (.aload_n 0, 1) := by decide +kernel
theorem dX11_readNumbers_14 : decode cX11_readNumbers 14 = .ok (.invokevirtual 173, 3) := by decide +kernel
theorem dX11_readNumbers_17 : decode cX11_readNumbers 17 = .ok (.istore_n 1, 1) := by decide +kernel
theorem dX11_readNumbers_18 : decode cX11_readNumbers 18 = .ok (.goto (-16), 3) := by decide +kernel
theorem dX11_readNumbers_21 : decode cX11_readNumbers 21 = .ok (.aload_n 0, 1) := by decide +kernel
theorem dX11_readNumbers_22 : decode cX11_readNumbers 22 = .ok (.getfield 121, 3) := by decide +kernel
theorem dX11_readNumbers_25 : decode cX11_readNumbers 25 = .ok (.ifCond .ne 22, 3) := by decide +kernel
theorem dX11_readNumbers_28 : decode cX11_readNumbers 28 = .ok (.aload_n 0, 1) := by decide +kernel
theorem dX11_readNumbers_29 : decode cX11_readNumbers 29 = .ok (.getfield 124, 3) := by decide +kernel
theorem dX11_readNumbers_32 : decode cX11_readNumbers 32 = .ok (.aload_n 0, 1) := by decide +kernel
theorem dX11_readNumbers_33 : decode cX11_readNumbers 33 = .ok (.getfield 118, 3) := by decide +kernel
theorem dX11_readNumbers_36 : decode cX11_readNumbers 36 = .ok (.if_icmp .ge 11, 3) := by decide +kernel
theorem dX11_readNumbers_39 : decode cX11_readNumbers 39 = .ok (.aload_n 0, 1) := by decide +kernel
theorem dX11_readNumbers_40 : decode cX11_readNumbers 40 = .ok (.iconst 0, 1) := by decide +kernel
theorem dX11_readNumbers_41 : decode cX11_readNumbers 41 = .ok (.invokevirtual 158, 3) := by decide +kernel
theorem dX11_readNumbers_44 : decode cX11_readNumbers 44 = .ok (.goto (-23), 3) := by decide +kernel
theorem dX11_readNumbers_47 : decode cX11_readNumbers 47 = .ok (.iconst 0, 1) := by decide +kernel
theorem dX11_readNumbers_48 : decode cX11_readNumbers 48 = .ok (.istore_n 2, 1) := by decide +kernel
theorem dX11_readNumbers_49 : decode cX11_readNumbers 49 = .ok (.iload_n 2, 1) := by decide +kernel
theorem dX11_readNumbers_50 : decode cX11_readNumbers 50 = .ok (.aload_n 0, 1) := by decide +kernel
theorem dX11_readNumbers_51 : decode cX11_readNumbers 51 = .ok (.getfield 137, 3) := by decide +kernel
theorem dX11_readNumbers_54 : decode cX11_readNumbers 54 = .ok (.if_icmp .ge 108, 3) := by decide +kernel
theorem dX11_readNumbers_57 : decode cX11_readNumbers 57 = .ok (.aload_n 0, 1) := by decide +kernel
theorem dX11_readNumbers_58 : decode cX11_readNumbers 58 = .ok (.getfield 121, 3) := by decide +kernel
theorem dX11_readNumbers_61 : decode cX11_readNumbers 61 = .ok (.ifCond .ne 101, 3) := by decide +kernel
theorem dX11_readNumbers_64 : decode cX11_readNumbers 64 = .ok (.iconst 0, 1) := by decide +kernel
theorem dX11_readNumbers_65 : decode cX11_readNumbers 65 = .ok (.istore_n 3, 1) := by decide +kernel
theorem dX11_readNumbers_66 : decode cX11_readNumbers 66 = .ok (.iconst 0, 1) := by decide +kernel
theorem dX11_readNumbers_67 : decode cX11_readNumbers 67 = .ok (.istore 4, 2) := by decide +kernel
theorem dX11_readNumbers_69 : decode cX11_readNumbers 69 = .ok (.iload 4, 2) := by decide +kernel
theorem dX11_readNumbers_71 : decode cX11_readNumbers 71 = .ok (.aload_n 0, 1) := by decide +kernel
theorem dX11_readNumbers_72 : decode cX11_readNumbers 72 = .ok (.getfield 137, 3) := by decide +kernel
theorem dX11_readNumbers_75 : decode cX11_readNumbers 75 = .ok (.if_icmp .ge 49, 3) := by decide +kernel
theorem dX11_readNumbers_78 : decode cX11_readNumbers 78 = .ok (.iload_n 3, 1) := by decide +kernel
theorem dX11_readNumbers_79 : decode cX11_readNumbers 79 = .ok (.aload_n 0, 1) := by decide +kernel
theorem dX11_readNumbers_80 : decode cX11_readNumbers 80 = .ok (.getfield 46, 3) := by decide +kernel
theorem dX11_readNumbers_83 : decode cX11_readNumbers 83 = .ok (.iload 4, 2) := by decide +kernel
theorem dX11_readNumbers_85 : decode cX11_readNumbers 85 = .ok (.iaload, 1) := by decide +kernel
theorem dX11_readNumbers_86 : decode cX11_readNumbers 86 = .ok (.aload_n 0, 1) := by decide +kernel
theorem dX11_readNumbers_87 : decode cX11_readNumbers 87 = .ok (.getfield 46, 3) := by decide +kernel
theorem dX11_readNumbers_90 : decode cX11_readNumbers 90 = .ok (.iload_n 2, 1) := by decide +kernel
theorem dX11_readNumbers_91 : decode cX11_readNumbers 91 = .ok (.iaload, 1) := by decide +kernel
theorem dX11_readNumbers_92 : decode cX11_readNumbers 92 = .ok (.if_icmp .ne 23, 3) := by decide +kernel
theorem dX11_readNumbers_95 : decode cX11_readNumbers 95 = .ok (.aload_n 0, 1) := by decide +kernel
theorem dX11_readNumbers_96 : decode cX11_readNumbers 96 = .ok (.getfield 49, 3) := by decide +kernel
theorem dX11_readNumbers_99 : decode cX11_readNumbers 99 = .ok (.iload 4, 2) := by decide +kernel
theorem dX11_readNumbers_101 : decode cX11_readNumbers 101 = .ok (.iaload, 1) := by decide +kernel
theorem dX11_readNumbers_102 : decode cX11_readNumbers 102 = .ok (.aload_n 0, 1) := by decide +kernel
theorem dX11_readNumbers_103 : decode cX11_readNumbers 103 = .ok (.getfield 49, 3) := by decide +kernel
theorem dX11_readNumbers_106 : decode cX11_readNumbers 106 = .ok (.iload_n 2, 1) := by decide +kernel
theorem dX11_readNumbers_107 : decode cX11_readNumbers 107 = .ok (.iaload, 1) := by decide +kernel
theorem dX11_readNumbers_108 : decode cX11_readNumbers 108 = .ok (.if_icmp .ne 7, 3) := by decide +kernel
theorem dX11_readNumbers_111 : decode cX11_readNumbers 111 = .ok (.iconst 1, 1) := by decide +kernel
theorem dX11_readNumbers_112 : decode cX11_readNumbers 112 = .ok (.goto 4, 3) := by decide +kernel
theorem dX11_readNumbers_115 : decode cX11_readNumbers 115 = .ok (.iconst 0, 1) := by decide +kernel
theorem dX11_readNumbers_116 : decode cX11_readNumbers 116 = .ok (.iadd, 1) := by decide +kernel
theorem dX11_readNumbers_117 : decode cX11_readNumbers 117 = .ok (.istore_n 3, 1) := by decide +kernel
theorem dX11_readNumbers_118 : decode cX11_readNumbers 118 = .ok (.iinc 4 1, 3) := by decide +kernel
theorem dX11_readNumbers_121 : decode cX11_readNumbers 121 = .ok (.goto (-52), 3) := by decide +kernel
theorem dX11_readNumbers_124 : decode cX11_readNumbers 124 = .ok (.aload_n 0, 1) := by decide +kernel
theorem dX11_readNumbers_125 : decode cX11_readNumbers 125 = .ok (.getfield 49, 3) := by decide +kernel
theorem dX11_readNumbers_128 : decode cX11_readNumbers 128 = .ok (.iload_n 2, 1) := by decide +kernel
theorem dX11_readNumbers_129 : decode cX11_readNumbers 129 = .ok (.iaload, 1) := by decide +kernel
theorem dX11_readNumbers_130 : decode cX11_readNumbers 130 = .ok (.iconst 1, 1) := by decide +kernel
theorem dX11_readNumbers_131 : decode cX11_readNumbers 131 = .ok (.if_icmp .le 25, 3) := by decide +kernel
theorem dX11_readNumbers_134 : decode cX11_readNumbers 134 = .ok (.iload_n 3, 1) := by decide +kernel
theorem dX11_readNumbers_135 : decode cX11_readNumbers 135 = .ok (.aload_n 0, 1) := by decide +kernel
theorem dX11_readNumbers_136 : decode cX11_readNumbers 136 = .ok (.getfield 49, 3) := by decide +kernel
theorem dX11_readNumbers_139 : decode cX11_readNumbers 139 = .ok (.iload_n 2, 1) := by decide +kernel
theorem dX11_readNumbers_140 : decode cX11_readNumbers 140 = .ok (.iaload, 1) := by decide +kernel
theorem dX11_readNumbers_141 : decode cX11_readNumbers 141 = .ok (.if_icmp .eq 15, 3) := by decide +kernel
theorem dX11_readNumbers_144 : decode cX11_readNumbers 144 = .ok (.aload_n 0, 1) := by decide +kernel
theorem dX11_readNumbers_145 : decode cX11_readNumbers 145 = .ok (.bipush 6, 2) := by decide +kernel
theorem dX11_readNumbers_147 : decode cX11_readNumbers 147 = .ok (.aload_n 0, 1) := by decide +kernel
theorem dX11_readNumbers_148 : decode cX11_readNumbers 148 = .ok (.getfield 43, 3) := by decide +kernel
theorem dX11_readNumbers_151 : decode cX11_readNumbers 151 = .ok (.iload_n 2, 1) := by decide +kernel
theorem dX11_readNumbers_152 : decode cX11_readNumbers 152 = .ok (.iaload, 1) := by decide +kernel
theorem dX11_readNumbers_153 : decode cX11_readNumbers 153 = .ok (.invokevirtual 127, 3) := by decide +kernel
theorem dX11_readNumbers_156 : decode cX11_readNumbers 156 = .ok (.iinc 2 1, 3) := by decide +kernel
theorem dX11_readNumbers_159 : decode cX11_readNumbers 159 = .ok (.goto (-110), 3) := by decide +kernel
theorem dX11_readNumbers_162 : decode cX11_readNumbers 162 = .ok (.return_, 1) := by decide +kernel
theorem dX11_sign_0 : decode cX11_sign 0 = .ok (.aload_n 0, 1) := by decide +kernel
theorem dX11_sign_1 : decode cX11_sign 1 = .ok (.invokevirtual 130, 3) := by decide +kernel
theorem dX11_sign_4 : decode cX11_sign 4 = .ok (.istore_n 1, 1) := by decide +kernel
theorem dX11_sign_5 : decode cX11_sign 5 = .ok (.aload_n 0, 1) := by decide +kernel
theorem dX11_sign_6 : decode cX11_sign 6 = .ok (.getfield 121, 3) := by decide +kernel
theorem dX11_sign_9 : decode cX11_sign 9 = .ok (.ifCond .ne 23, 3) := by decide +kernel
theorem dX11_sign_12 : decode cX11_sign 12 = .ok (.iload_n 1, 1) := by decide +kernel
theorem dX11_sign_13 : decode cX11_sign 13 = .ok (.bipush 33, 2) := by decide +kernel
theorem dX11_sign_15 : decode cX11_sign 15 = .ok (.bipush 96, 2) := by decide +kernel
theorem dX11_sign_17 : decode cX11_sign 17 = .ok (.invokestatic 62, 3) := by decide +kernel
theorem dX11_sign_20 : decode cX11_sign 20 = .ok (.ifCond .ne 12, 3) := by decide +kernel
theorem dX11_sign_23 : decode cX11_sign 23 = .ok (.aload_n 0, 1) := by decide +kernel
theorem dX11_sign_24 : decode cX11_sign 24 = .ok (.iconst 4, 1) := by decide +kernel
theorem dX11_sign_25 : decode cX11_sign 25 = .ok (.aload_n 0, 1) := by decide +kernel
theorem dX11_sign_26 : decode cX11_sign 26 = .ok (.getfield 124, 3) := by decide +kernel
theorem dX11_sign_29 : decode cX11_sign 29 = .ok (.invokevirtual 127, 3) := by decide +kernel
theorem dX11_sign_32 : decode cX11_sign 32 = .ok (.aload_n 0, 1) := by decide +kernel
theorem dX11_sign_33 : decode cX11_sign 33 = .ok (.dup, 1) := by decide +kernel
theorem dX11_sign_34 : decode cX11_sign 34 = .ok (.getfield 124, 3) := by decide +kernel
theorem dX11_sign_37 : decode cX11_sign 37 = .ok (.iconst 1, 1) := by decide +kernel
theorem dX11_sign_38 : decode cX11_sign 38 = .ok (.iadd, 1) := by decide +kernel
theorem dX11_sign_39 : decode cX11_sign 39 = .ok (.putfield 124, 3) := by decide +kernel
theorem dX11_sign_42 : decode cX11_sign 42 = .ok (.iload_n 1, 1) := by decide +kernel
theorem dX11_sign_43 : decode cX11_sign 43 = .ok (.bipush 96, 2) := by decide +kernel
theorem dX11_sign_45 : decode cX11_sign 45 = .ok (.if_icmp .ne 7, 3) := by decide +kernel
theorem dX11_sign_48 : decode cX11_sign 48 = .ok (.iconst 0, 1) := by decide +kernel
theorem dX11_sign_49 : decode cX11_sign 49 = .ok (.goto 7, 3) := by decide +kernel
theorem dX11_sign_52 : decode cX11_sign 52 = .ok (.iload_n 1, 1) := by decide +kernel
theorem dX11_sign_53 : decode cX11_sign 53 = .ok (.bipush 32, 2) := by decide +kernel
theorem dX11_sign_55 : decode cX11_sign 55 = .ok (.isub, 1) := by decide +kernel
theorem dX11_sign_56 : decode cX11_sign 56 = .ok (.ireturn, 1) := by decide +kernel
theorem dX11_lineBytes_0 : decode cX11_lineBytes 0 = .ok (.iconst 0, 1) := by decide +kernel
theorem dX11_lineBytes_1 : decode cX11_lineBytes 1 = .ok (.istore_n 2, 1) := by decide +kernel
theorem dX11_lineBytes_2 : decode cX11_lineBytes 2 = .ok (.iload_n 2, 1) := by decide +kernel
theorem dX11_lineBytes_3 : decode cX11_lineBytes 3 = .ok (.iload_n 1, 1) := by decide +kernel
theorem dX11_lineBytes_4 : decode cX11_lineBytes 4 = .ok (.if_icmp .ge 129, 3) := by decide +kernel
theorem dX11_lineBytes_7 : decode cX11_lineBytes 7 = .ok (.aload_n 0, 1) := by decide +kernel
theorem dX11_lineBytes_8 : decode cX11_lineBytes 8 = .ok (.getfield 121, 3) := by decide +kernel
theorem dX11_lineBytes_11 : decode cX11_lineBytes 11 = .ok (.ifCond .ne 122, 3) := by decide +kernel
theorem dX11_lineBytes_14 : decode cX11_lineBytes 14 = .ok (.iconst 0, 1) := by decide +kernel
theorem dX11_lineBytes_15 : decode cX11_lineBytes 15 = .ok (.istore_n 3, 1) := by decide +kernel
theorem dX11_lineBytes_16 : decode cX11_lineBytes 16 = .ok (.iconst 0, 1) := by decide +kernel
theorem dX11_lineBytes_17 : decode cX11_lineBytes 17 = .ok (.istore 4, 2) := by decide +kernel
theorem dX11_lineBytes_19 : decode cX11_lineBytes 19 = .ok (.iload 4, 2) := by decide +kernel
theorem dX11_lineBytes_21 : decode cX11_lineBytes 21 = .ok (.iconst 4, 1) := by decide +kernel
theorem dX11_lineBytes_22 : decode cX11_lineBytes 22 = .ok (.if_icmp .ge 34, 3) := by decide +kernel
theorem dX11_lineBytes_25 : decode cX11_lineBytes 25 = .ok (.aload_n 0, 1) := by decide +kernel
theorem dX11_lineBytes_26 : decode cX11_lineBytes 26 = .ok (.getfield 121, 3) := by decide +kernel
theorem dX11_lineBytes_29 : decode cX11_lineBytes 29 = .ok (.ifCond .ne 10, 3) := by decide +kernel
theorem dX11_lineBytes_32 : decode cX11_lineBytes 32 = .ok (.aload_n 0, 1) := by decide +kernel
theorem dX11_lineBytes_33 : decode cX11_lineBytes 33 = .ok (.invokevirtual 177, 3) := by decide +kernel
theorem dX11_lineBytes_36 : decode cX11_lineBytes 36 = .ok (.goto 4, 3) := by decide +kernel
theorem dX11_lineBytes_39 : decode cX11_lineBytes 39 = .ok (.iconst 0, 1) := by decide +kernel
theorem dX11_lineBytes_40 : decode cX11_lineBytes 40 = .ok (.istore 5, 2) := by decide +kernel
theorem dX11_lineBytes_42 : decode cX11_lineBytes 42 = .ok (.bipush 64, 2) := by decide +kernel
theorem dX11_lineBytes_44 : decode cX11_lineBytes 44 = .ok (.iload_n 3, 1) := by decide +kernel
theorem dX11_lineBytes_45 : decode cX11_lineBytes 45 = .ok (.imul, 1) := by decide +kernel
theorem dX11_lineBytes_46 : decode cX11_lineBytes 46 = .ok (.iload 5, 2) := by decide +kernel
theorem dX11_lineBytes_48 : decode cX11_lineBytes 48 = .ok (.iadd, 1) := by decide +kernel
theorem dX11_lineBytes_49 : decode cX11_lineBytes 49 = .ok (.istore_n 3, 1) := by decide +kernel
theorem dX11_lineBytes_50 : decode cX11_lineBytes 50 = .ok (.iinc 4 1, 3) := by decide +kernel
theorem dX11_lineBytes_53 : decode cX11_lineBytes 53 = .ok (.goto (-34), 3) := by decide +kernel
theorem dX11_lineBytes_56 : decode cX11_lineBytes 56 = .ok (.iconst 0, 1) := by decide +kernel
theorem dX11_lineBytes_57 : decode cX11_lineBytes 57 = .ok (.istore 4, 2) := by decide +kernel
theorem dX11_lineBytes_59 : decode cX11_lineBytes 59 = .ok (.iload 4, 2) := by decide +kernel
theorem dX11_lineBytes_61 : decode cX11_lineBytes 61 = .ok (.iconst 3, 1) := by decide +kernel
theorem dX11_lineBytes_62 : decode cX11_lineBytes 62 = .ok (.if_icmp .ge 65, 3) := by decide +kernel
theorem dX11_lineBytes_65 : decode cX11_lineBytes 65 = .ok (.iload_n 2, 1) := by decide +kernel
theorem dX11_lineBytes_66 : decode cX11_lineBytes 66 = .ok (.iload 4, 2) := by decide +kernel
theorem dX11_lineBytes_68 : decode cX11_lineBytes 68 = .ok (.iadd, 1) := by decide +kernel
theorem dX11_lineBytes_69 : decode cX11_lineBytes 69 = .ok (.iload_n 1, 1) := by decide +kernel
theorem dX11_lineBytes_70 : decode cX11_lineBytes 70 = .ok (.if_icmp .ge 57, 3) := by decide +kernel
theorem dX11_lineBytes_73 : decode cX11_lineBytes 73 = .ok (.aload_n 0, 1) := by decide +kernel
theorem dX11_lineBytes_74 : decode cX11_lineBytes 74 = .ok (.getfield 121, 3) := by decide +kernel
theorem dX11_lineBytes_77 : decode cX11_lineBytes 77 = .ok (.ifCond .ne 50, 3) := by decide +kernel
theorem dX11_lineBytes_80 : decode cX11_lineBytes 80 = .ok (.aload_n 0, 1) := by decide +kernel
theorem dX11_lineBytes_81 : decode cX11_lineBytes 81 = .ok (.getfield 40, 3) := by decide +kernel
theorem dX11_lineBytes_84 : decode cX11_lineBytes 84 = .ok (.bipush 60, 2) := by decide +kernel
theorem dX11_lineBytes_86 : decode cX11_lineBytes 86 = .ok (.aload_n 0, 1) := by decide +kernel
theorem dX11_lineBytes_87 : decode cX11_lineBytes 87 = .ok (.getfield 137, 3) := by decide +kernel
theorem dX11_lineBytes_90 : decode cX11_lineBytes 90 = .ok (.imul, 1) := by decide +kernel
theorem dX11_lineBytes_91 : decode cX11_lineBytes 91 = .ok (.aload_n 0, 1) := by decide +kernel
theorem dX11_lineBytes_92 : decode cX11_lineBytes 92 = .ok (.getfield 37, 3) := by decide +kernel
theorem dX11_lineBytes_95 : decode cX11_lineBytes 95 = .ok (.aload_n 0, 1) := by decide +kernel
theorem dX11_lineBytes_96 : decode cX11_lineBytes 96 = .ok (.getfield 137, 3) := by decide +kernel
theorem dX11_lineBytes_99 : decode cX11_lineBytes 99 = .ok (.iaload, 1) := by decide +kernel
theorem dX11_lineBytes_100 : decode cX11_lineBytes 100 = .ok (.iadd, 1) := by decide +kernel
theorem dX11_lineBytes_101 : decode cX11_lineBytes 101 = .ok (.iload_n 2, 1) := by decide +kernel
theorem dX11_lineBytes_102 : decode cX11_lineBytes 102 = .ok (.iadd, 1) := by decide +kernel
theorem dX11_lineBytes_103 : decode cX11_lineBytes 103 = .ok (.iload 4, 2) := by decide +kernel
theorem dX11_lineBytes_105 : decode cX11_lineBytes 105 = .ok (.iadd, 1) := by decide +kernel
theorem dX11_lineBytes_106 : decode cX11_lineBytes 106 = .ok (.iload_n 3, 1) := by decide +kernel
theorem dX11_lineBytes_107 : decode cX11_lineBytes 107 = .ok (.bipush 16, 2) := by decide +kernel
theorem dX11_lineBytes_109 : decode cX11_lineBytes 109 = .ok (.bipush 8, 2) := by decide +kernel
theorem dX11_lineBytes_111 : decode cX11_lineBytes 111 = .ok (.iload 4, 2) := by decide +kernel
theorem dX11_lineBytes_113 : decode cX11_lineBytes 113 = .ok (.imul, 1) := by decide +kernel
theorem dX11_lineBytes_114 : decode cX11_lineBytes 114 = .ok (.isub, 1) := by decide +kernel
theorem dX11_lineBytes_115 : decode cX11_lineBytes 115 = .ok (.ishr, 1) := by decide +kernel
theorem dX11_lineBytes_116 : decode cX11_lineBytes 116 = .ok (.sipush 255, 3) := by decide +kernel
theorem dX11_lineBytes_119 : decode cX11_lineBytes 119 = .ok (.iand, 1) := by decide +kernel
theorem dX11_lineBytes_120 : decode cX11_lineBytes 120 = .ok (.iastore, 1) := by decide +kernel
theorem dX11_lineBytes_121 : decode cX11_lineBytes 121 = .ok (.iinc 4 1, 3) := by decide +kernel
theorem dX11_lineBytes_124 : decode cX11_lineBytes 124 = .ok (.goto (-65), 3) := by decide +kernel
theorem dX11_lineBytes_127 : decode cX11_lineBytes 127 = .ok (.iinc 2 3, 3) := by decide +kernel
theorem dX11_lineBytes_130 : decode cX11_lineBytes 130 = .ok (.goto (-128), 3) := by decide +kernel
theorem dX11_lineBytes_133 : decode cX11_lineBytes 133 = .ok (.return_, 1) := by decide +kernel
theorem dX11_readLine_0 : decode cX11_readLine 0 = .ok (.aload_n 0, 1) := by decide +kernel
theorem dX11_readLine_1 : decode cX11_readLine 1 = .ok (.invokevirtual 149, 3) := by decide +kernel
theorem dX11_readLine_4 : decode cX11_readLine 4 = .ok (.aload_n 0, 1) := by decide +kernel
theorem dX11_readLine_5 : decode cX11_readLine 5 = .ok (.bipush 98, 2) := by decide +kernel
theorem dX11_readLine_7 : decode cX11_readLine 7 = .ok (.invokevirtual 158, 3) := by decide +kernel
theorem dX11_readLine_10 : decode cX11_readLine 10 = .ok (.aload_n 0, 1) := by decide +kernel
theorem dX11_readLine_11 : decode cX11_readLine 11 = .ok (.bipush 101, 2) := by decide +kernel
theorem dX11_readLine_13 : decode cX11_readLine 13 = .ok (.invokevirtual 158, 3) := by decide +kernel
theorem dX11_readLine_16 : decode cX11_readLine 16 = .ok (.aload_n 0, 1) := by decide +kernel
theorem dX11_readLine_17 : decode cX11_readLine 17 = .ok (.bipush 103, 2) := by decide +kernel
theorem dX11_readLine_19 : decode cX11_readLine 19 = .ok (.invokevirtual 158, 3) := by decide +kernel
theorem dX11_readLine_22 : decode cX11_readLine 22 = .ok (.aload_n 0, 1) := by decide +kernel
theorem dX11_readLine_23 : decode cX11_readLine 23 = .ok (.bipush 105, 2) := by decide +kernel
theorem dX11_readLine_25 : decode cX11_readLine 25 = .ok (.invokevirtual 158, 3) := by decide +kernel
theorem dX11_readLine_28 : decode cX11_readLine 28 = .ok (.aload_n 0, 1) := by decide +kernel
theorem dX11_readLine_29 : decode cX11_readLine 29 = .ok (.bipush 110, 2) := by decide +kernel
theorem dX11_readLine_31 : decode cX11_readLine 31 = .ok (.invokevirtual 158, 3) := by decide +kernel
theorem dX11_readLine_34 : decode cX11_readLine 34 = .ok (.aload_n 0, 1) := by decide +kernel
theorem dX11_readLine_35 : decode cX11_readLine 35 = .ok (.bipush 32, 2) := by decide +kernel
theorem dX11_readLine_37 : decode cX11_readLine 37 = .ok (.invokevirtual 158, 3) := by decide +kernel
theorem dX11_readLine_40 : decode cX11_readLine 40 = .ok (.iconst 0, 1) := by decide +kernel
theorem dX11_readLine_41 : decode cX11_readLine 41 = .ok (.istore_n 1, 1) := by decide +kernel
theorem dX11_readLine_42 : decode cX11_readLine 42 = .ok (.aload_n 0, 1) := by decide +kernel
theorem dX11_readLine_43 : decode cX11_readLine 43 = .ok (.getfield 121, 3) := by decide +kernel
theorem dX11_readLine_46 : decode cX11_readLine 46 = .ok (.ifCond .ne 155, 3) := by decide +kernel
theorem dX11_readLine_49 : decode cX11_readLine 49 = .ok (.iload_n 1, 1) := by decide +kernel
theorem dX11_readLine_50 : decode cX11_readLine 50 = .ok (.ifCond .ne 151, 3) := by decide +kernel
theorem dX11_readLine_53 : decode cX11_readLine 53 = .ok (.aload_n 0, 1) := by decide +kernel
theorem dX11_readLine_54 : decode cX11_readLine 54 = .ok (.invokevirtual 130, 3) := by decide +kernel
theorem dX11_readLine_57 : decode cX11_readLine 57 = .ok (.istore_n 2, 1) := by decide +kernel
theorem dX11_readLine_58 : decode cX11_readLine 58 = .ok (.iload_n 2, 1) := by decide +kernel
theorem dX11_readLine_59 : decode cX11_readLine 59 = .ok (.bipush 10, 2) := by decide +kernel
theorem dX11_readLine_61 : decode cX11_readLine 61 = .ok (.if_icmp .ne 7, 3) := by decide +kernel
theorem dX11_readLine_64 : decode cX11_readLine 64 = .ok (.iconst 1, 1) := by decide +kernel
theorem dX11_readLine_65 : decode cX11_readLine 65 = .ok (.goto 4, 3) := by decide +kernel
theorem dX11_readLine_68 : decode cX11_readLine 68 = .ok (.iconst 0, 1) := by decide +kernel
theorem dX11_readLine_69 : decode cX11_readLine 69 = .ok (.istore_n 1, 1) := by decide +kernel
theorem dX11_readLine_70 : decode cX11_readLine 70 = .ok (.iload_n 1, 1) := by decide +kernel
theorem dX11_readLine_71 : decode cX11_readLine 71 = .ok (.ifCond .eq 23, 3) := by decide +kernel
theorem dX11_readLine_74 : decode cX11_readLine 74 = .ok (.aload_n 0, 1) := by decide +kernel
theorem dX11_readLine_75 : decode cX11_readLine 75 = .ok (.getfield 31, 3) := by decide +kernel
theorem dX11_readLine_78 : decode cX11_readLine 78 = .ok (.aload_n 0, 1) := by decide +kernel
theorem dX11_readLine_79 : decode cX11_readLine 79 = .ok (.getfield 137, 3) := by decide +kernel
theorem dX11_readLine_82 : decode cX11_readLine 82 = .ok (.iaload, 1) := by decide +kernel
theorem dX11_readLine_83 : decode cX11_readLine 83 = .ok (.ifCond .le 7, 3) := by decide +kernel
theorem dX11_readLine_86 : decode cX11_readLine 86 = .ok (.iconst 1, 1) := by decide +kernel
theorem dX11_readLine_87 : decode cX11_readLine 87 = .ok (.goto 33, 3) := by decide +kernel
theorem dX11_readLine_90 : decode cX11_readLine 90 = .ok (.iconst 0, 1) := by decide +kernel
theorem dX11_readLine_91 : decode cX11_readLine 91 = .ok (.goto 29, 3) := by decide +kernel
theorem dX11_readLine_94 : decode cX11_readLine 94 = .ok (.iload_n 2, 1) := by decide +kernel
theorem dX11_readLine_95 : decode cX11_readLine 95 = .ok (.invokestatic 73, 3) := by decide +kernel
theorem dX11_readLine_98 : decode cX11_readLine 98 = .ok (.ifCond .eq 21, 3) := by decide +kernel
theorem dX11_readLine_101 : decode cX11_readLine 101 = .ok (.aload_n 0, 1) := by decide +kernel
theorem dX11_readLine_102 : decode cX11_readLine 102 = .ok (.getfield 31, 3) := by decide +kernel
theorem dX11_readLine_105 : decode cX11_readLine 105 = .ok (.aload_n 0, 1) := by decide +kernel
theorem dX11_readLine_106 : decode cX11_readLine 106 = .ok (.getfield 137, 3) := by decide +kernel
theorem dX11_readLine_109 : decode cX11_readLine 109 = .ok (.iaload, 1) := by decide +kernel
theorem dX11_readLine_110 : decode cX11_readLine 110 = .ok (.bipush 20, 2) := by decide +kernel
theorem dX11_readLine_112 : decode cX11_readLine 112 = .ok (.if_icmp .ge 7, 3) := by decide +kernel
theorem dX11_readLine_115 : decode cX11_readLine 115 = .ok (.iconst 1, 1) := by decide +kernel
theorem dX11_readLine_116 : decode cX11_readLine 116 = .ok (.goto 4, 3) := by decide +kernel
theorem dX11_readLine_119 : decode cX11_readLine 119 = .ok (.iconst 0, 1) := by decide +kernel
theorem dX11_readLine_120 : decode cX11_readLine 120 = .ok (.istore_n 3, 1) := by decide +kernel
theorem dX11_readLine_121 : decode cX11_readLine 121 = .ok (.aload_n 0, 1) := by decide +kernel
theorem dX11_readLine_122 : decode cX11_readLine 122 = .ok (.getfield 121, 3) := by decide +kernel
theorem dX11_readLine_125 : decode cX11_readLine 125 = .ok (.ifCond .ne 16, 3) := by decide +kernel
theorem dX11_readLine_128 : decode cX11_readLine 128 = .ok (.iload_n 3, 1) := by decide +kernel
theorem dX11_readLine_129 : decode cX11_readLine 129 = .ok (.ifCond .ne 12, 3) := by decide +kernel
theorem dX11_readLine_132 : decode cX11_readLine 132 = .ok (.aload_n 0, 1) := by decide +kernel
theorem dX11_readLine_133 : decode cX11_readLine 133 = .ok (.iconst 4, 1) := by decide +kernel
theorem dX11_readLine_134 : decode cX11_readLine 134 = .ok (.aload_n 0, 1) := by decide +kernel
theorem dX11_readLine_135 : decode cX11_readLine 135 = .ok (.getfield 124, 3) := by decide +kernel
theorem dX11_readLine_138 : decode cX11_readLine 138 = .ok (.invokevirtual 127, 3) := by decide +kernel
theorem dX11_readLine_141 : decode cX11_readLine 141 = .ok (.aload_n 0, 1) := by decide +kernel
theorem dX11_readLine_142 : decode cX11_readLine 142 = .ok (.getfield 121, 3) := by decide +kernel
theorem dX11_readLine_145 : decode cX11_readLine 145 = .ok (.ifCond .ne 43, 3) := by decide +kernel
theorem dX11_readLine_148 : decode cX11_readLine 148 = .ok (.iload_n 1, 1) := by decide +kernel
theorem dX11_readLine_149 : decode cX11_readLine 149 = .ok (.ifCond .ne 39, 3) := by decide +kernel
theorem dX11_readLine_152 : decode cX11_readLine 152 = .ok (.aload_n 0, 1) := by decide +kernel
theorem dX11_readLine_153 : decode cX11_readLine 153 = .ok (.getfield 34, 3) := by decide +kernel
theorem dX11_readLine_156 : decode cX11_readLine 156 = .ok (.bipush 20, 2) := by decide +kernel
theorem dX11_readLine_158 : decode cX11_readLine 158 = .ok (.aload_n 0, 1) := by decide +kernel
theorem dX11_readLine_159 : decode cX11_readLine 159 = .ok (.getfield 137, 3) := by decide +kernel
theorem dX11_readLine_162 : decode cX11_readLine 162 = .ok (.imul, 1) := by decide +kernel
theorem dX11_readLine_163 : decode cX11_readLine 163 = .ok (.aload_n 0, 1) := by decide +kernel
theorem dX11_readLine_164 : decode cX11_readLine 164 = .ok (.getfield 31, 3) := by decide +kernel
theorem dX11_readLine_167 : decode cX11_readLine 167 = .ok (.aload_n 0, 1) := by decide +kernel
theorem dX11_readLine_168 : decode cX11_readLine 168 = .ok (.getfield 137, 3) := by decide +kernel
theorem dX11_readLine_171 : decode cX11_readLine 171 = .ok (.iaload, 1) := by decide +kernel
theorem dX11_readLine_172 : decode cX11_readLine 172 = .ok (.iadd, 1) := by decide +kernel
theorem dX11_readLine_173 : decode cX11_readLine 173 = .ok (.iload_n 2, 1) := by decide +kernel
theorem dX11_readLine_174 : decode cX11_readLine 174 = .ok (.iastore, 1) := by decide +kernel
theorem dX11_readLine_175 : decode cX11_readLine 175 = .ok (.aload_n 0, 1) := by decide +kernel
theorem dX11_readLine_176 : decode cX11_readLine 176 = .ok (.getfield 31, 3) := by decide +kernel
theorem dX11_readLine_179 : decode cX11_readLine 179 = .ok (.aload_n 0, 1) := by decide +kernel
theorem dX11_readLine_180 : decode cX11_readLine 180 = .ok (.getfield 137, 3) := by decide +kernel
theorem dX11_readLine_183 : decode cX11_readLine 183 = .ok (.dup2, 1) := by decide +kernel
theorem dX11_readLine_184 : decode cX11_readLine 184 = .ok (.iaload, 1) := by decide +kernel
theorem dX11_readLine_185 : decode cX11_readLine 185 = .ok (.iconst 1, 1) := by decide +kernel
theorem dX11_readLine_186 : decode cX11_readLine 186 = .ok (.iadd, 1) := by decide +kernel
theorem dX11_readLine_187 : decode cX11_readLine 187 = .ok (.iastore, 1) := by decide +kernel
theorem dX11_readLine_188 : decode cX11_readLine 188 = .ok (.aload_n 0, 1) := by decide +kernel
theorem dX11_readLine_189 : decode cX11_readLine 189 = .ok (.dup, 1) := by decide +kernel
theorem dX11_readLine_190 : decode cX11_readLine 190 = .ok (.getfield 124, 3) := by decide +kernel
theorem dX11_readLine_193 : decode cX11_readLine 193 = .ok (.iconst 1, 1) := by decide +kernel
theorem dX11_readLine_194 : decode cX11_readLine 194 = .ok (.iadd, 1) := by decide +kernel
theorem dX11_readLine_195 : decode cX11_readLine 195 = .ok (.putfield 124, 3) := by decide +kernel
theorem dX11_readLine_198 : decode cX11_readLine 198 = .ok (.goto (-156), 3) := by decide +kernel
theorem dX11_readLine_201 : decode cX11_readLine 201 = .ok (.aload_n 0, 1) := by decide +kernel
theorem dX11_readLine_202 : decode cX11_readLine 202 = .ok (.getfield 37, 3) := by decide +kernel
theorem dX11_readLine_205 : decode cX11_readLine 205 = .ok (.aload_n 0, 1) := by decide +kernel
theorem dX11_readLine_206 : decode cX11_readLine 206 = .ok (.getfield 137, 3) := by decide +kernel
theorem dX11_readLine_209 : decode cX11_readLine 209 = .ok (.iconst 0, 1) := by decide +kernel
theorem dX11_readLine_210 : decode cX11_readLine 210 = .ok (.iastore, 1) := by decide +kernel
theorem dX11_readLine_211 : decode cX11_readLine 211 = .ok (.bipush 15, 2) := by decide +kernel
theorem dX11_readLine_213 : decode cX11_readLine 213 = .ok (.istore_n 2, 1) := by decide +kernel
theorem dX11_readLine_214 : decode cX11_readLine 214 = .ok (.iconst 1, 1) := by decide +kernel
theorem dX11_readLine_215 : decode cX11_readLine 215 = .ok (.istore_n 3, 1) := by decide +kernel
theorem dX11_readLine_216 : decode cX11_readLine 216 = .ok (.aload_n 0, 1) := by decide +kernel
theorem dX11_readLine_217 : decode cX11_readLine 217 = .ok (.getfield 121, 3) := by decide +kernel
theorem dX11_readLine_220 : decode cX11_readLine 220 = .ok (.ifCond .ne 152, 3) := by decide +kernel
theorem dX11_readLine_223 : decode cX11_readLine 223 = .ok (.iload_n 3, 1) := by decide +kernel
theorem dX11_readLine_224 : decode cX11_readLine 224 = .ok (.ifCond .le 148, 3) := by decide +kernel
theorem dX11_readLine_227 : decode cX11_readLine 227 = .ok (.aload_n 0, 1) := by decide +kernel
theorem dX11_readLine_228 : decode cX11_readLine 228 = .ok (.invokevirtual 130, 3) := by decide +kernel
theorem dX11_readLine_231 : decode cX11_readLine 231 = .ok (.istore 4, 2) := by decide +kernel
theorem dX11_readLine_233 : decode cX11_readLine 233 = .ok (.iload 4, 2) := by decide +kernel
theorem dX11_readLine_235 : decode cX11_readLine 235 = .ok (.bipush 96, 2) := by decide +kernel
theorem dX11_readLine_237 : decode cX11_readLine 237 = .ok (.if_icmp .ne 7, 3) := by decide +kernel
theorem dX11_readLine_240 : decode cX11_readLine 240 = .ok (.iconst 0, 1) := by decide +kernel
theorem dX11_readLine_241 : decode cX11_readLine 241 = .ok (.goto 8, 3) := by decide +kernel
theorem dX11_readLine_244 : decode cX11_readLine 244 = .ok (.iload 4, 2) := by decide +kernel
theorem dX11_readLine_246 : decode cX11_readLine 246 = .ok (.bipush 32, 2) := by decide +kernel
theorem dX11_readLine_248 : decode cX11_readLine 248 = .ok (.isub, 1) := by decide +kernel
theorem dX11_readLine_249 : decode cX11_readLine 249 = .ok (.istore_n 3, 1) := by decide +kernel
theorem dX11_readLine_250 : decode cX11_readLine 250 = .ok (.aload_n 0, 1) := by decide +kernel
theorem dX11_readLine_251 : decode cX11_readLine 251 = .ok (.getfield 121, 3) := by decide +kernel
theorem dX11_readLine_254 : decode cX11_readLine 254 = .ok (.ifCond .ne 57, 3) := by decide +kernel
theorem dX11_readLine_257 : decode cX11_readLine 257 = .ok (.iload 4, 2) := by decide +kernel
theorem dX11_readLine_259 : decode cX11_readLine 259 = .ok (.bipush 33, 2) := by decide +kernel
theorem dX11_readLine_261 : decode cX11_readLine 261 = .ok (.bipush 47, 2) := by decide +kernel
theorem dX11_readLine_263 : decode cX11_readLine 263 = .ok (.invokestatic 62, 3) := by decide +kernel
theorem dX11_readLine_266 : decode cX11_readLine 266 = .ok (.ifCond .ne 10, 3) := by decide +kernel
theorem dX11_readLine_269 : decode cX11_readLine 269 = .ok (.iload 4, 2) := by decide +kernel
theorem dX11_readLine_271 : decode cX11_readLine 271 = .ok (.bipush 96, 2) := by decide +kernel
theorem dX11_readLine_273 : decode cX11_readLine 273 = .ok (.if_icmp .ne 29, 3) := by decide +kernel
theorem dX11_readLine_276 : decode cX11_readLine 276 = .ok (.iload_n 3, 1) := by decide +kernel
theorem dX11_readLine_277 : decode cX11_readLine 277 = .ok (.ifCond .le 9, 3) := by decide +kernel
theorem dX11_readLine_280 : decode cX11_readLine 280 = .ok (.iload_n 2, 1) := by decide +kernel
theorem dX11_readLine_281 : decode cX11_readLine 281 = .ok (.bipush 15, 2) := by decide +kernel
theorem dX11_readLine_283 : decode cX11_readLine 283 = .ok (.if_icmp .lt 19, 3) := by decide +kernel
theorem dX11_readLine_286 : decode cX11_readLine 286 = .ok (.aload_n 0, 1) := by decide +kernel
theorem dX11_readLine_287 : decode cX11_readLine 287 = .ok (.getfield 37, 3) := by decide +kernel
theorem dX11_readLine_290 : decode cX11_readLine 290 = .ok (.aload_n 0, 1) := by decide +kernel
theorem dX11_readLine_291 : decode cX11_readLine 291 = .ok (.getfield 137, 3) := by decide +kernel
theorem dX11_readLine_294 : decode cX11_readLine 294 = .ok (.iaload, 1) := by decide +kernel
theorem dX11_readLine_295 : decode cX11_readLine 295 = .ok (.iload_n 3, 1) := by decide +kernel
theorem dX11_readLine_296 : decode cX11_readLine 296 = .ok (.iadd, 1) := by decide +kernel
theorem dX11_readLine_297 : decode cX11_readLine 297 = .ok (.bipush 60, 2) := by decide +kernel
theorem dX11_readLine_299 : decode cX11_readLine 299 = .ok (.if_icmp .le 12, 3) := by decide +kernel
theorem dX11_readLine_302 : decode cX11_readLine 302 = .ok (.aload_n 0, 1) := by decide +kernel
theorem dX11_readLine_303 : decode cX11_readLine 303 = .ok (.iconst 4, 1) := by decide +kernel
theorem dX11_readLine_304 : decode cX11_readLine 304 = .ok (.aload_n 0, 1) := by decide +kernel
theorem dX11_readLine_305 : decode cX11_readLine 305 = .ok (.getfield 124, 3) := by decide +kernel
theorem dX11_readLine_308 : decode cX11_readLine 308 = .ok (.invokevirtual 127, 3) := by decide +kernel
theorem dX11_readLine_311 : decode cX11_readLine 311 = .ok (.aload_n 0, 1) := by decide +kernel
theorem dX11_readLine_312 : decode cX11_readLine 312 = .ok (.dup, 1) := by decide +kernel
theorem dX11_readLine_313 : decode cX11_readLine 313 = .ok (.getfield 124, 3) := by decide +kernel
theorem dX11_readLine_316 : decode cX11_readLine 316 = .ok (.iconst 1, 1) := by decide +kernel
theorem dX11_readLine_317 : decode cX11_readLine 317 = .ok (.iadd, 1) := by decide +kernel
theorem dX11_readLine_318 : decode cX11_readLine 318 = .ok (.putfield 124, 3) := by decide +kernel
theorem dX11_readLine_321 : decode cX11_readLine 321 = .ok (.aload_n 0, 1) := by decide +kernel
theorem dX11_readLine_322 : decode cX11_readLine 322 = .ok (.getfield 121, 3) := by decide +kernel
theorem dX11_readLine_325 : decode cX11_readLine 325 = .ok (.ifCond .ne 12, 3) := by decide +kernel
theorem dX11_readLine_328 : decode cX11_readLine 328 = .ok (.iload_n 3, 1) := by decide +kernel
theorem dX11_readLine_329 : decode cX11_readLine 329 = .ok (.ifCond .le 8, 3) := by decide +kernel
theorem dX11_readLine_332 : decode cX11_readLine 332 = .ok (.aload_n 0, 1) := by decide +kernel
theorem dX11_readLine_333 : decode cX11_readLine 333 = .ok (.iload_n 3, 1) := by decide +kernel
theorem dX11_readLine_334 : decode cX11_readLine 334 = .ok (.invokevirtual 180, 3) := by decide +kernel
theorem dX11_readLine_337 : decode cX11_readLine 337 = .ok (.aload_n 0, 1) := by decide +kernel
theorem dX11_readLine_338 : decode cX11_readLine 338 = .ok (.bipush 10, 2) := by decide +kernel
theorem dX11_readLine_340 : decode cX11_readLine 340 = .ok (.invokevirtual 158, 3) := by decide +kernel
theorem dX11_readLine_343 : decode cX11_readLine 343 = .ok (.iload_n 3, 1) := by decide +kernel
theorem dX11_readLine_344 : decode cX11_readLine 344 = .ok (.istore_n 2, 1) := by decide +kernel
theorem dX11_readLine_345 : decode cX11_readLine 345 = .ok (.aload_n 0, 1) := by decide +kernel
theorem dX11_readLine_346 : decode cX11_readLine 346 = .ok (.getfield 37, 3) := by decide +kernel
theorem dX11_readLine_349 : decode cX11_readLine 349 = .ok (.aload_n 0, 1) := by decide +kernel
theorem dX11_readLine_350 : decode cX11_readLine 350 = .ok (.getfield 137, 3) := by decide +kernel
theorem dX11_readLine_353 : decode cX11_readLine 353 = .ok (.dup2, 1) := by decide +kernel
theorem dX11_readLine_354 : decode cX11_readLine 354 = .ok (.iaload, 1) := by decide +kernel
theorem dX11_readLine_355 : decode cX11_readLine 355 = .ok (.aload_n 0, 1) := by decide +kernel
theorem dX11_readLine_356 : decode cX11_readLine 356 = .ok (.getfield 121, 3) := by decide +kernel
theorem dX11_readLine_359 : decode cX11_readLine 359 = .ok (.ifCond .ne 7, 3) := by decide +kernel
theorem dX11_readLine_362 : decode cX11_readLine 362 = .ok (.iload_n 3, 1) := by decide +kernel
theorem dX11_readLine_363 : decode cX11_readLine 363 = .ok (.goto 4, 3) := by decide +kernel
theorem dX11_readLine_366 : decode cX11_readLine 366 = .ok (.iconst 0, 1) := by decide +kernel
theorem dX11_readLine_367 : decode cX11_readLine 367 = .ok (.iadd, 1) := by decide +kernel
theorem dX11_readLine_368 : decode cX11_readLine 368 = .ok (.iastore, 1) := by decide +kernel
theorem dX11_readLine_369 : decode cX11_readLine 369 = .ok (.goto (-153), 3) := by decide +kernel
theorem dX11_readLine_372 : decode cX11_readLine 372 = .ok (.aload_n 0, 1) := by decide +kernel
theorem dX11_readLine_373 : decode cX11_readLine 373 = .ok (.bipush 101, 2) := by decide +kernel
theorem dX11_readLine_375 : decode cX11_readLine 375 = .ok (.invokevirtual 158, 3) := by decide +kernel
theorem dX11_readLine_378 : decode cX11_readLine 378 = .ok (.aload_n 0, 1) := by decide +kernel
theorem dX11_readLine_379 : decode cX11_readLine 379 = .ok (.bipush 110, 2) := by decide +kernel
theorem dX11_readLine_381 : decode cX11_readLine 381 = .ok (.invokevirtual 158, 3) := by decide +kernel
theorem dX11_readLine_384 : decode cX11_readLine 384 = .ok (.aload_n 0, 1) := by decide +kernel
theorem dX11_readLine_385 : decode cX11_readLine 385 = .ok (.bipush 100, 2) := by decide +kernel
theorem dX11_readLine_387 : decode cX11_readLine 387 = .ok (.invokevirtual 158, 3) := by decide +kernel
theorem dX11_readLine_390 : decode cX11_readLine 390 = .ok (.aload_n 0, 1) := by decide +kernel
theorem dX11_readLine_391 : decode cX11_readLine 391 = .ok (.bipush 10, 2) := by decide +kernel
theorem dX11_readLine_393 : decode cX11_readLine 393 = .ok (.invokevirtual 158, 3) := by decide +kernel
theorem dX11_readLine_396 : decode cX11_readLine 396 = .ok (.aload_n 0, 1) := by decide +kernel
theorem dX11_readLine_397 : decode cX11_readLine 397 = .ok (.dup, 1) := by decide +kernel
theorem dX11_readLine_398 : decode cX11_readLine 398 = .ok (.getfield 137, 3) := by decide +kernel
theorem dX11_readLine_401 : decode cX11_readLine 401 = .ok (.aload_n 0, 1) := by decide +kernel
theorem dX11_readLine_402 : decode cX11_readLine 402 = .ok (.getfield 121, 3) := by decide +kernel
theorem dX11_readLine_405 : decode cX11_readLine 405 = .ok (.ifCond .ne 7, 3) := by decide +kernel
theorem dX11_readLine_408 : decode cX11_readLine 408 = .ok (.iconst 1, 1) := by decide +kernel
theorem dX11_readLine_409 : decode cX11_readLine 409 = .ok (.goto 4, 3) := by decide +kernel
theorem dX11_readLine_412 : decode cX11_readLine 412 = .ok (.iconst 0, 1) := by decide +kernel
theorem dX11_readLine_413 : decode cX11_readLine 413 = .ok (.iadd, 1) := by decide +kernel
theorem dX11_readLine_414 : decode cX11_readLine 414 = .ok (.putfield 137, 3) := by decide +kernel
theorem dX11_readLine_417 : decode cX11_readLine 417 = .ok (.return_, 1) := by decide +kernel
theorem dX11_read_0 : decode cX11_read 0 = .ok (.iload_n 1, 1) := by decide +kernel
theorem dX11_read_1 : decode cX11_read 1 = .ok (.iconst 0, 1) := by decide +kernel
theorem dX11_read_2 : decode cX11_read 2 = .ok (.iconst 2, 1) := by decide +kernel
theorem dX11_read_3 : decode cX11_read 3 = .ok (.invokestatic 62, 3) := by decide +kernel
theorem dX11_read_6 : decode cX11_read 6 = .ok (.ifCond .ne 6, 3) := by decide +kernel
theorem dX11_read_9 : decode cX11_read 9 = .ok (.bipush (-2), 2) := by decide +kernel
theorem dX11_read_11 : decode cX11_read 11 = .ok (.ireturn, 1) := by decide +kernel
theorem dX11_read_12 : decode cX11_read 12 = .ok (.aload_n 0, 1) := by decide +kernel
theorem dX11_read_13 : decode cX11_read 13 = .ok (.iload_n 1, 1) := by decide +kernel
theorem dX11_read_14 : decode cX11_read 14 = .ok (.putfield 183, 3) := by decide +kernel
theorem dX11_read_17 : decode cX11_read 17 = .ok (.aload_n 0, 1) := by decide +kernel
theorem dX11_read_18 : decode cX11_read 18 = .ok (.iconst 0, 1) := by decide +kernel
theorem dX11_read_19 : decode cX11_read 19 = .ok (.putfield 137, 3) := by decide +kernel
theorem dX11_read_22 : decode cX11_read 22 = .ok (.aload_n 0, 1) := by decide +kernel
theorem dX11_read_23 : decode cX11_read 23 = .ok (.iconst (-1), 1) := by decide +kernel
theorem dX11_read_24 : decode cX11_read 24 = .ok (.putfield 146, 3) := by decide +kernel
theorem dX11_read_27 : decode cX11_read 27 = .ok (.aload_n 0, 1) := by decide +kernel
theorem dX11_read_28 : decode cX11_read 28 = .ok (.iconst 0, 1) := by decide +kernel
theorem dX11_read_29 : decode cX11_read 29 = .ok (.putfield 124, 3) := by decide +kernel
theorem dX11_read_32 : decode cX11_read 32 = .ok (.aload_n 0, 1) := by decide +kernel
theorem dX11_read_33 : decode cX11_read 33 = .ok (.iconst 0, 1) := by decide +kernel
theorem dX11_read_34 : decode cX11_read 34 = .ok (.putfield 121, 3) := by decide +kernel
theorem dX11_read_37 : decode cX11_read 37 = .ok (.aload_n 0, 1) := by decide +kernel
theorem dX11_read_38 : decode cX11_read 38 = .ok (.iconst (-1), 1) := by decide +kernel
theorem dX11_read_39 : decode cX11_read 39 = .ok (.putfield 55, 3) := by decide +kernel
theorem dX11_read_42 : decode cX11_read 42 = .ok (.iload_n 1, 1) := by decide +kernel
theorem dX11_read_43 : decode cX11_read 43 = .ok (.ifCond .ne 10, 3) := by decide +kernel
theorem dX11_read_46 : decode cX11_read 46 = .ok (.aload_n 0, 1) := by decide +kernel
theorem dX11_read_47 : decode cX11_read 47 = .ok (.invokevirtual 186, 3) := by decide +kernel
theorem dX11_read_50 : decode cX11_read 50 = .ok (.goto 40, 3) := by decide +kernel
theorem dX11_read_53 : decode cX11_read 53 = .ok (.iload_n 1, 1) := by decide +kernel
theorem dX11_read_54 : decode cX11_read 54 = .ok (.iconst 1, 1) := by decide +kernel
theorem dX11_read_55 : decode cX11_read 55 = .ok (.if_icmp .ne 10, 3) := by decide +kernel
theorem dX11_read_58 : decode cX11_read 58 = .ok (.aload_n 0, 1) := by decide +kernel
theorem dX11_read_59 : decode cX11_read 59 = .ok (.invokevirtual 189, 3) := by decide +kernel
theorem dX11_read_62 : decode cX11_read 62 = .ok (.goto 28, 3) := by decide +kernel
theorem dX11_read_65 : decode cX11_read 65 = .ok (.aload_n 0, 1) := by decide +kernel
theorem dX11_read_66 : decode cX11_read 66 = .ok (.getfield 121, 3) := by decide +kernel
theorem dX11_read_69 : decode cX11_read 69 = .ok (.ifCond .ne 21, 3) := by decide +kernel
theorem dX11_read_72 : decode cX11_read 72 = .ok (.aload_n 0, 1) := by decide +kernel
theorem dX11_read_73 : decode cX11_read 73 = .ok (.getfield 124, 3) := by decide +kernel
theorem dX11_read_76 : decode cX11_read 76 = .ok (.aload_n 0, 1) := by decide +kernel
theorem dX11_read_77 : decode cX11_read 77 = .ok (.getfield 118, 3) := by decide +kernel
theorem dX11_read_80 : decode cX11_read 80 = .ok (.if_icmp .ge 10, 3) := by decide +kernel
theorem dX11_read_83 : decode cX11_read 83 = .ok (.aload_n 0, 1) := by decide +kernel
theorem dX11_read_84 : decode cX11_read 84 = .ok (.invokevirtual 192, 3) := by decide +kernel
theorem dX11_read_87 : decode cX11_read 87 = .ok (.goto (-22), 3) := by decide +kernel
theorem dX11_read_90 : decode cX11_read 90 = .ok (.aload_n 0, 1) := by decide +kernel
theorem dX11_read_91 : decode cX11_read 91 = .ok (.getfield 121, 3) := by decide +kernel
theorem dX11_read_94 : decode cX11_read 94 = .ok (.ifCond .le 13, 3) := by decide +kernel
theorem dX11_read_97 : decode cX11_read 97 = .ok (.bipush (-20), 2) := by decide +kernel
theorem dX11_read_99 : decode cX11_read 99 = .ok (.aload_n 0, 1) := by decide +kernel
theorem dX11_read_100 : decode cX11_read 100 = .ok (.getfield 121, 3) := by decide +kernel
theorem dX11_read_103 : decode cX11_read 103 = .ok (.isub, 1) := by decide +kernel
theorem dX11_read_104 : decode cX11_read 104 = .ok (.goto 7, 3) := by decide +kernel
theorem dX11_read_107 : decode cX11_read 107 = .ok (.aload_n 0, 1) := by decide +kernel
theorem dX11_read_108 : decode cX11_read 108 = .ok (.getfield 137, 3) := by decide +kernel
theorem dX11_read_111 : decode cX11_read 111 = .ok (.ireturn, 1) := by decide +kernel
theorem dX11_place_0 : decode cX11_place 0 = .ok (.aload_n 0, 1) := by decide +kernel
theorem dX11_place_1 : decode cX11_place 1 = .ok (.getfield 55, 3) := by decide +kernel
theorem dX11_place_4 : decode cX11_place 4 = .ok (.ireturn, 1) := by decide +kernel
theorem dX11_entries_0 : decode cX11_entries 0 = .ok (.aload_n 0, 1) := by decide +kernel
theorem dX11_entries_1 : decode cX11_entries 1 = .ok (.getfield 137, 3) := by decide +kernel
theorem dX11_entries_4 : decode cX11_entries 4 = .ok (.ireturn, 1) := by decide +kernel
theorem dX11_isLinked_0 : decode cX11_isLinked 0 = .ok (.aload_n 0, 1) := by decide +kernel
theorem dX11_isLinked_1 : decode cX11_isLinked 1 = .ok (.getfield 183, 3) := by decide +kernel
theorem dX11_isLinked_4 : decode cX11_isLinked 4 = .ok (.iconst 1, 1) := by decide +kernel
theorem dX11_isLinked_5 : decode cX11_isLinked 5 = .ok (.if_icmp .ne 17, 3) := by decide +kernel
theorem dX11_isLinked_8 : decode cX11_isLinked 8 = .ok (.aload_n 0, 1) := by decide +kernel
theorem dX11_isLinked_9 : decode cX11_isLinked 9 = .ok (.getfield 49, 3) := by decide +kernel
theorem dX11_isLinked_12 : decode cX11_isLinked 12 = .ok (.iload_n 1, 1) := by decide +kernel
theorem dX11_isLinked_13 : decode cX11_isLinked 13 = .ok (.iaload, 1) := by decide +kernel
theorem dX11_isLinked_14 : decode cX11_isLinked 14 = .ok (.iconst 1, 1) := by decide +kernel
theorem dX11_isLinked_15 : decode cX11_isLinked 15 = .ok (.if_icmp .le 7, 3) := by decide +kernel
theorem dX11_isLinked_18 : decode cX11_isLinked 18 = .ok (.iconst 1, 1) := by decide +kernel
theorem dX11_isLinked_19 : decode cX11_isLinked 19 = .ok (.goto 4, 3) := by decide +kernel
theorem dX11_isLinked_22 : decode cX11_isLinked 22 = .ok (.iconst 0, 1) := by decide +kernel
theorem dX11_isLinked_23 : decode cX11_isLinked 23 = .ok (.ireturn, 1) := by decide +kernel
theorem dX11_other_0 : decode cX11_other 0 = .ok (.iload_n 1, 1) := by decide +kernel
theorem dX11_other_1 : decode cX11_other 1 = .ok (.istore_n 3, 1) := by decide +kernel
theorem dX11_other_2 : decode cX11_other 2 = .ok (.iconst 0, 1) := by decide +kernel
theorem dX11_other_3 : decode cX11_other 3 = .ok (.istore 4, 2) := by decide +kernel
theorem dX11_other_5 : decode cX11_other 5 = .ok (.iconst 0, 1) := by decide +kernel
theorem dX11_other_6 : decode cX11_other 6 = .ok (.istore 5, 2) := by decide +kernel
theorem dX11_other_8 : decode cX11_other 8 = .ok (.iload 5, 2) := by decide +kernel
theorem dX11_other_10 : decode cX11_other 10 = .ok (.aload_n 0, 1) := by decide +kernel
theorem dX11_other_11 : decode cX11_other 11 = .ok (.getfield 137, 3) := by decide +kernel
theorem dX11_other_14 : decode cX11_other 14 = .ok (.if_icmp .ge 57, 3) := by decide +kernel
theorem dX11_other_17 : decode cX11_other 17 = .ok (.aload_n 0, 1) := by decide +kernel
theorem dX11_other_18 : decode cX11_other 18 = .ok (.iload_n 1, 1) := by decide +kernel
theorem dX11_other_19 : decode cX11_other 19 = .ok (.invokevirtual 195, 3) := by decide +kernel
theorem dX11_other_22 : decode cX11_other 22 = .ok (.ifCond .eq 43, 3) := by decide +kernel
theorem dX11_other_25 : decode cX11_other 25 = .ok (.aload_n 0, 1) := by decide +kernel
theorem dX11_other_26 : decode cX11_other 26 = .ok (.iload 5, 2) := by decide +kernel
theorem dX11_other_28 : decode cX11_other 28 = .ok (.invokevirtual 195, 3) := by decide +kernel
theorem dX11_other_31 : decode cX11_other 31 = .ok (.ifCond .eq 34, 3) := by decide +kernel
theorem dX11_other_34 : decode cX11_other 34 = .ok (.aload_n 0, 1) := by decide +kernel
theorem dX11_other_35 : decode cX11_other 35 = .ok (.getfield 46, 3) := by decide +kernel
theorem dX11_other_38 : decode cX11_other 38 = .ok (.iload 5, 2) := by decide +kernel
theorem dX11_other_40 : decode cX11_other 40 = .ok (.iaload, 1) := by decide +kernel
theorem dX11_other_41 : decode cX11_other 41 = .ok (.aload_n 0, 1) := by decide +kernel
theorem dX11_other_42 : decode cX11_other 42 = .ok (.getfield 46, 3) := by decide +kernel
theorem dX11_other_45 : decode cX11_other 45 = .ok (.iload_n 1, 1) := by decide +kernel
theorem dX11_other_46 : decode cX11_other 46 = .ok (.iaload, 1) := by decide +kernel
theorem dX11_other_47 : decode cX11_other 47 = .ok (.if_icmp .ne 18, 3) := by decide +kernel
theorem dX11_other_50 : decode cX11_other 50 = .ok (.iload_n 2, 1) := by decide +kernel
theorem dX11_other_51 : decode cX11_other 51 = .ok (.ifCond .ne 8, 3) := by decide +kernel
theorem dX11_other_54 : decode cX11_other 54 = .ok (.iload 4, 2) := by decide +kernel
theorem dX11_other_56 : decode cX11_other 56 = .ok (.ifCond .ne 9, 3) := by decide +kernel
theorem dX11_other_59 : decode cX11_other 59 = .ok (.iload 5, 2) := by decide +kernel
theorem dX11_other_61 : decode cX11_other 61 = .ok (.istore_n 3, 1) := by decide +kernel
theorem dX11_other_62 : decode cX11_other 62 = .ok (.iconst 1, 1) := by decide +kernel
theorem dX11_other_63 : decode cX11_other 63 = .ok (.istore 4, 2) := by decide +kernel
theorem dX11_other_65 : decode cX11_other 65 = .ok (.iinc 5 1, 3) := by decide +kernel
theorem dX11_other_68 : decode cX11_other 68 = .ok (.goto (-60), 3) := by decide +kernel
theorem dX11_other_71 : decode cX11_other 71 = .ok (.iload_n 3, 1) := by decide +kernel
theorem dX11_other_72 : decode cX11_other 72 = .ok (.ireturn, 1) := by decide +kernel
theorem dX11_told_0 : decode cX11_told 0 = .ok (.iload_n 1, 1) := by decide +kernel
theorem dX11_told_1 : decode cX11_told 1 = .ok (.iconst 0, 1) := by decide +kernel
theorem dX11_told_2 : decode cX11_told 2 = .ok (.aload_n 0, 1) := by decide +kernel
theorem dX11_told_3 : decode cX11_told 3 = .ok (.getfield 137, 3) := by decide +kernel
theorem dX11_told_6 : decode cX11_told 6 = .ok (.iconst 1, 1) := by decide +kernel
theorem dX11_told_7 : decode cX11_told 7 = .ok (.isub, 1) := by decide +kernel
theorem dX11_told_8 : decode cX11_told 8 = .ok (.invokestatic 62, 3) := by decide +kernel
theorem dX11_told_11 : decode cX11_told 11 = .ok (.ifCond .eq 12, 3) := by decide +kernel
theorem dX11_told_14 : decode cX11_told 14 = .ok (.iload_n 2, 1) := by decide +kernel
theorem dX11_told_15 : decode cX11_told 15 = .ok (.iconst 0, 1) := by decide +kernel
theorem dX11_told_16 : decode cX11_told 16 = .ok (.iconst 4, 1) := by decide +kernel
theorem dX11_told_17 : decode cX11_told 17 = .ok (.invokestatic 62, 3) := by decide +kernel
theorem dX11_told_20 : decode cX11_told 20 = .ok (.ifCond .ne 6, 3) := by decide +kernel
theorem dX11_told_23 : decode cX11_told 23 = .ok (.bipush (-2), 2) := by decide +kernel
theorem dX11_told_25 : decode cX11_told 25 = .ok (.ireturn, 1) := by decide +kernel
theorem dX11_told_26 : decode cX11_told 26 = .ok (.iload_n 2, 1) := by decide +kernel
theorem dX11_told_27 : decode cX11_told 27 = .ok (.tableswitch 62 0 3 #[29, 36, 48, 55], 29) := by decide +kernel
theorem dX11_told_56 : decode cX11_told 56 = .ok (.aload_n 0, 1) := by decide +kernel
theorem dX11_told_57 : decode cX11_told 57 = .ok (.getfield 31, 3) := by decide +kernel
theorem dX11_told_60 : decode cX11_told 60 = .ok (.iload_n 1, 1) := by decide +kernel
theorem dX11_told_61 : decode cX11_told 61 = .ok (.iaload, 1) := by decide +kernel
theorem dX11_told_62 : decode cX11_told 62 = .ok (.ireturn, 1) := by decide +kernel
theorem dX11_told_63 : decode cX11_told 63 = .ok (.aload_n 0, 1) := by decide +kernel
theorem dX11_told_64 : decode cX11_told 64 = .ok (.getfield 37, 3) := by decide +kernel
theorem dX11_told_67 : decode cX11_told 67 = .ok (.aload_n 0, 1) := by decide +kernel
theorem dX11_told_68 : decode cX11_told 68 = .ok (.iload_n 1, 1) := by decide +kernel
theorem dX11_told_69 : decode cX11_told 69 = .ok (.iconst 1, 1) := by decide +kernel
theorem dX11_told_70 : decode cX11_told 70 = .ok (.invokevirtual 198, 3) := by decide +kernel
theorem dX11_told_73 : decode cX11_told 73 = .ok (.iaload, 1) := by decide +kernel
theorem dX11_told_74 : decode cX11_told 74 = .ok (.ireturn, 1) := by decide +kernel
theorem dX11_told_75 : decode cX11_told 75 = .ok (.aload_n 0, 1) := by decide +kernel
theorem dX11_told_76 : decode cX11_told 76 = .ok (.getfield 43, 3) := by decide +kernel
theorem dX11_told_79 : decode cX11_told 79 = .ok (.iload_n 1, 1) := by decide +kernel
theorem dX11_told_80 : decode cX11_told 80 = .ok (.iaload, 1) := by decide +kernel
theorem dX11_told_81 : decode cX11_told 81 = .ok (.ireturn, 1) := by decide +kernel
theorem dX11_told_82 : decode cX11_told 82 = .ok (.aload_n 0, 1) := by decide +kernel
theorem dX11_told_83 : decode cX11_told 83 = .ok (.iload_n 1, 1) := by decide +kernel
theorem dX11_told_84 : decode cX11_told 84 = .ok (.iconst 0, 1) := by decide +kernel
theorem dX11_told_85 : decode cX11_told 85 = .ok (.invokevirtual 198, 3) := by decide +kernel
theorem dX11_told_88 : decode cX11_told 88 = .ok (.ireturn, 1) := by decide +kernel
theorem dX11_told_89 : decode cX11_told 89 = .ok (.iload_n 3, 1) := by decide +kernel
theorem dX11_told_90 : decode cX11_told 90 = .ok (.iconst 0, 1) := by decide +kernel
theorem dX11_told_91 : decode cX11_told 91 = .ok (.aload_n 0, 1) := by decide +kernel
theorem dX11_told_92 : decode cX11_told 92 = .ok (.getfield 31, 3) := by decide +kernel
theorem dX11_told_95 : decode cX11_told 95 = .ok (.iload_n 1, 1) := by decide +kernel
theorem dX11_told_96 : decode cX11_told 96 = .ok (.iaload, 1) := by decide +kernel
theorem dX11_told_97 : decode cX11_told 97 = .ok (.iconst 1, 1) := by decide +kernel
theorem dX11_told_98 : decode cX11_told 98 = .ok (.isub, 1) := by decide +kernel
theorem dX11_told_99 : decode cX11_told 99 = .ok (.invokestatic 62, 3) := by decide +kernel
theorem dX11_told_102 : decode cX11_told 102 = .ok (.ifCond .eq 17, 3) := by decide +kernel
theorem dX11_told_105 : decode cX11_told 105 = .ok (.aload_n 0, 1) := by decide +kernel
theorem dX11_told_106 : decode cX11_told 106 = .ok (.getfield 34, 3) := by decide +kernel
theorem dX11_told_109 : decode cX11_told 109 = .ok (.bipush 20, 2) := by decide +kernel
theorem dX11_told_111 : decode cX11_told 111 = .ok (.iload_n 1, 1) := by decide +kernel
theorem dX11_told_112 : decode cX11_told 112 = .ok (.imul, 1) := by decide +kernel
theorem dX11_told_113 : decode cX11_told 113 = .ok (.iload_n 3, 1) := by decide +kernel
theorem dX11_told_114 : decode cX11_told 114 = .ok (.iadd, 1) := by decide +kernel
theorem dX11_told_115 : decode cX11_told 115 = .ok (.iaload, 1) := by decide +kernel
theorem dX11_told_116 : decode cX11_told 116 = .ok (.goto 4, 3) := by decide +kernel
theorem dX11_told_119 : decode cX11_told 119 = .ok (.iconst (-1), 1) := by decide +kernel
theorem dX11_told_120 : decode cX11_told 120 = .ok (.ireturn, 1) := by decide +kernel
theorem dX11_got_0 : decode cX11_got 0 = .ok (.iload_n 1, 1) := by decide +kernel
theorem dX11_got_1 : decode cX11_got 1 = .ok (.iconst 0, 1) := by decide +kernel
theorem dX11_got_2 : decode cX11_got 2 = .ok (.aload_n 0, 1) := by decide +kernel
theorem dX11_got_3 : decode cX11_got 3 = .ok (.getfield 137, 3) := by decide +kernel
theorem dX11_got_6 : decode cX11_got 6 = .ok (.iconst 1, 1) := by decide +kernel
theorem dX11_got_7 : decode cX11_got 7 = .ok (.isub, 1) := by decide +kernel
theorem dX11_got_8 : decode cX11_got 8 = .ok (.invokestatic 62, 3) := by decide +kernel
theorem dX11_got_11 : decode cX11_got 11 = .ok (.ifCond .eq 12, 3) := by decide +kernel
theorem dX11_got_14 : decode cX11_got 14 = .ok (.aload_n 0, 1) := by decide +kernel
theorem dX11_got_15 : decode cX11_got 15 = .ok (.iload_n 1, 1) := by decide +kernel
theorem dX11_got_16 : decode cX11_got 16 = .ok (.iconst 1, 1) := by decide +kernel
theorem dX11_got_17 : decode cX11_got 17 = .ok (.invokevirtual 198, 3) := by decide +kernel
theorem dX11_got_20 : decode cX11_got 20 = .ok (.goto 4, 3) := by decide +kernel
theorem dX11_got_23 : decode cX11_got 23 = .ok (.iconst (-1), 1) := by decide +kernel
theorem dX11_got_24 : decode cX11_got 24 = .ok (.istore_n 3, 1) := by decide +kernel
theorem dX11_got_25 : decode cX11_got 25 = .ok (.aload_n 0, 1) := by decide +kernel
theorem dX11_got_26 : decode cX11_got 26 = .ok (.iload_n 3, 1) := by decide +kernel
theorem dX11_got_27 : decode cX11_got 27 = .ok (.iconst (-1), 1) := by decide +kernel
theorem dX11_got_28 : decode cX11_got 28 = .ok (.if_icmp .eq 19, 3) := by decide +kernel
theorem dX11_got_31 : decode cX11_got 31 = .ok (.iload_n 2, 1) := by decide +kernel
theorem dX11_got_32 : decode cX11_got 32 = .ok (.iconst 0, 1) := by decide +kernel
theorem dX11_got_33 : decode cX11_got 33 = .ok (.aload_n 0, 1) := by decide +kernel
theorem dX11_got_34 : decode cX11_got 34 = .ok (.getfield 37, 3) := by decide +kernel
theorem dX11_got_37 : decode cX11_got 37 = .ok (.iload_n 3, 1) := by decide +kernel
theorem dX11_got_38 : decode cX11_got 38 = .ok (.iaload, 1) := by decide +kernel
theorem dX11_got_39 : decode cX11_got 39 = .ok (.iconst 1, 1) := by decide +kernel
theorem dX11_got_40 : decode cX11_got 40 = .ok (.isub, 1) := by decide +kernel
theorem dX11_got_41 : decode cX11_got 41 = .ok (.invokestatic 62, 3) := by decide +kernel
theorem dX11_got_44 : decode cX11_got 44 = .ok (.ifCond .ne 7, 3) := by decide +kernel
theorem dX11_got_47 : decode cX11_got 47 = .ok (.iconst 1, 1) := by decide +kernel
theorem dX11_got_48 : decode cX11_got 48 = .ok (.goto 4, 3) := by decide +kernel
theorem dX11_got_51 : decode cX11_got 51 = .ok (.iconst 0, 1) := by decide +kernel
theorem dX11_got_52 : decode cX11_got 52 = .ok (.putfield 59, 3) := by decide +kernel
theorem dX11_got_55 : decode cX11_got 55 = .ok (.aload_n 0, 1) := by decide +kernel
theorem dX11_got_56 : decode cX11_got 56 = .ok (.getfield 59, 3) := by decide +kernel
theorem dX11_got_59 : decode cX11_got 59 = .ok (.ifCond .le 7, 3) := by decide +kernel
theorem dX11_got_62 : decode cX11_got 62 = .ok (.iconst 0, 1) := by decide +kernel
theorem dX11_got_63 : decode cX11_got 63 = .ok (.goto 14, 3) := by decide +kernel
theorem dX11_got_66 : decode cX11_got 66 = .ok (.aload_n 0, 1) := by decide +kernel
theorem dX11_got_67 : decode cX11_got 67 = .ok (.getfield 40, 3) := by decide +kernel
theorem dX11_got_70 : decode cX11_got 70 = .ok (.bipush 60, 2) := by decide +kernel
theorem dX11_got_72 : decode cX11_got 72 = .ok (.iload_n 3, 1) := by decide +kernel
theorem dX11_got_73 : decode cX11_got 73 = .ok (.imul, 1) := by decide +kernel
theorem dX11_got_74 : decode cX11_got 74 = .ok (.iload_n 2, 1) := by decide +kernel
theorem dX11_got_75 : decode cX11_got 75 = .ok (.iadd, 1) := by decide +kernel
theorem dX11_got_76 : decode cX11_got 76 = .ok (.iaload, 1) := by decide +kernel
theorem dX11_got_77 : decode cX11_got 77 = .ok (.ireturn, 1) := by decide +kernel
theorem dX11_same_0 : decode cX11_same 0 = .ok (.aload_n 0, 1) := by decide +kernel
theorem dX11_same_1 : decode cX11_same 1 = .ok (.getfield 137, 3) := by decide +kernel
theorem dX11_same_4 : decode cX11_same 4 = .ok (.aload_n 0, 1) := by decide +kernel
theorem dX11_same_5 : decode cX11_same 5 = .ok (.getfield 70, 3) := by decide +kernel
theorem dX11_same_8 : decode cX11_same 8 = .ok (.if_icmp .ne 7, 3) := by decide +kernel
theorem dX11_same_11 : decode cX11_same 11 = .ok (.iconst 1, 1) := by decide +kernel
theorem dX11_same_12 : decode cX11_same 12 = .ok (.goto 4, 3) := by decide +kernel
theorem dX11_same_15 : decode cX11_same 15 = .ok (.iconst 0, 1) := by decide +kernel
theorem dX11_same_16 : decode cX11_same 16 = .ok (.istore_n 1, 1) := by decide +kernel
theorem dX11_same_17 : decode cX11_same 17 = .ok (.iconst 0, 1) := by decide +kernel
theorem dX11_same_18 : decode cX11_same 18 = .ok (.istore_n 2, 1) := by decide +kernel
theorem dX11_same_19 : decode cX11_same 19 = .ok (.iload_n 2, 1) := by decide +kernel
theorem dX11_same_20 : decode cX11_same 20 = .ok (.aload_n 0, 1) := by decide +kernel
theorem dX11_same_21 : decode cX11_same 21 = .ok (.getfield 137, 3) := by decide +kernel
theorem dX11_same_24 : decode cX11_same 24 = .ok (.if_icmp .ge 180, 3) := by decide +kernel
theorem dX11_same_27 : decode cX11_same 27 = .ok (.iload_n 1, 1) := by decide +kernel
theorem dX11_same_28 : decode cX11_same 28 = .ok (.ifCond .eq 176, 3) := by decide +kernel
theorem dX11_same_31 : decode cX11_same 31 = .ok (.aload_n 0, 1) := by decide +kernel
theorem dX11_same_32 : decode cX11_same 32 = .ok (.iload_n 2, 1) := by decide +kernel
theorem dX11_same_33 : decode cX11_same 33 = .ok (.invokevirtual 91, 3) := by decide +kernel
theorem dX11_same_36 : decode cX11_same 36 = .ok (.istore_n 3, 1) := by decide +kernel
theorem dX11_same_37 : decode cX11_same 37 = .ok (.aload_n 0, 1) := by decide +kernel
theorem dX11_same_38 : decode cX11_same 38 = .ok (.iload_n 2, 1) := by decide +kernel
theorem dX11_same_39 : decode cX11_same 39 = .ok (.iconst 1, 1) := by decide +kernel
theorem dX11_same_40 : decode cX11_same 40 = .ok (.invokevirtual 198, 3) := by decide +kernel
theorem dX11_same_43 : decode cX11_same 43 = .ok (.istore 4, 2) := by decide +kernel
theorem dX11_same_45 : decode cX11_same 45 = .ok (.aload_n 0, 1) := by decide +kernel
theorem dX11_same_46 : decode cX11_same 46 = .ok (.getfield 31, 3) := by decide +kernel
theorem dX11_same_49 : decode cX11_same 49 = .ok (.iload_n 2, 1) := by decide +kernel
theorem dX11_same_50 : decode cX11_same 50 = .ok (.iaload, 1) := by decide +kernel
theorem dX11_same_51 : decode cX11_same 51 = .ok (.aload_n 0, 1) := by decide +kernel
theorem dX11_same_52 : decode cX11_same 52 = .ok (.getfield 7, 3) := by decide +kernel
theorem dX11_same_55 : decode cX11_same 55 = .ok (.iload_n 2, 1) := by decide +kernel
theorem dX11_same_56 : decode cX11_same 56 = .ok (.iaload, 1) := by decide +kernel
theorem dX11_same_57 : decode cX11_same 57 = .ok (.if_icmp .ne 23, 3) := by decide +kernel
theorem dX11_same_60 : decode cX11_same 60 = .ok (.aload_n 0, 1) := by decide +kernel
theorem dX11_same_61 : decode cX11_same 61 = .ok (.getfield 37, 3) := by decide +kernel
theorem dX11_same_64 : decode cX11_same 64 = .ok (.iload 4, 2) := by decide +kernel
theorem dX11_same_66 : decode cX11_same 66 = .ok (.iaload, 1) := by decide +kernel
theorem dX11_same_67 : decode cX11_same 67 = .ok (.aload_n 0, 1) := by decide +kernel
theorem dX11_same_68 : decode cX11_same 68 = .ok (.getfield 19, 3) := by decide +kernel
theorem dX11_same_71 : decode cX11_same 71 = .ok (.iload_n 3, 1) := by decide +kernel
theorem dX11_same_72 : decode cX11_same 72 = .ok (.iaload, 1) := by decide +kernel
theorem dX11_same_73 : decode cX11_same 73 = .ok (.if_icmp .ne 7, 3) := by decide +kernel
theorem dX11_same_76 : decode cX11_same 76 = .ok (.iconst 1, 1) := by decide +kernel
theorem dX11_same_77 : decode cX11_same 77 = .ok (.goto 4, 3) := by decide +kernel
theorem dX11_same_80 : decode cX11_same 80 = .ok (.iconst 0, 1) := by decide +kernel
theorem dX11_same_81 : decode cX11_same 81 = .ok (.istore_n 1, 1) := by decide +kernel
theorem dX11_same_82 : decode cX11_same 82 = .ok (.iconst 0, 1) := by decide +kernel
theorem dX11_same_83 : decode cX11_same 83 = .ok (.istore 5, 2) := by decide +kernel
theorem dX11_same_85 : decode cX11_same 85 = .ok (.iload 5, 2) := by decide +kernel
theorem dX11_same_87 : decode cX11_same 87 = .ok (.aload_n 0, 1) := by decide +kernel
theorem dX11_same_88 : decode cX11_same 88 = .ok (.getfield 31, 3) := by decide +kernel
theorem dX11_same_91 : decode cX11_same 91 = .ok (.iload_n 2, 1) := by decide +kernel
theorem dX11_same_92 : decode cX11_same 92 = .ok (.iaload, 1) := by decide +kernel
theorem dX11_same_93 : decode cX11_same 93 = .ok (.if_icmp .ge 46, 3) := by decide +kernel
theorem dX11_same_96 : decode cX11_same 96 = .ok (.iload_n 1, 1) := by decide +kernel
theorem dX11_same_97 : decode cX11_same 97 = .ok (.ifCond .eq 42, 3) := by decide +kernel
theorem dX11_same_100 : decode cX11_same 100 = .ok (.aload_n 0, 1) := by decide +kernel
theorem dX11_same_101 : decode cX11_same 101 = .ok (.getfield 34, 3) := by decide +kernel
theorem dX11_same_104 : decode cX11_same 104 = .ok (.bipush 20, 2) := by decide +kernel
theorem dX11_same_106 : decode cX11_same 106 = .ok (.iload_n 2, 1) := by decide +kernel
theorem dX11_same_107 : decode cX11_same 107 = .ok (.imul, 1) := by decide +kernel
theorem dX11_same_108 : decode cX11_same 108 = .ok (.iload 5, 2) := by decide +kernel
theorem dX11_same_110 : decode cX11_same 110 = .ok (.iadd, 1) := by decide +kernel
theorem dX11_same_111 : decode cX11_same 111 = .ok (.iaload, 1) := by decide +kernel
theorem dX11_same_112 : decode cX11_same 112 = .ok (.aload_n 0, 1) := by decide +kernel
theorem dX11_same_113 : decode cX11_same 113 = .ok (.getfield 13, 3) := by decide +kernel
theorem dX11_same_116 : decode cX11_same 116 = .ok (.bipush 20, 2) := by decide +kernel
theorem dX11_same_118 : decode cX11_same 118 = .ok (.iload_n 2, 1) := by decide +kernel
theorem dX11_same_119 : decode cX11_same 119 = .ok (.imul, 1) := by decide +kernel
theorem dX11_same_120 : decode cX11_same 120 = .ok (.iload 5, 2) := by decide +kernel
theorem dX11_same_122 : decode cX11_same 122 = .ok (.iadd, 1) := by decide +kernel
theorem dX11_same_123 : decode cX11_same 123 = .ok (.iaload, 1) := by decide +kernel
theorem dX11_same_124 : decode cX11_same 124 = .ok (.if_icmp .ne 7, 3) := by decide +kernel
theorem dX11_same_127 : decode cX11_same 127 = .ok (.iconst 1, 1) := by decide +kernel
theorem dX11_same_128 : decode cX11_same 128 = .ok (.goto 4, 3) := by decide +kernel
theorem dX11_same_131 : decode cX11_same 131 = .ok (.iconst 0, 1) := by decide +kernel
theorem dX11_same_132 : decode cX11_same 132 = .ok (.istore_n 1, 1) := by decide +kernel
theorem dX11_same_133 : decode cX11_same 133 = .ok (.iinc 5 1, 3) := by decide +kernel
theorem dX11_same_136 : decode cX11_same 136 = .ok (.goto (-51), 3) := by decide +kernel
theorem dX11_same_139 : decode cX11_same 139 = .ok (.iconst 0, 1) := by decide +kernel
theorem dX11_same_140 : decode cX11_same 140 = .ok (.istore 5, 2) := by decide +kernel
theorem dX11_same_142 : decode cX11_same 142 = .ok (.iload 5, 2) := by decide +kernel
theorem dX11_same_144 : decode cX11_same 144 = .ok (.aload_n 0, 1) := by decide +kernel
theorem dX11_same_145 : decode cX11_same 145 = .ok (.getfield 37, 3) := by decide +kernel
theorem dX11_same_148 : decode cX11_same 148 = .ok (.iload 4, 2) := by decide +kernel
theorem dX11_same_150 : decode cX11_same 150 = .ok (.iaload, 1) := by decide +kernel
theorem dX11_same_151 : decode cX11_same 151 = .ok (.if_icmp .ge 47, 3) := by decide +kernel
theorem dX11_same_154 : decode cX11_same 154 = .ok (.iload_n 1, 1) := by decide +kernel
theorem dX11_same_155 : decode cX11_same 155 = .ok (.ifCond .eq 43, 3) := by decide +kernel
theorem dX11_same_158 : decode cX11_same 158 = .ok (.aload_n 0, 1) := by decide +kernel
theorem dX11_same_159 : decode cX11_same 159 = .ok (.getfield 40, 3) := by decide +kernel
theorem dX11_same_162 : decode cX11_same 162 = .ok (.bipush 60, 2) := by decide +kernel
theorem dX11_same_164 : decode cX11_same 164 = .ok (.iload 4, 2) := by decide +kernel
theorem dX11_same_166 : decode cX11_same 166 = .ok (.imul, 1) := by decide +kernel
theorem dX11_same_167 : decode cX11_same 167 = .ok (.iload 5, 2) := by decide +kernel
theorem dX11_same_169 : decode cX11_same 169 = .ok (.iadd, 1) := by decide +kernel
theorem dX11_same_170 : decode cX11_same 170 = .ok (.iaload, 1) := by decide +kernel
theorem dX11_same_171 : decode cX11_same 171 = .ok (.aload_n 0, 1) := by decide +kernel
theorem dX11_same_172 : decode cX11_same 172 = .ok (.getfield 22, 3) := by decide +kernel
theorem dX11_same_175 : decode cX11_same 175 = .ok (.bipush 60, 2) := by decide +kernel
theorem dX11_same_177 : decode cX11_same 177 = .ok (.iload_n 3, 1) := by decide +kernel
theorem dX11_same_178 : decode cX11_same 178 = .ok (.imul, 1) := by decide +kernel
theorem dX11_same_179 : decode cX11_same 179 = .ok (.iload 5, 2) := by decide +kernel
theorem dX11_same_181 : decode cX11_same 181 = .ok (.iadd, 1) := by decide +kernel
theorem dX11_same_182 : decode cX11_same 182 = .ok (.iaload, 1) := by decide +kernel
theorem dX11_same_183 : decode cX11_same 183 = .ok (.if_icmp .ne 7, 3) := by decide +kernel
theorem dX11_same_186 : decode cX11_same 186 = .ok (.iconst 1, 1) := by decide +kernel
theorem dX11_same_187 : decode cX11_same 187 = .ok (.goto 4, 3) := by decide +kernel
theorem dX11_same_190 : decode cX11_same 190 = .ok (.iconst 0, 1) := by decide +kernel
theorem dX11_same_191 : decode cX11_same 191 = .ok (.istore_n 1, 1) := by decide +kernel
theorem dX11_same_192 : decode cX11_same 192 = .ok (.iinc 5 1, 3) := by decide +kernel
theorem dX11_same_195 : decode cX11_same 195 = .ok (.goto (-53), 3) := by decide +kernel
theorem dX11_same_198 : decode cX11_same 198 = .ok (.iinc 2 1, 3) := by decide +kernel
theorem dX11_same_201 : decode cX11_same 201 = .ok (.goto (-182), 3) := by decide +kernel
theorem dX11_same_204 : decode cX11_same 204 = .ok (.iload_n 1, 1) := by decide +kernel
theorem dX11_same_205 : decode cX11_same 205 = .ok (.ifCond .eq 7, 3) := by decide +kernel
theorem dX11_same_208 : decode cX11_same 208 = .ok (.iconst 1, 1) := by decide +kernel
theorem dX11_same_209 : decode cX11_same 209 = .ok (.goto 4, 3) := by decide +kernel
theorem dX11_same_212 : decode cX11_same 212 = .ok (.iconst 0, 1) := by decide +kernel
theorem dX11_same_213 : decode cX11_same 213 = .ok (.ireturn, 1) := by decide +kernel
