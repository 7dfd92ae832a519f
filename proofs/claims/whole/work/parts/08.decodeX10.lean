theorem dX10_init_0 : decode cX10_init 0 = .ok (.aload_n 0, 1) := by decide +kernel
theorem dX10_init_1 : decode cX10_init 1 = .ok (.invokespecial 3, 3) := by decide +kernel
theorem dX10_init_4 : decode cX10_init 4 = .ok (.aload_n 0, 1) := by decide +kernel
theorem dX10_init_5 : decode cX10_init 5 = .ok (.new 9, 3) := by decide +kernel
theorem dX10_init_8 : decode cX10_init 8 = .ok (.dup, 1) := by decide +kernel
theorem dX10_init_9 : decode cX10_init 9 = .ok (.invokespecial 11, 3) := by decide +kernel
theorem dX10_init_12 : decode cX10_init 12 = .ok (.putfield 12, 3) := by decide +kernel
theorem dX10_init_15 : decode cX10_init 15 = .ok (.aload_n 0, 1) := by decide +kernel
theorem dX10_init_16 : decode cX10_init 16 = .ok (.new 16, 3) := by decide +kernel
theorem dX10_init_19 : decode cX10_init 19 = .ok (.dup, 1) := by decide +kernel
theorem dX10_init_20 : decode cX10_init 20 = .ok (.sipush 1500, 3) := by decide +kernel
theorem dX10_init_23 : decode cX10_init 23 = .ok (.invokespecial 18, 3) := by decide +kernel
theorem dX10_init_26 : decode cX10_init 26 = .ok (.putfield 21, 3) := by decide +kernel
theorem dX10_init_29 : decode cX10_init 29 = .ok (.aload_n 0, 1) := by decide +kernel
theorem dX10_init_30 : decode cX10_init 30 = .ok (.new 16, 3) := by decide +kernel
theorem dX10_init_33 : decode cX10_init 33 = .ok (.dup, 1) := by decide +kernel
theorem dX10_init_34 : decode cX10_init 34 = .ok (.sipush 1500, 3) := by decide +kernel
theorem dX10_init_37 : decode cX10_init 37 = .ok (.invokespecial 18, 3) := by decide +kernel
theorem dX10_init_40 : decode cX10_init 40 = .ok (.putfield 25, 3) := by decide +kernel
theorem dX10_init_43 : decode cX10_init 43 = .ok (.aload_n 0, 1) := by decide +kernel
theorem dX10_init_44 : decode cX10_init 44 = .ok (.new 28, 3) := by decide +kernel
theorem dX10_init_47 : decode cX10_init 47 = .ok (.dup, 1) := by decide +kernel
theorem dX10_init_48 : decode cX10_init 48 = .ok (.invokespecial 30, 3) := by decide +kernel
theorem dX10_init_51 : decode cX10_init 51 = .ok (.putfield 31, 3) := by decide +kernel
theorem dX10_init_54 : decode cX10_init 54 = .ok (.aload_n 0, 1) := by decide +kernel
theorem dX10_init_55 : decode cX10_init 55 = .ok (.new 35, 3) := by decide +kernel
theorem dX10_init_58 : decode cX10_init 58 = .ok (.dup, 1) := by decide +kernel
theorem dX10_init_59 : decode cX10_init 59 = .ok (.aload_n 0, 1) := by decide +kernel
theorem dX10_init_60 : decode cX10_init 60 = .ok (.getfield 21, 3) := by decide +kernel
theorem dX10_init_63 : decode cX10_init 63 = .ok (.invokespecial 37, 3) := by decide +kernel
theorem dX10_init_66 : decode cX10_init 66 = .ok (.putfield 40, 3) := by decide +kernel
theorem dX10_init_69 : decode cX10_init 69 = .ok (.aload_n 0, 1) := by decide +kernel
theorem dX10_init_70 : decode cX10_init 70 = .ok (.new 44, 3) := by decide +kernel
theorem dX10_init_73 : decode cX10_init 73 = .ok (.dup, 1) := by decide +kernel
theorem dX10_init_74 : decode cX10_init 74 = .ok (.invokespecial 46, 3) := by decide +kernel
theorem dX10_init_77 : decode cX10_init 77 = .ok (.putfield 47, 3) := by decide +kernel
theorem dX10_init_80 : decode cX10_init 80 = .ok (.aload_n 0, 1) := by decide +kernel
theorem dX10_init_81 : decode cX10_init 81 = .ok (.new 51, 3) := by decide +kernel
theorem dX10_init_84 : decode cX10_init 84 = .ok (.dup, 1) := by decide +kernel
theorem dX10_init_85 : decode cX10_init 85 = .ok (.invokespecial 53, 3) := by decide +kernel
theorem dX10_init_88 : decode cX10_init 88 = .ok (.putfield 54, 3) := by decide +kernel
theorem dX10_init_91 : decode cX10_init 91 = .ok (.aload_n 0, 1) := by decide +kernel
theorem dX10_init_92 : decode cX10_init 92 = .ok (.new 58, 3) := by decide +kernel
theorem dX10_init_95 : decode cX10_init 95 = .ok (.dup, 1) := by decide +kernel
theorem dX10_init_96 : decode cX10_init 96 = .ok (.invokespecial 60, 3) := by decide +kernel
theorem dX10_init_99 : decode cX10_init 99 = .ok (.putfield 61, 3) := by decide +kernel
theorem dX10_init_102 : decode cX10_init 102 = .ok (.return_, 1) := by decide +kernel
theorem dX10_file_0 : decode cX10_file 0 = .ok (.aload_n 0, 1) := by decide +kernel
theorem dX10_file_1 : decode cX10_file 1 = .ok (.getfield 12, 3) := by decide +kernel
theorem dX10_file_4 : decode cX10_file 4 = .ok (.invokevirtual 65, 3) := by decide +kernel
theorem dX10_file_7 : decode cX10_file 7 = .ok (.ifCond .eq 6, 3) := by decide +kernel
theorem dX10_file_10 : decode cX10_file 10 = .ok (.bipush (-3), 2) := by decide +kernel
theorem dX10_file_12 : decode cX10_file 12 = .ok (.ireturn, 1) := by decide +kernel
theorem dX10_file_13 : decode cX10_file 13 = .ok (.aload_n 0, 1) := by decide +kernel
theorem dX10_file_14 : decode cX10_file 14 = .ok (.getfield 12, 3) := by decide +kernel
theorem dX10_file_17 : decode cX10_file 17 = .ok (.invokevirtual 69, 3) := by decide +kernel
theorem dX10_file_20 : decode cX10_file 20 = .ok (.bipush 12, 2) := by decide +kernel
theorem dX10_file_22 : decode cX10_file 22 = .ok (.if_icmp .lt 6, 3) := by decide +kernel
theorem dX10_file_25 : decode cX10_file 25 = .ok (.bipush (-4), 2) := by decide +kernel
theorem dX10_file_27 : decode cX10_file 27 = .ok (.ireturn, 1) := by decide +kernel
theorem dX10_file_28 : decode cX10_file 28 = .ok (.aload_n 0, 1) := by decide +kernel
theorem dX10_file_29 : decode cX10_file 29 = .ok (.getfield 12, 3) := by decide +kernel
theorem dX10_file_32 : decode cX10_file 32 = .ok (.invokevirtual 73, 3) := by decide +kernel
theorem dX10_file_35 : decode cX10_file 35 = .ok (.aload_n 0, 1) := by decide +kernel
theorem dX10_file_36 : decode cX10_file 36 = .ok (.getfield 12, 3) := by decide +kernel
theorem dX10_file_39 : decode cX10_file 39 = .ok (.invokevirtual 76, 3) := by decide +kernel
theorem dX10_file_42 : decode cX10_file 42 = .ok (.ireturn, 1) := by decide +kernel
theorem dX10_name_0 : decode cX10_name 0 = .ok (.aload_n 0, 1) := by decide +kernel
theorem dX10_name_1 : decode cX10_name 1 = .ok (.getfield 12, 3) := by decide +kernel
theorem dX10_name_4 : decode cX10_name 4 = .ok (.invokevirtual 76, 3) := by decide +kernel
theorem dX10_name_7 : decode cX10_name 7 = .ok (.istore_n 2, 1) := by decide +kernel
theorem dX10_name_8 : decode cX10_name 8 = .ok (.aload_n 0, 1) := by decide +kernel
theorem dX10_name_9 : decode cX10_name 9 = .ok (.getfield 12, 3) := by decide +kernel
theorem dX10_name_12 : decode cX10_name 12 = .ok (.iload_n 2, 1) := by decide +kernel
theorem dX10_name_13 : decode cX10_name 13 = .ok (.invokevirtual 79, 3) := by decide +kernel
theorem dX10_name_16 : decode cX10_name 16 = .ok (.ifCond .eq 10, 3) := by decide +kernel
theorem dX10_name_19 : decode cX10_name 19 = .ok (.iload_n 1, 1) := by decide +kernel
theorem dX10_name_20 : decode cX10_name 20 = .ok (.invokestatic 83, 3) := by decide +kernel
theorem dX10_name_23 : decode cX10_name 23 = .ok (.ifCond .ne 6, 3) := by decide +kernel
theorem dX10_name_26 : decode cX10_name 26 = .ok (.bipush (-2), 2) := by decide +kernel
theorem dX10_name_28 : decode cX10_name 28 = .ok (.ireturn, 1) := by decide +kernel
theorem dX10_name_29 : decode cX10_name 29 = .ok (.aload_n 0, 1) := by decide +kernel
theorem dX10_name_30 : decode cX10_name 30 = .ok (.getfield 12, 3) := by decide +kernel
theorem dX10_name_33 : decode cX10_name 33 = .ok (.iload_n 2, 1) := by decide +kernel
theorem dX10_name_34 : decode cX10_name 34 = .ok (.invokevirtual 86, 3) := by decide +kernel
theorem dX10_name_37 : decode cX10_name 37 = .ok (.bipush 20, 2) := by decide +kernel
theorem dX10_name_39 : decode cX10_name 39 = .ok (.if_icmp .lt 6, 3) := by decide +kernel
theorem dX10_name_42 : decode cX10_name 42 = .ok (.bipush (-4), 2) := by decide +kernel
theorem dX10_name_44 : decode cX10_name 44 = .ok (.ireturn, 1) := by decide +kernel
theorem dX10_name_45 : decode cX10_name 45 = .ok (.aload_n 0, 1) := by decide +kernel
theorem dX10_name_46 : decode cX10_name 46 = .ok (.getfield 12, 3) := by decide +kernel
theorem dX10_name_49 : decode cX10_name 49 = .ok (.iload_n 1, 1) := by decide +kernel
theorem dX10_name_50 : decode cX10_name 50 = .ok (.invokevirtual 90, 3) := by decide +kernel
theorem dX10_name_53 : decode cX10_name 53 = .ok (.aload_n 0, 1) := by decide +kernel
theorem dX10_name_54 : decode cX10_name 54 = .ok (.getfield 12, 3) := by decide +kernel
theorem dX10_name_57 : decode cX10_name 57 = .ok (.iload_n 2, 1) := by decide +kernel
theorem dX10_name_58 : decode cX10_name 58 = .ok (.invokevirtual 86, 3) := by decide +kernel
theorem dX10_name_61 : decode cX10_name 61 = .ok (.ireturn, 1) := by decide +kernel
theorem dX10_data_0 : decode cX10_data 0 = .ok (.aload_n 0, 1) := by decide +kernel
theorem dX10_data_1 : decode cX10_data 1 = .ok (.getfield 12, 3) := by decide +kernel
theorem dX10_data_4 : decode cX10_data 4 = .ok (.invokevirtual 76, 3) := by decide +kernel
theorem dX10_data_7 : decode cX10_data 7 = .ok (.istore_n 2, 1) := by decide +kernel
theorem dX10_data_8 : decode cX10_data 8 = .ok (.aload_n 0, 1) := by decide +kernel
theorem dX10_data_9 : decode cX10_data 9 = .ok (.getfield 12, 3) := by decide +kernel
theorem dX10_data_12 : decode cX10_data 12 = .ok (.iload_n 2, 1) := by decide +kernel
theorem dX10_data_13 : decode cX10_data 13 = .ok (.invokevirtual 79, 3) := by decide +kernel
theorem dX10_data_16 : decode cX10_data 16 = .ok (.ifCond .eq 10, 3) := by decide +kernel
theorem dX10_data_19 : decode cX10_data 19 = .ok (.iload_n 1, 1) := by decide +kernel
theorem dX10_data_20 : decode cX10_data 20 = .ok (.invokestatic 93, 3) := by decide +kernel
theorem dX10_data_23 : decode cX10_data 23 = .ok (.ifCond .ne 6, 3) := by decide +kernel
theorem dX10_data_26 : decode cX10_data 26 = .ok (.bipush (-2), 2) := by decide +kernel
theorem dX10_data_28 : decode cX10_data 28 = .ok (.ireturn, 1) := by decide +kernel
theorem dX10_data_29 : decode cX10_data 29 = .ok (.aload_n 0, 1) := by decide +kernel
theorem dX10_data_30 : decode cX10_data 30 = .ok (.getfield 12, 3) := by decide +kernel
theorem dX10_data_33 : decode cX10_data 33 = .ok (.iload_n 2, 1) := by decide +kernel
theorem dX10_data_34 : decode cX10_data 34 = .ok (.invokevirtual 96, 3) := by decide +kernel
theorem dX10_data_37 : decode cX10_data 37 = .ok (.ifCond .eq 6, 3) := by decide +kernel
theorem dX10_data_40 : decode cX10_data 40 = .ok (.bipush (-3), 2) := by decide +kernel
theorem dX10_data_42 : decode cX10_data 42 = .ok (.ireturn, 1) := by decide +kernel
theorem dX10_data_43 : decode cX10_data 43 = .ok (.aload_n 0, 1) := by decide +kernel
theorem dX10_data_44 : decode cX10_data 44 = .ok (.getfield 12, 3) := by decide +kernel
theorem dX10_data_47 : decode cX10_data 47 = .ok (.iload_n 2, 1) := by decide +kernel
theorem dX10_data_48 : decode cX10_data 48 = .ok (.invokevirtual 99, 3) := by decide +kernel
theorem dX10_data_51 : decode cX10_data 51 = .ok (.bipush 60, 2) := by decide +kernel
theorem dX10_data_53 : decode cX10_data 53 = .ok (.if_icmp .lt 6, 3) := by decide +kernel
theorem dX10_data_56 : decode cX10_data 56 = .ok (.bipush (-4), 2) := by decide +kernel
theorem dX10_data_58 : decode cX10_data 58 = .ok (.ireturn, 1) := by decide +kernel
theorem dX10_data_59 : decode cX10_data 59 = .ok (.aload_n 0, 1) := by decide +kernel
theorem dX10_data_60 : decode cX10_data 60 = .ok (.getfield 12, 3) := by decide +kernel
theorem dX10_data_63 : decode cX10_data 63 = .ok (.iload_n 1, 1) := by decide +kernel
theorem dX10_data_64 : decode cX10_data 64 = .ok (.invokevirtual 102, 3) := by decide +kernel
theorem dX10_data_67 : decode cX10_data 67 = .ok (.aload_n 0, 1) := by decide +kernel
theorem dX10_data_68 : decode cX10_data 68 = .ok (.getfield 12, 3) := by decide +kernel
theorem dX10_data_71 : decode cX10_data 71 = .ok (.iload_n 2, 1) := by decide +kernel
theorem dX10_data_72 : decode cX10_data 72 = .ok (.invokevirtual 99, 3) := by decide +kernel
theorem dX10_data_75 : decode cX10_data 75 = .ok (.ireturn, 1) := by decide +kernel
theorem dX10_link_0 : decode cX10_link 0 = .ok (.aload_n 0, 1) := by decide +kernel
theorem dX10_link_1 : decode cX10_link 1 = .ok (.getfield 12, 3) := by decide +kernel
theorem dX10_link_4 : decode cX10_link 4 = .ok (.invokevirtual 76, 3) := by decide +kernel
theorem dX10_link_7 : decode cX10_link 7 = .ok (.istore_n 2, 1) := by decide +kernel
theorem dX10_link_8 : decode cX10_link 8 = .ok (.iload_n 1, 1) := by decide +kernel
theorem dX10_link_9 : decode cX10_link 9 = .ok (.ifCond .lt 8, 3) := by decide +kernel
theorem dX10_link_12 : decode cX10_link 12 = .ok (.iload_n 1, 1) := by decide +kernel
theorem dX10_link_13 : decode cX10_link 13 = .ok (.iload_n 2, 1) := by decide +kernel
theorem dX10_link_14 : decode cX10_link 14 = .ok (.if_icmp .lt 6, 3) := by decide +kernel
theorem dX10_link_17 : decode cX10_link 17 = .ok (.bipush (-2), 2) := by decide +kernel
theorem dX10_link_19 : decode cX10_link 19 = .ok (.ireturn, 1) := by decide +kernel
theorem dX10_link_20 : decode cX10_link 20 = .ok (.aload_n 0, 1) := by decide +kernel
theorem dX10_link_21 : decode cX10_link 21 = .ok (.getfield 12, 3) := by decide +kernel
theorem dX10_link_24 : decode cX10_link 24 = .ok (.iload_n 1, 1) := by decide +kernel
theorem dX10_link_25 : decode cX10_link 25 = .ok (.invokevirtual 96, 3) := by decide +kernel
theorem dX10_link_28 : decode cX10_link 28 = .ok (.ifCond .ne 25, 3) := by decide +kernel
theorem dX10_link_31 : decode cX10_link 31 = .ok (.aload_n 0, 1) := by decide +kernel
theorem dX10_link_32 : decode cX10_link 32 = .ok (.getfield 12, 3) := by decide +kernel
theorem dX10_link_35 : decode cX10_link 35 = .ok (.iload_n 2, 1) := by decide +kernel
theorem dX10_link_36 : decode cX10_link 36 = .ok (.invokevirtual 96, 3) := by decide +kernel
theorem dX10_link_39 : decode cX10_link 39 = .ok (.ifCond .ne 14, 3) := by decide +kernel
theorem dX10_link_42 : decode cX10_link 42 = .ok (.aload_n 0, 1) := by decide +kernel
theorem dX10_link_43 : decode cX10_link 43 = .ok (.getfield 12, 3) := by decide +kernel
theorem dX10_link_46 : decode cX10_link 46 = .ok (.iload_n 2, 1) := by decide +kernel
theorem dX10_link_47 : decode cX10_link 47 = .ok (.invokevirtual 99, 3) := by decide +kernel
theorem dX10_link_50 : decode cX10_link 50 = .ok (.ifCond .le 6, 3) := by decide +kernel
theorem dX10_link_53 : decode cX10_link 53 = .ok (.bipush (-3), 2) := by decide +kernel
theorem dX10_link_55 : decode cX10_link 55 = .ok (.ireturn, 1) := by decide +kernel
theorem dX10_link_56 : decode cX10_link 56 = .ok (.aload_n 0, 1) := by decide +kernel
theorem dX10_link_57 : decode cX10_link 57 = .ok (.getfield 12, 3) := by decide +kernel
theorem dX10_link_60 : decode cX10_link 60 = .ok (.iload_n 1, 1) := by decide +kernel
theorem dX10_link_61 : decode cX10_link 61 = .ok (.invokevirtual 105, 3) := by decide +kernel
theorem dX10_link_64 : decode cX10_link 64 = .ok (.iconst 1, 1) := by decide +kernel
theorem dX10_link_65 : decode cX10_link 65 = .ok (.ireturn, 1) := by decide +kernel
theorem dX10_clear_0 : decode cX10_clear 0 = .ok (.aload_n 0, 1) := by decide +kernel
theorem dX10_clear_1 : decode cX10_clear 1 = .ok (.getfield 12, 3) := by decide +kernel
theorem dX10_clear_4 : decode cX10_clear 4 = .ok (.invokevirtual 69, 3) := by decide +kernel
theorem dX10_clear_7 : decode cX10_clear 7 = .ok (.istore_n 1, 1) := by decide +kernel
theorem dX10_clear_8 : decode cX10_clear 8 = .ok (.aload_n 0, 1) := by decide +kernel
theorem dX10_clear_9 : decode cX10_clear 9 = .ok (.getfield 12, 3) := by decide +kernel
theorem dX10_clear_12 : decode cX10_clear 12 = .ok (.invokevirtual 108, 3) := by decide +kernel
theorem dX10_clear_15 : decode cX10_clear 15 = .ok (.iload_n 1, 1) := by decide +kernel
theorem dX10_clear_16 : decode cX10_clear 16 = .ok (.ireturn, 1) := by decide +kernel
theorem dX10_write_0 : decode cX10_write 0 = .ok (.iload_n 1, 1) := by decide +kernel
theorem dX10_write_1 : decode cX10_write 1 = .ok (.invokestatic 111, 3) := by decide +kernel
theorem dX10_write_4 : decode cX10_write 4 = .ok (.ifCond .ne 6, 3) := by decide +kernel
theorem dX10_write_7 : decode cX10_write 7 = .ok (.bipush (-2), 2) := by decide +kernel
theorem dX10_write_9 : decode cX10_write 9 = .ok (.ireturn, 1) := by decide +kernel
theorem dX10_write_10 : decode cX10_write 10 = .ok (.aload_n 0, 1) := by decide +kernel
theorem dX10_write_11 : decode cX10_write 11 = .ok (.getfield 12, 3) := by decide +kernel
theorem dX10_write_14 : decode cX10_write 14 = .ok (.invokevirtual 65, 3) := by decide +kernel
theorem dX10_write_17 : decode cX10_write 17 = .ok (.ifCond .ne 13, 3) := by decide +kernel
theorem dX10_write_20 : decode cX10_write 20 = .ok (.aload_n 0, 1) := by decide +kernel
theorem dX10_write_21 : decode cX10_write 21 = .ok (.getfield 12, 3) := by decide +kernel
theorem dX10_write_24 : decode cX10_write 24 = .ok (.invokevirtual 114, 3) := by decide +kernel
theorem dX10_write_27 : decode cX10_write 27 = .ok (.ifCond .eq 6, 3) := by decide +kernel
theorem dX10_write_30 : decode cX10_write 30 = .ok (.bipush (-3), 2) := by decide +kernel
theorem dX10_write_32 : decode cX10_write 32 = .ok (.ireturn, 1) := by decide +kernel
theorem dX10_write_33 : decode cX10_write 33 = .ok (.aload_n 0, 1) := by decide +kernel
theorem dX10_write_34 : decode cX10_write 34 = .ok (.getfield 25, 3) := by decide +kernel
theorem dX10_write_37 : decode cX10_write 37 = .ok (.invokevirtual 117, 3) := by decide +kernel
theorem dX10_write_40 : decode cX10_write 40 = .ok (.aload_n 0, 1) := by decide +kernel
theorem dX10_write_41 : decode cX10_write 41 = .ok (.iload_n 1, 1) := by decide +kernel
theorem dX10_write_42 : decode cX10_write 42 = .ok (.invokevirtual 118, 3) := by decide +kernel
theorem dX10_write_45 : decode cX10_write 45 = .ok (.aload_n 0, 1) := by decide +kernel
theorem dX10_write_46 : decode cX10_write 46 = .ok (.getfield 12, 3) := by decide +kernel
theorem dX10_write_49 : decode cX10_write 49 = .ok (.aload_n 0, 1) := by decide +kernel
theorem dX10_write_50 : decode cX10_write 50 = .ok (.getfield 25, 3) := by decide +kernel
theorem dX10_write_53 : decode cX10_write 53 = .ok (.invokevirtual 122, 3) := by decide +kernel
theorem dX10_write_56 : decode cX10_write 56 = .ok (.aload_n 0, 1) := by decide +kernel
theorem dX10_write_57 : decode cX10_write 57 = .ok (.getfield 25, 3) := by decide +kernel
theorem dX10_write_60 : decode cX10_write 60 = .ok (.invokevirtual 128, 3) := by decide +kernel
theorem dX10_write_63 : decode cX10_write 63 = .ok (.ifCond .eq 6, 3) := by decide +kernel
theorem dX10_write_66 : decode cX10_write 66 = .ok (.bipush (-4), 2) := by decide +kernel
theorem dX10_write_68 : decode cX10_write 68 = .ok (.ireturn, 1) := by decide +kernel
theorem dX10_write_69 : decode cX10_write 69 = .ok (.aload_n 0, 1) := by decide +kernel
theorem dX10_write_70 : decode cX10_write 70 = .ok (.getfield 21, 3) := by decide +kernel
theorem dX10_write_73 : decode cX10_write 73 = .ok (.aload_n 0, 1) := by decide +kernel
theorem dX10_write_74 : decode cX10_write 74 = .ok (.getfield 25, 3) := by decide +kernel
theorem dX10_write_77 : decode cX10_write 77 = .ok (.invokevirtual 131, 3) := by decide +kernel
theorem dX10_write_80 : decode cX10_write 80 = .ok (.aload_n 0, 1) := by decide +kernel
theorem dX10_write_81 : decode cX10_write 81 = .ok (.getfield 21, 3) := by decide +kernel
theorem dX10_write_84 : decode cX10_write 84 = .ok (.invokevirtual 134, 3) := by decide +kernel
theorem dX10_write_87 : decode cX10_write 87 = .ok (.ireturn, 1) := by decide +kernel
theorem dX10_put_0 : decode cX10_put 0 = .ok (.iload_n 1, 1) := by decide +kernel
theorem dX10_put_1 : decode cX10_put 1 = .ok (.invokestatic 93, 3) := by decide +kernel
theorem dX10_put_4 : decode cX10_put 4 = .ok (.ifCond .ne 6, 3) := by decide +kernel
theorem dX10_put_7 : decode cX10_put 7 = .ok (.bipush (-2), 2) := by decide +kernel
theorem dX10_put_9 : decode cX10_put 9 = .ok (.ireturn, 1) := by decide +kernel
theorem dX10_put_10 : decode cX10_put 10 = .ok (.aload_n 0, 1) := by decide +kernel
theorem dX10_put_11 : decode cX10_put 11 = .ok (.getfield 21, 3) := by decide +kernel
theorem dX10_put_14 : decode cX10_put 14 = .ok (.invokevirtual 137, 3) := by decide +kernel
theorem dX10_put_17 : decode cX10_put 17 = .ok (.ifCond .eq 6, 3) := by decide +kernel
theorem dX10_put_20 : decode cX10_put 20 = .ok (.bipush (-4), 2) := by decide +kernel
theorem dX10_put_22 : decode cX10_put 22 = .ok (.ireturn, 1) := by decide +kernel
theorem dX10_put_23 : decode cX10_put 23 = .ok (.aload_n 0, 1) := by decide +kernel
theorem dX10_put_24 : decode cX10_put 24 = .ok (.getfield 21, 3) := by decide +kernel
theorem dX10_put_27 : decode cX10_put 27 = .ok (.iload_n 1, 1) := by decide +kernel
theorem dX10_put_28 : decode cX10_put 28 = .ok (.invokevirtual 140, 3) := by decide +kernel
theorem dX10_put_31 : decode cX10_put 31 = .ok (.aload_n 0, 1) := by decide +kernel
theorem dX10_put_32 : decode cX10_put 32 = .ok (.getfield 21, 3) := by decide +kernel
theorem dX10_put_35 : decode cX10_put 35 = .ok (.invokevirtual 134, 3) := by decide +kernel
theorem dX10_put_38 : decode cX10_put 38 = .ok (.ireturn, 1) := by decide +kernel
theorem dX10_row_0 : decode cX10_row 0 = .ok (.iload_n 1, 1) := by decide +kernel
theorem dX10_row_1 : decode cX10_row 1 = .ok (.iconst (-1), 1) := by decide +kernel
theorem dX10_row_2 : decode cX10_row 2 = .ok (.if_icmp .ne 11, 3) := by decide +kernel
theorem dX10_row_5 : decode cX10_row 5 = .ok (.aload_n 0, 1) := by decide +kernel
theorem dX10_row_6 : decode cX10_row 6 = .ok (.getfield 21, 3) := by decide +kernel
theorem dX10_row_9 : decode cX10_row 9 = .ok (.invokevirtual 134, 3) := by decide +kernel
theorem dX10_row_12 : decode cX10_row 12 = .ok (.ireturn, 1) := by decide +kernel
theorem dX10_row_13 : decode cX10_row 13 = .ok (.aload_n 0, 1) := by decide +kernel
theorem dX10_row_14 : decode cX10_row 14 = .ok (.getfield 21, 3) := by decide +kernel
theorem dX10_row_17 : decode cX10_row 17 = .ok (.iload_n 1, 1) := by decide +kernel
theorem dX10_row_18 : decode cX10_row 18 = .ok (.invokevirtual 143, 3) := by decide +kernel
theorem dX10_row_21 : decode cX10_row 21 = .ok (.ifCond .eq 14, 3) := by decide +kernel
theorem dX10_row_24 : decode cX10_row 24 = .ok (.aload_n 0, 1) := by decide +kernel
theorem dX10_row_25 : decode cX10_row 25 = .ok (.getfield 21, 3) := by decide +kernel
theorem dX10_row_28 : decode cX10_row 28 = .ok (.iload_n 1, 1) := by decide +kernel
theorem dX10_row_29 : decode cX10_row 29 = .ok (.invokevirtual 144, 3) := by decide +kernel
theorem dX10_row_32 : decode cX10_row 32 = .ok (.goto 5, 3) := by decide +kernel
theorem dX10_row_35 : decode cX10_row 35 = .ok (.bipush (-2), 2) := by decide +kernel
theorem dX10_row_37 : decode cX10_row 37 = .ok (.ireturn, 1) := by decide +kernel
theorem dX10_poke_0 : decode cX10_poke 0 = .ok (.aload_n 0, 1) := by decide +kernel
theorem dX10_poke_1 : decode cX10_poke 1 = .ok (.getfield 21, 3) := by decide +kernel
theorem dX10_poke_4 : decode cX10_poke 4 = .ok (.iload_n 1, 1) := by decide +kernel
theorem dX10_poke_5 : decode cX10_poke 5 = .ok (.invokevirtual 143, 3) := by decide +kernel
theorem dX10_poke_8 : decode cX10_poke 8 = .ok (.ifCond .eq 10, 3) := by decide +kernel
theorem dX10_poke_11 : decode cX10_poke 11 = .ok (.iload_n 2, 1) := by decide +kernel
theorem dX10_poke_12 : decode cX10_poke 12 = .ok (.invokestatic 93, 3) := by decide +kernel
theorem dX10_poke_15 : decode cX10_poke 15 = .ok (.ifCond .ne 6, 3) := by decide +kernel
theorem dX10_poke_18 : decode cX10_poke 18 = .ok (.bipush (-2), 2) := by decide +kernel
theorem dX10_poke_20 : decode cX10_poke 20 = .ok (.ireturn, 1) := by decide +kernel
theorem dX10_poke_21 : decode cX10_poke 21 = .ok (.aload_n 0, 1) := by decide +kernel
theorem dX10_poke_22 : decode cX10_poke 22 = .ok (.getfield 21, 3) := by decide +kernel
theorem dX10_poke_25 : decode cX10_poke 25 = .ok (.iload_n 1, 1) := by decide +kernel
theorem dX10_poke_26 : decode cX10_poke 26 = .ok (.invokevirtual 144, 3) := by decide +kernel
theorem dX10_poke_29 : decode cX10_poke 29 = .ok (.istore_n 3, 1) := by decide +kernel
theorem dX10_poke_30 : decode cX10_poke 30 = .ok (.aload_n 0, 1) := by decide +kernel
theorem dX10_poke_31 : decode cX10_poke 31 = .ok (.getfield 21, 3) := by decide +kernel
theorem dX10_poke_34 : decode cX10_poke 34 = .ok (.iload_n 1, 1) := by decide +kernel
theorem dX10_poke_35 : decode cX10_poke 35 = .ok (.iload_n 2, 1) := by decide +kernel
theorem dX10_poke_36 : decode cX10_poke 36 = .ok (.invokevirtual 147, 3) := by decide +kernel
theorem dX10_poke_39 : decode cX10_poke 39 = .ok (.iload_n 3, 1) := by decide +kernel
theorem dX10_poke_40 : decode cX10_poke 40 = .ok (.ireturn, 1) := by decide +kernel
theorem dX10_cut_0 : decode cX10_cut 0 = .ok (.aload_n 0, 1) := by decide +kernel
theorem dX10_cut_1 : decode cX10_cut 1 = .ok (.getfield 21, 3) := by decide +kernel
theorem dX10_cut_4 : decode cX10_cut 4 = .ok (.invokevirtual 134, 3) := by decide +kernel
theorem dX10_cut_7 : decode cX10_cut 7 = .ok (.istore_n 2, 1) := by decide +kernel
theorem dX10_cut_8 : decode cX10_cut 8 = .ok (.iload_n 1, 1) := by decide +kernel
theorem dX10_cut_9 : decode cX10_cut 9 = .ok (.ifCond .lt 8, 3) := by decide +kernel
theorem dX10_cut_12 : decode cX10_cut 12 = .ok (.iload_n 1, 1) := by decide +kernel
theorem dX10_cut_13 : decode cX10_cut 13 = .ok (.iload_n 2, 1) := by decide +kernel
theorem dX10_cut_14 : decode cX10_cut 14 = .ok (.if_icmp .le 6, 3) := by decide +kernel
theorem dX10_cut_17 : decode cX10_cut 17 = .ok (.bipush (-2), 2) := by decide +kernel
theorem dX10_cut_19 : decode cX10_cut 19 = .ok (.ireturn, 1) := by decide +kernel
theorem dX10_cut_20 : decode cX10_cut 20 = .ok (.aload_n 0, 1) := by decide +kernel
theorem dX10_cut_21 : decode cX10_cut 21 = .ok (.getfield 21, 3) := by decide +kernel
theorem dX10_cut_24 : decode cX10_cut 24 = .ok (.iload_n 1, 1) := by decide +kernel
theorem dX10_cut_25 : decode cX10_cut 25 = .ok (.invokevirtual 151, 3) := by decide +kernel
theorem dX10_cut_28 : decode cX10_cut 28 = .ok (.iload_n 2, 1) := by decide +kernel
theorem dX10_cut_29 : decode cX10_cut 29 = .ok (.iload_n 1, 1) := by decide +kernel
theorem dX10_cut_30 : decode cX10_cut 30 = .ok (.isub, 1) := by decide +kernel
theorem dX10_cut_31 : decode cX10_cut 31 = .ok (.ireturn, 1) := by decide +kernel
theorem dX10_read_0 : decode cX10_read 0 = .ok (.iload_n 1, 1) := by decide +kernel
theorem dX10_read_1 : decode cX10_read 1 = .ok (.invokestatic 111, 3) := by decide +kernel
theorem dX10_read_4 : decode cX10_read 4 = .ok (.ifCond .ne 6, 3) := by decide +kernel
theorem dX10_read_7 : decode cX10_read 7 = .ok (.bipush (-2), 2) := by decide +kernel
theorem dX10_read_9 : decode cX10_read 9 = .ok (.ireturn, 1) := by decide +kernel
theorem dX10_read_10 : decode cX10_read 10 = .ok (.aload_n 0, 1) := by decide +kernel
theorem dX10_read_11 : decode cX10_read 11 = .ok (.getfield 31, 3) := by decide +kernel
theorem dX10_read_14 : decode cX10_read 14 = .ok (.invokevirtual 154, 3) := by decide +kernel
theorem dX10_read_17 : decode cX10_read 17 = .ok (.aload_n 0, 1) := by decide +kernel
theorem dX10_read_18 : decode cX10_read 18 = .ok (.getfield 40, 3) := by decide +kernel
theorem dX10_read_21 : decode cX10_read 21 = .ok (.invokevirtual 155, 3) := by decide +kernel
theorem dX10_read_24 : decode cX10_read 24 = .ok (.aload_n 0, 1) := by decide +kernel
theorem dX10_read_25 : decode cX10_read 25 = .ok (.iload_n 1, 1) := by decide +kernel
theorem dX10_read_26 : decode cX10_read 26 = .ok (.invokevirtual 118, 3) := by decide +kernel
theorem dX10_read_29 : decode cX10_read 29 = .ok (.aload_n 0, 1) := by decide +kernel
theorem dX10_read_30 : decode cX10_read 30 = .ok (.getfield 40, 3) := by decide +kernel
theorem dX10_read_33 : decode cX10_read 33 = .ok (.aload_n 0, 1) := by decide +kernel
theorem dX10_read_34 : decode cX10_read 34 = .ok (.getfield 31, 3) := by decide +kernel
theorem dX10_read_37 : decode cX10_read 37 = .ok (.invokevirtual 156, 3) := by decide +kernel
theorem dX10_read_40 : decode cX10_read 40 = .ok (.aload_n 0, 1) := by decide +kernel
theorem dX10_read_41 : decode cX10_read 41 = .ok (.getfield 40, 3) := by decide +kernel
theorem dX10_read_44 : decode cX10_read 44 = .ok (.invokevirtual 160, 3) := by decide +kernel
theorem dX10_read_47 : decode cX10_read 47 = .ok (.ifCond .eq 16, 3) := by decide +kernel
theorem dX10_read_50 : decode cX10_read 50 = .ok (.bipush (-20), 2) := by decide +kernel
theorem dX10_read_52 : decode cX10_read 52 = .ok (.aload_n 0, 1) := by decide +kernel
theorem dX10_read_53 : decode cX10_read 53 = .ok (.getfield 40, 3) := by decide +kernel
theorem dX10_read_56 : decode cX10_read 56 = .ok (.invokevirtual 163, 3) := by decide +kernel
theorem dX10_read_59 : decode cX10_read 59 = .ok (.isub, 1) := by decide +kernel
theorem dX10_read_60 : decode cX10_read 60 = .ok (.goto 10, 3) := by decide +kernel
theorem dX10_read_63 : decode cX10_read 63 = .ok (.aload_n 0, 1) := by decide +kernel
theorem dX10_read_64 : decode cX10_read 64 = .ok (.getfield 31, 3) := by decide +kernel
theorem dX10_read_67 : decode cX10_read 67 = .ok (.invokevirtual 166, 3) := by decide +kernel
theorem dX10_read_70 : decode cX10_read 70 = .ok (.ireturn, 1) := by decide +kernel
theorem dX10_place_0 : decode cX10_place 0 = .ok (.aload_n 0, 1) := by decide +kernel
theorem dX10_place_1 : decode cX10_place 1 = .ok (.getfield 40, 3) := by decide +kernel
theorem dX10_place_4 : decode cX10_place 4 = .ok (.invokevirtual 167, 3) := by decide +kernel
theorem dX10_place_7 : decode cX10_place 7 = .ok (.ireturn, 1) := by decide +kernel
theorem dX10_entries_0 : decode cX10_entries 0 = .ok (.aload_n 0, 1) := by decide +kernel
theorem dX10_entries_1 : decode cX10_entries 1 = .ok (.getfield 31, 3) := by decide +kernel
theorem dX10_entries_4 : decode cX10_entries 4 = .ok (.invokevirtual 166, 3) := by decide +kernel
theorem dX10_entries_7 : decode cX10_entries 7 = .ok (.ireturn, 1) := by decide +kernel
theorem dX10_told_0 : decode cX10_told 0 = .ok (.aload_n 0, 1) := by decide +kernel
theorem dX10_told_1 : decode cX10_told 1 = .ok (.getfield 31, 3) := by decide +kernel
theorem dX10_told_4 : decode cX10_told 4 = .ok (.iload_n 1, 1) := by decide +kernel
theorem dX10_told_5 : decode cX10_told 5 = .ok (.invokevirtual 170, 3) := by decide +kernel
theorem dX10_told_8 : decode cX10_told 8 = .ok (.ifCond .ne 6, 3) := by decide +kernel
theorem dX10_told_11 : decode cX10_told 11 = .ok (.bipush (-2), 2) := by decide +kernel
theorem dX10_told_13 : decode cX10_told 13 = .ok (.ireturn, 1) := by decide +kernel
theorem dX10_told_14 : decode cX10_told 14 = .ok (.iload_n 2, 1) := by decide +kernel
theorem dX10_told_15 : decode cX10_told 15 = .ok (.tableswitch 79 0 4 #[33, 42, 51, 60, 69], 33) := by decide +kernel
theorem dX10_told_48 : decode cX10_told 48 = .ok (.aload_n 0, 1) := by decide +kernel
theorem dX10_told_49 : decode cX10_told 49 = .ok (.getfield 31, 3) := by decide +kernel
theorem dX10_told_52 : decode cX10_told 52 = .ok (.iload_n 1, 1) := by decide +kernel
theorem dX10_told_53 : decode cX10_told 53 = .ok (.invokevirtual 171, 3) := by decide +kernel
theorem dX10_told_56 : decode cX10_told 56 = .ok (.ireturn, 1) := by decide +kernel
theorem dX10_told_57 : decode cX10_told 57 = .ok (.aload_n 0, 1) := by decide +kernel
theorem dX10_told_58 : decode cX10_told 58 = .ok (.getfield 31, 3) := by decide +kernel
theorem dX10_told_61 : decode cX10_told 61 = .ok (.iload_n 1, 1) := by decide +kernel
theorem dX10_told_62 : decode cX10_told 62 = .ok (.invokevirtual 172, 3) := by decide +kernel
theorem dX10_told_65 : decode cX10_told 65 = .ok (.ireturn, 1) := by decide +kernel
theorem dX10_told_66 : decode cX10_told 66 = .ok (.aload_n 0, 1) := by decide +kernel
theorem dX10_told_67 : decode cX10_told 67 = .ok (.getfield 31, 3) := by decide +kernel
theorem dX10_told_70 : decode cX10_told 70 = .ok (.iload_n 1, 1) := by decide +kernel
theorem dX10_told_71 : decode cX10_told 71 = .ok (.invokevirtual 173, 3) := by decide +kernel
theorem dX10_told_74 : decode cX10_told 74 = .ok (.ireturn, 1) := by decide +kernel
theorem dX10_told_75 : decode cX10_told 75 = .ok (.aload_n 0, 1) := by decide +kernel
theorem dX10_told_76 : decode cX10_told 76 = .ok (.getfield 31, 3) := by decide +kernel
theorem dX10_told_79 : decode cX10_told 79 = .ok (.iload_n 1, 1) := by decide +kernel
theorem dX10_told_80 : decode cX10_told 80 = .ok (.invokevirtual 176, 3) := by decide +kernel
theorem dX10_told_83 : decode cX10_told 83 = .ok (.ireturn, 1) := by decide +kernel
theorem dX10_told_84 : decode cX10_told 84 = .ok (.aload_n 0, 1) := by decide +kernel
theorem dX10_told_85 : decode cX10_told 85 = .ok (.getfield 31, 3) := by decide +kernel
theorem dX10_told_88 : decode cX10_told 88 = .ok (.iload_n 1, 1) := by decide +kernel
theorem dX10_told_89 : decode cX10_told 89 = .ok (.iload_n 3, 1) := by decide +kernel
theorem dX10_told_90 : decode cX10_told 90 = .ok (.invokevirtual 179, 3) := by decide +kernel
theorem dX10_told_93 : decode cX10_told 93 = .ok (.ireturn, 1) := by decide +kernel
theorem dX10_told_94 : decode cX10_told 94 = .ok (.bipush (-2), 2) := by decide +kernel
theorem dX10_told_96 : decode cX10_told 96 = .ok (.ireturn, 1) := by decide +kernel
theorem dX10_got_0 : decode cX10_got 0 = .ok (.aload_n 0, 1) := by decide +kernel
theorem dX10_got_1 : decode cX10_got 1 = .ok (.getfield 31, 3) := by decide +kernel
theorem dX10_got_4 : decode cX10_got 4 = .ok (.iload_n 1, 1) := by decide +kernel
theorem dX10_got_5 : decode cX10_got 5 = .ok (.iload_n 2, 1) := by decide +kernel
theorem dX10_got_6 : decode cX10_got 6 = .ok (.invokevirtual 183, 3) := by decide +kernel
theorem dX10_got_9 : decode cX10_got 9 = .ok (.istore_n 3, 1) := by decide +kernel
theorem dX10_got_10 : decode cX10_got 10 = .ok (.iload_n 3, 1) := by decide +kernel
theorem dX10_got_11 : decode cX10_got 11 = .ok (.iconst (-1), 1) := by decide +kernel
theorem dX10_got_12 : decode cX10_got 12 = .ok (.if_icmp .ne 13, 3) := by decide +kernel
theorem dX10_got_15 : decode cX10_got 15 = .ok (.new 186, 3) := by decide +kernel
theorem dX10_got_18 : decode cX10_got 18 = .ok (.dup, 1) := by decide +kernel
theorem dX10_got_19 : decode cX10_got 19 = .ok (.ldc 188, 2) := by decide +kernel
theorem dX10_got_21 : decode cX10_got 21 = .ok (.invokespecial 190, 3) := by decide +kernel
theorem dX10_got_24 : decode cX10_got 24 = .ok (.athrow, 1) := by decide +kernel
theorem dX10_got_25 : decode cX10_got 25 = .ok (.iload_n 3, 1) := by decide +kernel
theorem dX10_got_26 : decode cX10_got 26 = .ok (.ireturn, 1) := by decide +kernel
theorem dX10_same_0 : decode cX10_same 0 = .ok (.aload_n 0, 1) := by decide +kernel
theorem dX10_same_1 : decode cX10_same 1 = .ok (.getfield 31, 3) := by decide +kernel
theorem dX10_same_4 : decode cX10_same 4 = .ok (.invokevirtual 166, 3) := by decide +kernel
theorem dX10_same_7 : decode cX10_same 7 = .ok (.aload_n 0, 1) := by decide +kernel
theorem dX10_same_8 : decode cX10_same 8 = .ok (.getfield 12, 3) := by decide +kernel
theorem dX10_same_11 : decode cX10_same 11 = .ok (.invokevirtual 69, 3) := by decide +kernel
theorem dX10_same_14 : decode cX10_same 14 = .ok (.if_icmp .eq 5, 3) := by decide +kernel
theorem dX10_same_17 : decode cX10_same 17 = .ok (.iconst 0, 1) := by decide +kernel
theorem dX10_same_18 : decode cX10_same 18 = .ok (.ireturn, 1) := by decide +kernel
theorem dX10_same_19 : decode cX10_same 19 = .ok (.iconst 0, 1) := by decide +kernel
theorem dX10_same_20 : decode cX10_same 20 = .ok (.istore_n 1, 1) := by decide +kernel
theorem dX10_same_21 : decode cX10_same 21 = .ok (.iload_n 1, 1) := by decide +kernel
theorem dX10_same_22 : decode cX10_same 22 = .ok (.aload_n 0, 1) := by decide +kernel
theorem dX10_same_23 : decode cX10_same 23 = .ok (.getfield 12, 3) := by decide +kernel
theorem dX10_same_26 : decode cX10_same 26 = .ok (.invokevirtual 69, 3) := by decide +kernel
theorem dX10_same_29 : decode cX10_same 29 = .ok (.if_icmp .ge 41, 3) := by decide +kernel
theorem dX10_same_32 : decode cX10_same 32 = .ok (.aload_n 0, 1) := by decide +kernel
theorem dX10_same_33 : decode cX10_same 33 = .ok (.getfield 31, 3) := by decide +kernel
theorem dX10_same_36 : decode cX10_same 36 = .ok (.aload_n 0, 1) := by decide +kernel
theorem dX10_same_37 : decode cX10_same 37 = .ok (.getfield 12, 3) := by decide +kernel
theorem dX10_same_40 : decode cX10_same 40 = .ok (.iload_n 1, 1) := by decide +kernel
theorem dX10_same_41 : decode cX10_same 41 = .ok (.invokevirtual 193, 3) := by decide +kernel
theorem dX10_same_44 : decode cX10_same 44 = .ok (.ifCond .eq 18, 3) := by decide +kernel
theorem dX10_same_47 : decode cX10_same 47 = .ok (.aload_n 0, 1) := by decide +kernel
theorem dX10_same_48 : decode cX10_same 48 = .ok (.getfield 31, 3) := by decide +kernel
theorem dX10_same_51 : decode cX10_same 51 = .ok (.aload_n 0, 1) := by decide +kernel
theorem dX10_same_52 : decode cX10_same 52 = .ok (.getfield 12, 3) := by decide +kernel
theorem dX10_same_55 : decode cX10_same 55 = .ok (.iload_n 1, 1) := by decide +kernel
theorem dX10_same_56 : decode cX10_same 56 = .ok (.invokevirtual 197, 3) := by decide +kernel
theorem dX10_same_59 : decode cX10_same 59 = .ok (.ifCond .ne 5, 3) := by decide +kernel
theorem dX10_same_62 : decode cX10_same 62 = .ok (.iconst 0, 1) := by decide +kernel
theorem dX10_same_63 : decode cX10_same 63 = .ok (.ireturn, 1) := by decide +kernel
theorem dX10_same_64 : decode cX10_same 64 = .ok (.iinc 1 1, 3) := by decide +kernel
theorem dX10_same_67 : decode cX10_same 67 = .ok (.goto (-46), 3) := by decide +kernel
theorem dX10_same_70 : decode cX10_same 70 = .ok (.iconst 1, 1) := by decide +kernel
theorem dX10_same_71 : decode cX10_same 71 = .ok (.ireturn, 1) := by decide +kernel
theorem dX10_isForm_0 : decode cX10_isForm 0 = .ok (.iload_n 0, 1) := by decide +kernel
theorem dX10_isForm_1 : decode cX10_isForm 1 = .ok (.ifCond .lt 12, 3) := by decide +kernel
theorem dX10_isForm_4 : decode cX10_isForm 4 = .ok (.iload_n 0, 1) := by decide +kernel
theorem dX10_isForm_5 : decode cX10_isForm 5 = .ok (.iconst 2, 1) := by decide +kernel
theorem dX10_isForm_6 : decode cX10_isForm 6 = .ok (.if_icmp .gt 7, 3) := by decide +kernel
theorem dX10_isForm_9 : decode cX10_isForm 9 = .ok (.iconst 1, 1) := by decide +kernel
theorem dX10_isForm_10 : decode cX10_isForm 10 = .ok (.goto 4, 3) := by decide +kernel
theorem dX10_isForm_13 : decode cX10_isForm 13 = .ok (.iconst 0, 1) := by decide +kernel
theorem dX10_isForm_14 : decode cX10_isForm 14 = .ok (.ireturn, 1) := by decide +kernel
theorem dX10_formOf_0 : decode cX10_formOf 0 = .ok (.iload_n 1, 1) := by decide +kernel
theorem dX10_formOf_1 : decode cX10_formOf 1 = .ok (.lookupswitch 37 #[(0, 27), (1, 32)], 27) := by decide +kernel
theorem dX10_formOf_28 : decode cX10_formOf 28 = .ok (.aload_n 0, 1) := by decide +kernel
theorem dX10_formOf_29 : decode cX10_formOf 29 = .ok (.getfield 47, 3) := by decide +kernel
theorem dX10_formOf_32 : decode cX10_formOf 32 = .ok (.areturn, 1) := by decide +kernel
theorem dX10_formOf_33 : decode cX10_formOf 33 = .ok (.aload_n 0, 1) := by decide +kernel
theorem dX10_formOf_34 : decode cX10_formOf 34 = .ok (.getfield 54, 3) := by decide +kernel
theorem dX10_formOf_37 : decode cX10_formOf 37 = .ok (.areturn, 1) := by decide +kernel
theorem dX10_formOf_38 : decode cX10_formOf 38 = .ok (.aload_n 0, 1) := by decide +kernel
theorem dX10_formOf_39 : decode cX10_formOf 39 = .ok (.getfield 61, 3) := by decide +kernel
theorem dX10_formOf_42 : decode cX10_formOf 42 = .ok (.areturn, 1) := by decide +kernel
theorem dX10_isByte_0 : decode cX10_isByte 0 = .ok (.iload_n 0, 1) := by decide +kernel
theorem dX10_isByte_1 : decode cX10_isByte 1 = .ok (.ifCond .lt 14, 3) := by decide +kernel
theorem dX10_isByte_4 : decode cX10_isByte 4 = .ok (.iload_n 0, 1) := by decide +kernel
theorem dX10_isByte_5 : decode cX10_isByte 5 = .ok (.sipush 255, 3) := by decide +kernel
theorem dX10_isByte_8 : decode cX10_isByte 8 = .ok (.if_icmp .gt 7, 3) := by decide +kernel
theorem dX10_isByte_11 : decode cX10_isByte 11 = .ok (.iconst 1, 1) := by decide +kernel
theorem dX10_isByte_12 : decode cX10_isByte 12 = .ok (.goto 4, 3) := by decide +kernel
theorem dX10_isByte_15 : decode cX10_isByte 15 = .ok (.iconst 0, 1) := by decide +kernel
theorem dX10_isByte_16 : decode cX10_isByte 16 = .ok (.ireturn, 1) := by decide +kernel
theorem dX10_isNameByte_0 : decode cX10_isNameByte 0 = .ok (.iload_n 0, 1) := by decide +kernel
theorem dX10_isNameByte_1 : decode cX10_isNameByte 1 = .ok (.bipush 33, 2) := by decide +kernel
theorem dX10_isNameByte_3 : decode cX10_isNameByte 3 = .ok (.if_icmp .lt 19, 3) := by decide +kernel
theorem dX10_isNameByte_6 : decode cX10_isNameByte 6 = .ok (.iload_n 0, 1) := by decide +kernel
theorem dX10_isNameByte_7 : decode cX10_isNameByte 7 = .ok (.bipush 126, 2) := by decide +kernel
theorem dX10_isNameByte_9 : decode cX10_isNameByte 9 = .ok (.if_icmp .gt 13, 3) := by decide +kernel
theorem dX10_isNameByte_12 : decode cX10_isNameByte 12 = .ok (.iload_n 0, 1) := by decide +kernel
theorem dX10_isNameByte_13 : decode cX10_isNameByte 13 = .ok (.bipush 47, 2) := by decide +kernel
theorem dX10_isNameByte_15 : decode cX10_isNameByte 15 = .ok (.if_icmp .eq 7, 3) := by decide +kernel
theorem dX10_isNameByte_18 : decode cX10_isNameByte 18 = .ok (.iconst 1, 1) := by decide +kernel
theorem dX10_isNameByte_19 : decode cX10_isNameByte 19 = .ok (.goto 4, 3) := by decide +kernel
theorem dX10_isNameByte_22 : decode cX10_isNameByte 22 = .ok (.iconst 0, 1) := by decide +kernel
theorem dX10_isNameByte_23 : decode cX10_isNameByte 23 = .ok (.ireturn, 1) := by decide +kernel
theorem dX10_isFigure_0 : decode cX10_isFigure 0 = .ok (.iload_n 0, 1) := by decide +kernel
theorem dX10_isFigure_1 : decode cX10_isFigure 1 = .ok (.bipush 48, 2) := by decide +kernel
theorem dX10_isFigure_3 : decode cX10_isFigure 3 = .ok (.if_icmp .lt 13, 3) := by decide +kernel
theorem dX10_isFigure_6 : decode cX10_isFigure 6 = .ok (.iload_n 0, 1) := by decide +kernel
theorem dX10_isFigure_7 : decode cX10_isFigure 7 = .ok (.bipush 57, 2) := by decide +kernel
theorem dX10_isFigure_9 : decode cX10_isFigure 9 = .ok (.if_icmp .gt 7, 3) := by decide +kernel
theorem dX10_isFigure_12 : decode cX10_isFigure 12 = .ok (.iconst 1, 1) := by decide +kernel
theorem dX10_isFigure_13 : decode cX10_isFigure 13 = .ok (.goto 4, 3) := by decide +kernel
theorem dX10_isFigure_16 : decode cX10_isFigure 16 = .ok (.iconst 0, 1) := by decide +kernel
theorem dX10_isFigure_17 : decode cX10_isFigure 17 = .ok (.ireturn, 1) := by decide +kernel
theorem dX10_isOdd_0 : decode cX10_isOdd 0 = .ok (.iload_n 0, 1) := by decide +kernel
theorem dX10_isOdd_1 : decode cX10_isOdd 1 = .ok (.iconst 1, 1) := by decide +kernel
theorem dX10_isOdd_2 : decode cX10_isOdd 2 = .ok (.iand, 1) := by decide +kernel
theorem dX10_isOdd_3 : decode cX10_isOdd 3 = .ok (.ifCond .eq 7, 3) := by decide +kernel
theorem dX10_isOdd_6 : decode cX10_isOdd 6 = .ok (.iconst 1, 1) := by decide +kernel
theorem dX10_isOdd_7 : decode cX10_isOdd 7 = .ok (.goto 4, 3) := by decide +kernel
theorem dX10_isOdd_10 : decode cX10_isOdd 10 = .ok (.iconst 0, 1) := by decide +kernel
theorem dX10_isOdd_11 : decode cX10_isOdd 11 = .ok (.ireturn, 1) := by decide +kernel
