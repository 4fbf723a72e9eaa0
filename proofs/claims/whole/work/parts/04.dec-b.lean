theorem dX5_init_0 : decode cX5_init 0 = .ok (.aload_n 0, 1) := by decide +kernel
theorem dX5_init_1 : decode cX5_init 1 = .ok (.invokespecial 1, 3) := by decide +kernel
theorem dX5_init_4 : decode cX5_init 4 = .ok (.aload_n 0, 1) := by decide +kernel
theorem dX5_init_5 : decode cX5_init 5 = .ok (.new 7, 3) := by decide +kernel
theorem dX5_init_8 : decode cX5_init 8 = .ok (.dup, 1) := by decide +kernel
theorem dX5_init_9 : decode cX5_init 9 = .ok (.invokespecial 9, 3) := by decide +kernel
theorem dX5_init_12 : decode cX5_init 12 = .ok (.putfield 10, 3) := by decide +kernel
theorem dX5_init_15 : decode cX5_init 15 = .ok (.aload_n 0, 1) := by decide +kernel
theorem dX5_init_16 : decode cX5_init 16 = .ok (.new 16, 3) := by decide +kernel
theorem dX5_init_19 : decode cX5_init 19 = .ok (.dup, 1) := by decide +kernel
theorem dX5_init_20 : decode cX5_init 20 = .ok (.aload_n 0, 1) := by decide +kernel
theorem dX5_init_21 : decode cX5_init 21 = .ok (.getfield 10, 3) := by decide +kernel
theorem dX5_init_24 : decode cX5_init 24 = .ok (.invokespecial 18, 3) := by decide +kernel
theorem dX5_init_27 : decode cX5_init 27 = .ok (.putfield 21, 3) := by decide +kernel
theorem dX5_init_30 : decode cX5_init 30 = .ok (.aload_n 0, 1) := by decide +kernel
theorem dX5_init_31 : decode cX5_init 31 = .ok (.new 25, 3) := by decide +kernel
theorem dX5_init_34 : decode cX5_init 34 = .ok (.dup, 1) := by decide +kernel
theorem dX5_init_35 : decode cX5_init 35 = .ok (.aload_n 0, 1) := by decide +kernel
theorem dX5_init_36 : decode cX5_init 36 = .ok (.getfield 10, 3) := by decide +kernel
theorem dX5_init_39 : decode cX5_init 39 = .ok (.invokespecial 27, 3) := by decide +kernel
theorem dX5_init_42 : decode cX5_init 42 = .ok (.putfield 28, 3) := by decide +kernel
theorem dX5_init_45 : decode cX5_init 45 = .ok (.aload_n 0, 1) := by decide +kernel
theorem dX5_init_46 : decode cX5_init 46 = .ok (.new 32, 3) := by decide +kernel
theorem dX5_init_49 : decode cX5_init 49 = .ok (.dup, 1) := by decide +kernel
theorem dX5_init_50 : decode cX5_init 50 = .ok (.aload_n 0, 1) := by decide +kernel
theorem dX5_init_51 : decode cX5_init 51 = .ok (.getfield 10, 3) := by decide +kernel
theorem dX5_init_54 : decode cX5_init 54 = .ok (.invokespecial 34, 3) := by decide +kernel
theorem dX5_init_57 : decode cX5_init 57 = .ok (.putfield 35, 3) := by decide +kernel
theorem dX5_init_60 : decode cX5_init 60 = .ok (.aload_n 0, 1) := by decide +kernel
theorem dX5_init_61 : decode cX5_init 61 = .ok (.bipush 20, 2) := by decide +kernel
theorem dX5_init_63 : decode cX5_init 63 = .ok (.newarray .int, 2) := by decide +kernel
theorem dX5_init_65 : decode cX5_init 65 = .ok (.putfield 39, 3) := by decide +kernel
theorem dX5_init_68 : decode cX5_init 68 = .ok (.aload_n 0, 1) := by decide +kernel
theorem dX5_init_69 : decode cX5_init 69 = .ok (.new 43, 3) := by decide +kernel
theorem dX5_init_72 : decode cX5_init 72 = .ok (.dup, 1) := by decide +kernel
theorem dX5_init_73 : decode cX5_init 73 = .ok (.invokespecial 45, 3) := by decide +kernel
theorem dX5_init_76 : decode cX5_init 76 = .ok (.putfield 46, 3) := by decide +kernel
theorem dX5_init_79 : decode cX5_init 79 = .ok (.aload_n 0, 1) := by decide +kernel
theorem dX5_init_80 : decode cX5_init 80 = .ok (.new 43, 3) := by decide +kernel
theorem dX5_init_83 : decode cX5_init 83 = .ok (.dup, 1) := by decide +kernel
theorem dX5_init_84 : decode cX5_init 84 = .ok (.invokespecial 45, 3) := by decide +kernel
theorem dX5_init_87 : decode cX5_init 87 = .ok (.putfield 50, 3) := by decide +kernel
theorem dX5_init_90 : decode cX5_init 90 = .ok (.return_, 1) := by decide +kernel
theorem dX5_add_0 : decode cX5_add 0 = .ok (.aload_n 0, 1) := by decide +kernel
theorem dX5_add_1 : decode cX5_add 1 = .ok (.getfield 10, 3) := by decide +kernel
theorem dX5_add_4 : decode cX5_add 4 = .ok (.getfield 53, 3) := by decide +kernel
theorem dX5_add_7 : decode cX5_add 7 = .ok (.ifCond .eq 13, 3) := by decide +kernel
theorem dX5_add_10 : decode cX5_add 10 = .ok (.new 57, 3) := by decide +kernel
theorem dX5_add_13 : decode cX5_add 13 = .ok (.dup, 1) := by decide +kernel
theorem dX5_add_14 : decode cX5_add 14 = .ok (.ldc 59, 2) := by decide +kernel
theorem dX5_add_16 : decode cX5_add 16 = .ok (.invokespecial 61, 3) := by decide +kernel
theorem dX5_add_19 : decode cX5_add 19 = .ok (.athrow, 1) := by decide +kernel
theorem dX5_add_20 : decode cX5_add 20 = .ok (.aload_n 0, 1) := by decide +kernel
theorem dX5_add_21 : decode cX5_add 21 = .ok (.getfield 10, 3) := by decide +kernel
theorem dX5_add_24 : decode cX5_add 24 = .ok (.iload_n 1, 1) := by decide +kernel
theorem dX5_add_25 : decode cX5_add 25 = .ok (.invokevirtual 64, 3) := by decide +kernel
theorem dX5_add_28 : decode cX5_add 28 = .ok (.ifCond .ne 13, 3) := by decide +kernel
theorem dX5_add_31 : decode cX5_add 31 = .ok (.new 68, 3) := by decide +kernel
theorem dX5_add_34 : decode cX5_add 34 = .ok (.dup, 1) := by decide +kernel
theorem dX5_add_35 : decode cX5_add 35 = .ok (.ldc 70, 2) := by decide +kernel
theorem dX5_add_37 : decode cX5_add 37 = .ok (.invokespecial 72, 3) := by decide +kernel
theorem dX5_add_40 : decode cX5_add 40 = .ok (.athrow, 1) := by decide +kernel
theorem dX5_add_41 : decode cX5_add 41 = .ok (.aload_n 0, 1) := by decide +kernel
theorem dX5_add_42 : decode cX5_add 42 = .ok (.getfield 10, 3) := by decide +kernel
theorem dX5_add_45 : decode cX5_add 45 = .ok (.getfield 73, 3) := by decide +kernel
theorem dX5_add_48 : decode cX5_add 48 = .ok (.ireturn, 1) := by decide +kernel
theorem dX5_end_0 : decode cX5_end 0 = .ok (.aload_n 0, 1) := by decide +kernel
theorem dX5_end_1 : decode cX5_end 1 = .ok (.getfield 10, 3) := by decide +kernel
theorem dX5_end_4 : decode cX5_end 4 = .ok (.getfield 53, 3) := by decide +kernel
theorem dX5_end_7 : decode cX5_end 7 = .ok (.ifCond .eq 5, 3) := by decide +kernel
theorem dX5_end_10 : decode cX5_end 10 = .ok (.iconst (-1), 1) := by decide +kernel
theorem dX5_end_11 : decode cX5_end 11 = .ok (.ireturn, 1) := by decide +kernel
theorem dX5_end_12 : decode cX5_end 12 = .ok (.aload_n 0, 1) := by decide +kernel
theorem dX5_end_13 : decode cX5_end 13 = .ok (.getfield 10, 3) := by decide +kernel
theorem dX5_end_16 : decode cX5_end 16 = .ok (.iconst 1, 1) := by decide +kernel
theorem dX5_end_17 : decode cX5_end 17 = .ok (.putfield 53, 3) := by decide +kernel
theorem dX5_end_20 : decode cX5_end 20 = .ok (.aload_n 0, 1) := by decide +kernel
theorem dX5_end_21 : decode cX5_end 21 = .ok (.getfield 10, 3) := by decide +kernel
theorem dX5_end_24 : decode cX5_end 24 = .ok (.getfield 73, 3) := by decide +kernel
theorem dX5_end_27 : decode cX5_end 27 = .ok (.aload_n 0, 1) := by decide +kernel
theorem dX5_end_28 : decode cX5_end 28 = .ok (.getfield 10, 3) := by decide +kernel
theorem dX5_end_31 : decode cX5_end 31 = .ok (.getfield 77, 3) := by decide +kernel
theorem dX5_end_34 : decode cX5_end 34 = .ok (.isub, 1) := by decide +kernel
theorem dX5_end_35 : decode cX5_end 35 = .ok (.ireturn, 1) := by decide +kernel
theorem dX5_next_0 : decode cX5_next 0 = .ok (.aload_n 0, 1) := by decide +kernel
theorem dX5_next_1 : decode cX5_next 1 = .ok (.getfield 10, 3) := by decide +kernel
theorem dX5_next_4 : decode cX5_next 4 = .ok (.invokevirtual 80, 3) := by decide +kernel
theorem dX5_next_7 : decode cX5_next 7 = .ok (.istore_n 1, 1) := by decide +kernel
theorem dX5_next_8 : decode cX5_next 8 = .ok (.iload_n 1, 1) := by decide +kernel
theorem dX5_next_9 : decode cX5_next 9 = .ok (.aload_n 0, 1) := by decide +kernel
theorem dX5_next_10 : decode cX5_next 10 = .ok (.getfield 10, 3) := by decide +kernel
theorem dX5_next_13 : decode cX5_next 13 = .ok (.getfield 73, 3) := by decide +kernel
theorem dX5_next_16 : decode cX5_next 16 = .ok (.if_icmp .ne 8, 3) := by decide +kernel
theorem dX5_next_19 : decode cX5_next 19 = .ok (.aload_n 0, 1) := by decide +kernel
theorem dX5_next_20 : decode cX5_next 20 = .ok (.invokevirtual 84, 3) := by decide +kernel
theorem dX5_next_23 : decode cX5_next 23 = .ok (.ireturn, 1) := by decide +kernel
theorem dX5_next_24 : decode cX5_next 24 = .ok (.aload_n 0, 1) := by decide +kernel
theorem dX5_next_25 : decode cX5_next 25 = .ok (.getfield 50, 3) := by decide +kernel
theorem dX5_next_28 : decode cX5_next 28 = .ok (.iload_n 1, 1) := by decide +kernel
theorem dX5_next_29 : decode cX5_next 29 = .ok (.invokevirtual 87, 3) := by decide +kernel
theorem dX5_next_32 : decode cX5_next 32 = .ok (.aload_n 0, 1) := by decide +kernel
theorem dX5_next_33 : decode cX5_next 33 = .ok (.aload_n 0, 1) := by decide +kernel
theorem dX5_next_34 : decode cX5_next 34 = .ok (.getfield 10, 3) := by decide +kernel
theorem dX5_next_37 : decode cX5_next 37 = .ok (.iload_n 1, 1) := by decide +kernel
theorem dX5_next_38 : decode cX5_next 38 = .ok (.invokevirtual 91, 3) := by decide +kernel
theorem dX5_next_41 : decode cX5_next 41 = .ok (.invokevirtual 95, 3) := by decide +kernel
theorem dX5_next_44 : decode cX5_next 44 = .ok (.istore_n 2, 1) := by decide +kernel
theorem dX5_next_45 : decode cX5_next 45 = .ok (.iload_n 2, 1) := by decide +kernel
theorem dX5_next_46 : decode cX5_next 46 = .ok (.ifCond .ne 5, 3) := by decide +kernel
theorem dX5_next_49 : decode cX5_next 49 = .ok (.iconst 0, 1) := by decide +kernel
theorem dX5_next_50 : decode cX5_next 50 = .ok (.ireturn, 1) := by decide +kernel
theorem dX5_next_51 : decode cX5_next 51 = .ok (.aload_n 0, 1) := by decide +kernel
theorem dX5_next_52 : decode cX5_next 52 = .ok (.getfield 10, 3) := by decide +kernel
theorem dX5_next_55 : decode cX5_next 55 = .ok (.aload_n 0, 1) := by decide +kernel
theorem dX5_next_56 : decode cX5_next 56 = .ok (.getfield 50, 3) := by decide +kernel
theorem dX5_next_59 : decode cX5_next 59 = .ok (.getfield 98, 3) := by decide +kernel
theorem dX5_next_62 : decode cX5_next 62 = .ok (.putfield 77, 3) := by decide +kernel
theorem dX5_next_65 : decode cX5_next 65 = .ok (.aload_n 0, 1) := by decide +kernel
theorem dX5_next_66 : decode cX5_next 66 = .ok (.aload_n 0, 1) := by decide +kernel
theorem dX5_next_67 : decode cX5_next 67 = .ok (.getfield 50, 3) := by decide +kernel
theorem dX5_next_70 : decode cX5_next 70 = .ok (.getfield 101, 3) := by decide +kernel
theorem dX5_next_73 : decode cX5_next 73 = .ok (.putfield 104, 3) := by decide +kernel
theorem dX5_next_76 : decode cX5_next 76 = .ok (.iload_n 2, 1) := by decide +kernel
theorem dX5_next_77 : decode cX5_next 77 = .ok (.ifCond .le 7, 3) := by decide +kernel
theorem dX5_next_80 : decode cX5_next 80 = .ok (.aload_n 0, 1) := by decide +kernel
theorem dX5_next_81 : decode cX5_next 81 = .ok (.invokevirtual 107, 3) := by decide +kernel
theorem dX5_next_84 : decode cX5_next 84 = .ok (.iload_n 2, 1) := by decide +kernel
theorem dX5_next_85 : decode cX5_next 85 = .ok (.ireturn, 1) := by decide +kernel
theorem dX5_whole_0 : decode cX5_whole 0 = .ok (.aload_n 0, 1) := by decide +kernel
theorem dX5_whole_1 : decode cX5_whole 1 = .ok (.getfield 46, 3) := by decide +kernel
theorem dX5_whole_4 : decode cX5_whole 4 = .ok (.getfield 110, 3) := by decide +kernel
theorem dX5_whole_7 : decode cX5_whole 7 = .ok (.lreturn, 1) := by decide +kernel
theorem dX5_real_0 : decode cX5_real 0 = .ok (.aload_n 0, 1) := by decide +kernel
theorem dX5_real_1 : decode cX5_real 1 = .ok (.getfield 46, 3) := by decide +kernel
theorem dX5_real_4 : decode cX5_real 4 = .ok (.getfield 114, 3) := by decide +kernel
theorem dX5_real_7 : decode cX5_real 7 = .ok (.dreturn, 1) := by decide +kernel
theorem dX5_sign_0 : decode cX5_sign 0 = .ok (.aload_n 0, 1) := by decide +kernel
theorem dX5_sign_1 : decode cX5_sign 1 = .ok (.getfield 46, 3) := by decide +kernel
theorem dX5_sign_4 : decode cX5_sign 4 = .ok (.iload_n 1, 1) := by decide +kernel
theorem dX5_sign_5 : decode cX5_sign 5 = .ok (.invokevirtual 118, 3) := by decide +kernel
theorem dX5_sign_8 : decode cX5_sign 8 = .ok (.ireturn, 1) := by decide +kernel
theorem dX5_binary_0 : decode cX5_binary 0 = .ok (.aload_n 0, 1) := by decide +kernel
theorem dX5_binary_1 : decode cX5_binary 1 = .ok (.getfield 46, 3) := by decide +kernel
theorem dX5_binary_4 : decode cX5_binary 4 = .ok (.iload_n 1, 1) := by decide +kernel
theorem dX5_binary_5 : decode cX5_binary 5 = .ok (.invokevirtual 121, 3) := by decide +kernel
theorem dX5_binary_8 : decode cX5_binary 8 = .ok (.ifCond .eq 12, 3) := by decide +kernel
theorem dX5_binary_11 : decode cX5_binary 11 = .ok (.iload_n 2, 1) := by decide +kernel
theorem dX5_binary_12 : decode cX5_binary 12 = .ok (.ifCond .lt 8, 3) := by decide +kernel
theorem dX5_binary_15 : decode cX5_binary 15 = .ok (.iload_n 2, 1) := by decide +kernel
theorem dX5_binary_16 : decode cX5_binary 16 = .ok (.iconst 1, 1) := by decide +kernel
theorem dX5_binary_17 : decode cX5_binary 17 = .ok (.if_icmp .le 13, 3) := by decide +kernel
theorem dX5_binary_20 : decode cX5_binary 20 = .ok (.new 125, 3) := by decide +kernel
theorem dX5_binary_23 : decode cX5_binary 23 = .ok (.dup, 1) := by decide +kernel
theorem dX5_binary_24 : decode cX5_binary 24 = .ok (.ldc 127, 2) := by decide +kernel
theorem dX5_binary_26 : decode cX5_binary 26 = .ok (.invokespecial 129, 3) := by decide +kernel
theorem dX5_binary_29 : decode cX5_binary 29 = .ok (.athrow, 1) := by decide +kernel
theorem dX5_binary_30 : decode cX5_binary 30 = .ok (.iload_n 2, 1) := by decide +kernel
theorem dX5_binary_31 : decode cX5_binary 31 = .ok (.ifCond .ne 19, 3) := by decide +kernel
theorem dX5_binary_34 : decode cX5_binary 34 = .ok (.aload_n 0, 1) := by decide +kernel
theorem dX5_binary_35 : decode cX5_binary 35 = .ok (.getfield 46, 3) := by decide +kernel
theorem dX5_binary_38 : decode cX5_binary 38 = .ok (.getfield 130, 3) := by decide +kernel
theorem dX5_binary_41 : decode cX5_binary 41 = .ok (.ifCond .eq 7, 3) := by decide +kernel
theorem dX5_binary_44 : decode cX5_binary 44 = .ok (.iconst 1, 1) := by decide +kernel
theorem dX5_binary_45 : decode cX5_binary 45 = .ok (.goto 4, 3) := by decide +kernel
theorem dX5_binary_48 : decode cX5_binary 48 = .ok (.iconst 0, 1) := by decide +kernel
theorem dX5_binary_49 : decode cX5_binary 49 = .ok (.ireturn, 1) := by decide +kernel
theorem dX5_binary_50 : decode cX5_binary 50 = .ok (.aload_n 0, 1) := by decide +kernel
theorem dX5_binary_51 : decode cX5_binary 51 = .ok (.getfield 46, 3) := by decide +kernel
theorem dX5_binary_54 : decode cX5_binary 54 = .ok (.getfield 133, 3) := by decide +kernel
theorem dX5_binary_57 : decode cX5_binary 57 = .ok (.iload_n 1, 1) := by decide +kernel
theorem dX5_binary_58 : decode cX5_binary 58 = .ok (.iaload, 1) := by decide +kernel
theorem dX5_binary_59 : decode cX5_binary 59 = .ok (.ireturn, 1) := by decide +kernel
theorem dX5_binaryReal_0 : decode cX5_binaryReal 0 = .ok (.aload_n 0, 1) := by decide +kernel
theorem dX5_binaryReal_1 : decode cX5_binaryReal 1 = .ok (.getfield 46, 3) := by decide +kernel
theorem dX5_binaryReal_4 : decode cX5_binaryReal 4 = .ok (.iload_n 1, 1) := by decide +kernel
theorem dX5_binaryReal_5 : decode cX5_binaryReal 5 = .ok (.invokevirtual 121, 3) := by decide +kernel
theorem dX5_binaryReal_8 : decode cX5_binaryReal 8 = .ok (.ifCond .ne 13, 3) := by decide +kernel
theorem dX5_binaryReal_11 : decode cX5_binaryReal 11 = .ok (.new 125, 3) := by decide +kernel
theorem dX5_binaryReal_14 : decode cX5_binaryReal 14 = .ok (.dup, 1) := by decide +kernel
theorem dX5_binaryReal_15 : decode cX5_binaryReal 15 = .ok (.ldc 127, 2) := by decide +kernel
theorem dX5_binaryReal_17 : decode cX5_binaryReal 17 = .ok (.invokespecial 129, 3) := by decide +kernel
theorem dX5_binaryReal_20 : decode cX5_binaryReal 20 = .ok (.athrow, 1) := by decide +kernel
theorem dX5_binaryReal_21 : decode cX5_binaryReal 21 = .ok (.aload_n 0, 1) := by decide +kernel
theorem dX5_binaryReal_22 : decode cX5_binaryReal 22 = .ok (.getfield 46, 3) := by decide +kernel
theorem dX5_binaryReal_25 : decode cX5_binaryReal 25 = .ok (.getfield 136, 3) := by decide +kernel
theorem dX5_binaryReal_28 : decode cX5_binaryReal 28 = .ok (.iload_n 1, 1) := by decide +kernel
theorem dX5_binaryReal_29 : decode cX5_binaryReal 29 = .ok (.daload, 1) := by decide +kernel
theorem dX5_binaryReal_30 : decode cX5_binaryReal 30 = .ok (.dreturn, 1) := by decide +kernel
theorem dX5_place_0 : decode cX5_place 0 = .ok (.aload_n 0, 1) := by decide +kernel
theorem dX5_place_1 : decode cX5_place 1 = .ok (.getfield 104, 3) := by decide +kernel
theorem dX5_place_4 : decode cX5_place 4 = .ok (.ireturn, 1) := by decide +kernel
theorem dX5_base_0 : decode cX5_base 0 = .ok (.aload_n 0, 1) := by decide +kernel
theorem dX5_base_1 : decode cX5_base 1 = .ok (.getfield 21, 3) := by decide +kernel
theorem dX5_base_4 : decode cX5_base 4 = .ok (.getfield 140, 3) := by decide +kernel
theorem dX5_base_7 : decode cX5_base 7 = .ok (.ireturn, 1) := by decide +kernel
theorem dX5_depth_0 : decode cX5_depth 0 = .ok (.aload_n 0, 1) := by decide +kernel
theorem dX5_depth_1 : decode cX5_depth 1 = .ok (.getfield 143, 3) := by decide +kernel
theorem dX5_depth_4 : decode cX5_depth 4 = .ok (.ireturn, 1) := by decide +kernel
theorem dX5_octet_0 : decode cX5_octet 0 = .ok (.aload_n 0, 1) := by decide +kernel
theorem dX5_octet_1 : decode cX5_octet 1 = .ok (.getfield 10, 3) := by decide +kernel
theorem dX5_octet_4 : decode cX5_octet 4 = .ok (.iload_n 1, 1) := by decide +kernel
theorem dX5_octet_5 : decode cX5_octet 5 = .ok (.invokevirtual 146, 3) := by decide +kernel
theorem dX5_octet_8 : decode cX5_octet 8 = .ok (.ifCond .ne 13, 3) := by decide +kernel
theorem dX5_octet_11 : decode cX5_octet 11 = .ok (.new 149, 3) := by decide +kernel
theorem dX5_octet_14 : decode cX5_octet 14 = .ok (.dup, 1) := by decide +kernel
theorem dX5_octet_15 : decode cX5_octet 15 = .ok (.ldc 151, 2) := by decide +kernel
theorem dX5_octet_17 : decode cX5_octet 17 = .ok (.invokespecial 153, 3) := by decide +kernel
theorem dX5_octet_20 : decode cX5_octet 20 = .ok (.athrow, 1) := by decide +kernel
theorem dX5_octet_21 : decode cX5_octet 21 = .ok (.aload_n 0, 1) := by decide +kernel
theorem dX5_octet_22 : decode cX5_octet 22 = .ok (.getfield 10, 3) := by decide +kernel
theorem dX5_octet_25 : decode cX5_octet 25 = .ok (.iload_n 1, 1) := by decide +kernel
theorem dX5_octet_26 : decode cX5_octet 26 = .ok (.invokevirtual 91, 3) := by decide +kernel
theorem dX5_octet_29 : decode cX5_octet 29 = .ok (.i2b, 1) := by decide +kernel
theorem dX5_octet_30 : decode cX5_octet 30 = .ok (.ireturn, 1) := by decide +kernel
theorem dX5_clear_0 : decode cX5_clear 0 = .ok (.aload_n 0, 1) := by decide +kernel
theorem dX5_clear_1 : decode cX5_clear 1 = .ok (.getfield 10, 3) := by decide +kernel
theorem dX5_clear_4 : decode cX5_clear 4 = .ok (.invokevirtual 154, 3) := by decide +kernel
theorem dX5_clear_7 : decode cX5_clear 7 = .ok (.aload_n 0, 1) := by decide +kernel
theorem dX5_clear_8 : decode cX5_clear 8 = .ok (.getfield 21, 3) := by decide +kernel
theorem dX5_clear_11 : decode cX5_clear 11 = .ok (.bipush 10, 2) := by decide +kernel
theorem dX5_clear_13 : decode cX5_clear 13 = .ok (.putfield 140, 3) := by decide +kernel
theorem dX5_clear_16 : decode cX5_clear 16 = .ok (.aload_n 0, 1) := by decide +kernel
theorem dX5_clear_17 : decode cX5_clear 17 = .ok (.iconst 0, 1) := by decide +kernel
theorem dX5_clear_18 : decode cX5_clear 18 = .ok (.putfield 143, 3) := by decide +kernel
theorem dX5_clear_21 : decode cX5_clear 21 = .ok (.aload_n 0, 1) := by decide +kernel
theorem dX5_clear_22 : decode cX5_clear 22 = .ok (.getfield 46, 3) := by decide +kernel
theorem dX5_clear_25 : decode cX5_clear 25 = .ok (.iconst 0, 1) := by decide +kernel
theorem dX5_clear_26 : decode cX5_clear 26 = .ok (.invokevirtual 87, 3) := by decide +kernel
theorem dX5_clear_29 : decode cX5_clear 29 = .ok (.aload_n 0, 1) := by decide +kernel
theorem dX5_clear_30 : decode cX5_clear 30 = .ok (.iconst 0, 1) := by decide +kernel
theorem dX5_clear_31 : decode cX5_clear 31 = .ok (.putfield 104, 3) := by decide +kernel
theorem dX5_clear_34 : decode cX5_clear 34 = .ok (.return_, 1) := by decide +kernel
theorem dX5_keepDraft_0 : decode cX5_keepDraft 0 = .ok (.aload_n 0, 1) := by decide +kernel
theorem dX5_keepDraft_1 : decode cX5_keepDraft 1 = .ok (.getfield 46, 3) := by decide +kernel
theorem dX5_keepDraft_4 : decode cX5_keepDraft 4 = .ok (.astore_n 1, 1) := by decide +kernel
theorem dX5_keepDraft_5 : decode cX5_keepDraft 5 = .ok (.aload_n 0, 1) := by decide +kernel
theorem dX5_keepDraft_6 : decode cX5_keepDraft 6 = .ok (.aload_n 0, 1) := by decide +kernel
theorem dX5_keepDraft_7 : decode cX5_keepDraft 7 = .ok (.getfield 50, 3) := by decide +kernel
theorem dX5_keepDraft_10 : decode cX5_keepDraft 10 = .ok (.putfield 46, 3) := by decide +kernel
theorem dX5_keepDraft_13 : decode cX5_keepDraft 13 = .ok (.aload_n 0, 1) := by decide +kernel
theorem dX5_keepDraft_14 : decode cX5_keepDraft 14 = .ok (.aload_n 1, 1) := by decide +kernel
theorem dX5_keepDraft_15 : decode cX5_keepDraft 15 = .ok (.putfield 50, 3) := by decide +kernel
theorem dX5_keepDraft_18 : decode cX5_keepDraft 18 = .ok (.return_, 1) := by decide +kernel
theorem dX5_nothingFollows_0 : decode cX5_nothingFollows 0 = .ok (.aload_n 0, 1) := by decide +kernel
theorem dX5_nothingFollows_1 : decode cX5_nothingFollows 1 = .ok (.getfield 10, 3) := by decide +kernel
theorem dX5_nothingFollows_4 : decode cX5_nothingFollows 4 = .ok (.getfield 53, 3) := by decide +kernel
theorem dX5_nothingFollows_7 : decode cX5_nothingFollows 7 = .ok (.ifCond .ne 5, 3) := by decide +kernel
theorem dX5_nothingFollows_10 : decode cX5_nothingFollows 10 = .ok (.iconst 0, 1) := by decide +kernel
theorem dX5_nothingFollows_11 : decode cX5_nothingFollows 11 = .ok (.ireturn, 1) := by decide +kernel
theorem dX5_nothingFollows_12 : decode cX5_nothingFollows 12 = .ok (.aload_n 0, 1) := by decide +kernel
theorem dX5_nothingFollows_13 : decode cX5_nothingFollows 13 = .ok (.getfield 143, 3) := by decide +kernel
theorem dX5_nothingFollows_16 : decode cX5_nothingFollows 16 = .ok (.ifCond .gt 6, 3) := by decide +kernel
theorem dX5_nothingFollows_19 : decode cX5_nothingFollows 19 = .ok (.bipush 20, 2) := by decide +kernel
theorem dX5_nothingFollows_21 : decode cX5_nothingFollows 21 = .ok (.ireturn, 1) := by decide +kernel
theorem dX5_nothingFollows_22 : decode cX5_nothingFollows 22 = .ok (.aload_n 0, 1) := by decide +kernel
theorem dX5_nothingFollows_23 : decode cX5_nothingFollows 23 = .ok (.aload_n 0, 1) := by decide +kernel
theorem dX5_nothingFollows_24 : decode cX5_nothingFollows 24 = .ok (.getfield 39, 3) := by decide +kernel
theorem dX5_nothingFollows_27 : decode cX5_nothingFollows 27 = .ok (.aload_n 0, 1) := by decide +kernel
theorem dX5_nothingFollows_28 : decode cX5_nothingFollows 28 = .ok (.getfield 143, 3) := by decide +kernel
theorem dX5_nothingFollows_31 : decode cX5_nothingFollows 31 = .ok (.iconst 1, 1) := by decide +kernel
theorem dX5_nothingFollows_32 : decode cX5_nothingFollows 32 = .ok (.isub, 1) := by decide +kernel
theorem dX5_nothingFollows_33 : decode cX5_nothingFollows 33 = .ok (.iaload, 1) := by decide +kernel
theorem dX5_nothingFollows_34 : decode cX5_nothingFollows 34 = .ok (.putfield 104, 3) := by decide +kernel
theorem dX5_nothingFollows_37 : decode cX5_nothingFollows 37 = .ok (.aload_n 0, 1) := by decide +kernel
theorem dX5_nothingFollows_38 : decode cX5_nothingFollows 38 = .ok (.iconst 0, 1) := by decide +kernel
theorem dX5_nothingFollows_39 : decode cX5_nothingFollows 39 = .ok (.putfield 143, 3) := by decide +kernel
theorem dX5_nothingFollows_42 : decode cX5_nothingFollows 42 = .ok (.bipush (-7), 2) := by decide +kernel
theorem dX5_nothingFollows_44 : decode cX5_nothingFollows 44 = .ok (.ireturn, 1) := by decide +kernel
theorem dX5_readToken_0 : decode cX5_readToken 0 = .ok (.iload_n 1, 1) := by decide +kernel
theorem dX5_readToken_1 : decode cX5_readToken 1 = .ok (.sipush 128, 3) := by decide +kernel
theorem dX5_readToken_4 : decode cX5_readToken 4 = .ok (.if_icmp .lt 23, 3) := by decide +kernel
theorem dX5_readToken_7 : decode cX5_readToken 7 = .ok (.iload_n 1, 1) := by decide +kernel
theorem dX5_readToken_8 : decode cX5_readToken 8 = .ok (.sipush 159, 3) := by decide +kernel
theorem dX5_readToken_11 : decode cX5_readToken 11 = .ok (.if_icmp .gt 16, 3) := by decide +kernel
theorem dX5_readToken_14 : decode cX5_readToken 14 = .ok (.aload_n 0, 1) := by decide +kernel
theorem dX5_readToken_15 : decode cX5_readToken 15 = .ok (.getfield 35, 3) := by decide +kernel
theorem dX5_readToken_18 : decode cX5_readToken 18 = .ok (.aload_n 0, 1) := by decide +kernel
theorem dX5_readToken_19 : decode cX5_readToken 19 = .ok (.getfield 50, 3) := by decide +kernel
theorem dX5_readToken_22 : decode cX5_readToken 22 = .ok (.iload_n 1, 1) := by decide +kernel
theorem dX5_readToken_23 : decode cX5_readToken 23 = .ok (.invokevirtual 157, 3) := by decide +kernel
theorem dX5_readToken_26 : decode cX5_readToken 26 = .ok (.ireturn, 1) := by decide +kernel
theorem dX5_readToken_27 : decode cX5_readToken 27 = .ok (.iload_n 1, 1) := by decide +kernel
theorem dX5_readToken_28 : decode cX5_readToken 28 = .ok (.lookupswitch 137 #[(40, 96), (41, 108), (47, 84), (60, 111), (62, 116), (91, 121), (93, 124), (123, 127), (125, 132)], 84) := by decide +kernel
theorem dX5_readToken_112 : decode cX5_readToken 112 = .ok (.aload_n 0, 1) := by decide +kernel
theorem dX5_readToken_113 : decode cX5_readToken 113 = .ok (.getfield 21, 3) := by decide +kernel
theorem dX5_readToken_116 : decode cX5_readToken 116 = .ok (.aload_n 0, 1) := by decide +kernel
theorem dX5_readToken_117 : decode cX5_readToken 117 = .ok (.getfield 50, 3) := by decide +kernel
theorem dX5_readToken_120 : decode cX5_readToken 120 = .ok (.invokevirtual 161, 3) := by decide +kernel
theorem dX5_readToken_123 : decode cX5_readToken 123 = .ok (.ireturn, 1) := by decide +kernel
theorem dX5_readToken_124 : decode cX5_readToken 124 = .ok (.aload_n 0, 1) := by decide +kernel
theorem dX5_readToken_125 : decode cX5_readToken 125 = .ok (.getfield 28, 3) := by decide +kernel
theorem dX5_readToken_128 : decode cX5_readToken 128 = .ok (.aload_n 0, 1) := by decide +kernel
theorem dX5_readToken_129 : decode cX5_readToken 129 = .ok (.getfield 50, 3) := by decide +kernel
theorem dX5_readToken_132 : decode cX5_readToken 132 = .ok (.invokevirtual 165, 3) := by decide +kernel
theorem dX5_readToken_135 : decode cX5_readToken 135 = .ok (.ireturn, 1) := by decide +kernel
theorem dX5_readToken_136 : decode cX5_readToken 136 = .ok (.bipush (-4), 2) := by decide +kernel
theorem dX5_readToken_138 : decode cX5_readToken 138 = .ok (.ireturn, 1) := by decide +kernel
theorem dX5_readToken_139 : decode cX5_readToken 139 = .ok (.aload_n 0, 1) := by decide +kernel
theorem dX5_readToken_140 : decode cX5_readToken 140 = .ok (.invokevirtual 168, 3) := by decide +kernel
theorem dX5_readToken_143 : decode cX5_readToken 143 = .ok (.ireturn, 1) := by decide +kernel
theorem dX5_readToken_144 : decode cX5_readToken 144 = .ok (.aload_n 0, 1) := by decide +kernel
theorem dX5_readToken_145 : decode cX5_readToken 145 = .ok (.invokevirtual 171, 3) := by decide +kernel
theorem dX5_readToken_148 : decode cX5_readToken 148 = .ok (.ireturn, 1) := by decide +kernel
theorem dX5_readToken_149 : decode cX5_readToken 149 = .ok (.bipush 7, 2) := by decide +kernel
theorem dX5_readToken_151 : decode cX5_readToken 151 = .ok (.ireturn, 1) := by decide +kernel
theorem dX5_readToken_152 : decode cX5_readToken 152 = .ok (.bipush 8, 2) := by decide +kernel
theorem dX5_readToken_154 : decode cX5_readToken 154 = .ok (.ireturn, 1) := by decide +kernel
theorem dX5_readToken_155 : decode cX5_readToken 155 = .ok (.aload_n 0, 1) := by decide +kernel
theorem dX5_readToken_156 : decode cX5_readToken 156 = .ok (.invokevirtual 174, 3) := by decide +kernel
theorem dX5_readToken_159 : decode cX5_readToken 159 = .ok (.ireturn, 1) := by decide +kernel
theorem dX5_readToken_160 : decode cX5_readToken 160 = .ok (.aload_n 0, 1) := by decide +kernel
theorem dX5_readToken_161 : decode cX5_readToken 161 = .ok (.invokevirtual 177, 3) := by decide +kernel
theorem dX5_readToken_164 : decode cX5_readToken 164 = .ok (.ireturn, 1) := by decide +kernel
theorem dX5_readToken_165 : decode cX5_readToken 165 = .ok (.aload_n 0, 1) := by decide +kernel
theorem dX5_readToken_166 : decode cX5_readToken 166 = .ok (.getfield 21, 3) := by decide +kernel
theorem dX5_readToken_169 : decode cX5_readToken 169 = .ok (.aload_n 0, 1) := by decide +kernel
theorem dX5_readToken_170 : decode cX5_readToken 170 = .ok (.getfield 50, 3) := by decide +kernel
theorem dX5_readToken_173 : decode cX5_readToken 173 = .ok (.invokevirtual 180, 3) := by decide +kernel
theorem dX5_readToken_176 : decode cX5_readToken 176 = .ok (.ireturn, 1) := by decide +kernel
theorem dX5_readLess_0 : decode cX5_readLess 0 = .ok (.aload_n 0, 1) := by decide +kernel
theorem dX5_readLess_1 : decode cX5_readLess 1 = .ok (.getfield 10, 3) := by decide +kernel
theorem dX5_readLess_4 : decode cX5_readLess 4 = .ok (.aload_n 0, 1) := by decide +kernel
theorem dX5_readLess_5 : decode cX5_readLess 5 = .ok (.getfield 50, 3) := by decide +kernel
theorem dX5_readLess_8 : decode cX5_readLess 8 = .ok (.getfield 101, 3) := by decide +kernel
theorem dX5_readLess_11 : decode cX5_readLess 11 = .ok (.iconst 1, 1) := by decide +kernel
theorem dX5_readLess_12 : decode cX5_readLess 12 = .ok (.iadd, 1) := by decide +kernel
theorem dX5_readLess_13 : decode cX5_readLess 13 = .ok (.invokevirtual 91, 3) := by decide +kernel
theorem dX5_readLess_16 : decode cX5_readLess 16 = .ok (.lookupswitch 67 #[(-1, 36), (60, 48), (126, 55)], 36) := by decide +kernel
theorem dX5_readLess_52 : decode cX5_readLess 52 = .ok (.aload_n 0, 1) := by decide +kernel
theorem dX5_readLess_53 : decode cX5_readLess 53 = .ok (.getfield 10, 3) := by decide +kernel
theorem dX5_readLess_56 : decode cX5_readLess 56 = .ok (.aload_n 0, 1) := by decide +kernel
theorem dX5_readLess_57 : decode cX5_readLess 57 = .ok (.getfield 50, 3) := by decide +kernel
theorem dX5_readLess_60 : decode cX5_readLess 60 = .ok (.invokevirtual 183, 3) := by decide +kernel
theorem dX5_readLess_63 : decode cX5_readLess 63 = .ok (.ireturn, 1) := by decide +kernel
theorem dX5_readLess_64 : decode cX5_readLess 64 = .ok (.aload_n 0, 1) := by decide +kernel
theorem dX5_readLess_65 : decode cX5_readLess 65 = .ok (.bipush 11, 2) := by decide +kernel
theorem dX5_readLess_67 : decode cX5_readLess 67 = .ok (.invokevirtual 186, 3) := by decide +kernel
theorem dX5_readLess_70 : decode cX5_readLess 70 = .ok (.ireturn, 1) := by decide +kernel
theorem dX5_readLess_71 : decode cX5_readLess 71 = .ok (.aload_n 0, 1) := by decide +kernel
theorem dX5_readLess_72 : decode cX5_readLess 72 = .ok (.getfield 28, 3) := by decide +kernel
theorem dX5_readLess_75 : decode cX5_readLess 75 = .ok (.aload_n 0, 1) := by decide +kernel
theorem dX5_readLess_76 : decode cX5_readLess 76 = .ok (.getfield 50, 3) := by decide +kernel
theorem dX5_readLess_79 : decode cX5_readLess 79 = .ok (.invokevirtual 189, 3) := by decide +kernel
theorem dX5_readLess_82 : decode cX5_readLess 82 = .ok (.ireturn, 1) := by decide +kernel
theorem dX5_readLess_83 : decode cX5_readLess 83 = .ok (.aload_n 0, 1) := by decide +kernel
theorem dX5_readLess_84 : decode cX5_readLess 84 = .ok (.getfield 28, 3) := by decide +kernel
theorem dX5_readLess_87 : decode cX5_readLess 87 = .ok (.aload_n 0, 1) := by decide +kernel
theorem dX5_readLess_88 : decode cX5_readLess 88 = .ok (.getfield 50, 3) := by decide +kernel
theorem dX5_readLess_91 : decode cX5_readLess 91 = .ok (.invokevirtual 192, 3) := by decide +kernel
theorem dX5_readLess_94 : decode cX5_readLess 94 = .ok (.ireturn, 1) := by decide +kernel
theorem dX5_readGreater_0 : decode cX5_readGreater 0 = .ok (.aload_n 0, 1) := by decide +kernel
theorem dX5_readGreater_1 : decode cX5_readGreater 1 = .ok (.getfield 10, 3) := by decide +kernel
theorem dX5_readGreater_4 : decode cX5_readGreater 4 = .ok (.aload_n 0, 1) := by decide +kernel
theorem dX5_readGreater_5 : decode cX5_readGreater 5 = .ok (.getfield 50, 3) := by decide +kernel
theorem dX5_readGreater_8 : decode cX5_readGreater 8 = .ok (.getfield 101, 3) := by decide +kernel
theorem dX5_readGreater_11 : decode cX5_readGreater 11 = .ok (.iconst 1, 1) := by decide +kernel
theorem dX5_readGreater_12 : decode cX5_readGreater 12 = .ok (.iadd, 1) := by decide +kernel
theorem dX5_readGreater_13 : decode cX5_readGreater 13 = .ok (.invokevirtual 91, 3) := by decide +kernel
theorem dX5_readGreater_16 : decode cX5_readGreater 16 = .ok (.lookupswitch 52 #[(-1, 28), (62, 45)], 28) := by decide +kernel
theorem dX5_readGreater_44 : decode cX5_readGreater 44 = .ok (.aload_n 0, 1) := by decide +kernel
theorem dX5_readGreater_45 : decode cX5_readGreater 45 = .ok (.getfield 10, 3) := by decide +kernel
theorem dX5_readGreater_48 : decode cX5_readGreater 48 = .ok (.getfield 53, 3) := by decide +kernel
theorem dX5_readGreater_51 : decode cX5_readGreater 51 = .ok (.ifCond .eq 8, 3) := by decide +kernel
theorem dX5_readGreater_54 : decode cX5_readGreater 54 = .ok (.bipush (-4), 2) := by decide +kernel
theorem dX5_readGreater_56 : decode cX5_readGreater 56 = .ok (.goto 4, 3) := by decide +kernel
theorem dX5_readGreater_59 : decode cX5_readGreater 59 = .ok (.iconst 0, 1) := by decide +kernel
theorem dX5_readGreater_60 : decode cX5_readGreater 60 = .ok (.ireturn, 1) := by decide +kernel
theorem dX5_readGreater_61 : decode cX5_readGreater 61 = .ok (.aload_n 0, 1) := by decide +kernel
theorem dX5_readGreater_62 : decode cX5_readGreater 62 = .ok (.bipush 12, 2) := by decide +kernel
theorem dX5_readGreater_64 : decode cX5_readGreater 64 = .ok (.invokevirtual 186, 3) := by decide +kernel
theorem dX5_readGreater_67 : decode cX5_readGreater 67 = .ok (.ireturn, 1) := by decide +kernel
theorem dX5_readGreater_68 : decode cX5_readGreater 68 = .ok (.bipush (-4), 2) := by decide +kernel
theorem dX5_readGreater_70 : decode cX5_readGreater 70 = .ok (.ireturn, 1) := by decide +kernel
theorem dX5_pairMark_0 : decode cX5_pairMark 0 = .ok (.aload_n 0, 1) := by decide +kernel
theorem dX5_pairMark_1 : decode cX5_pairMark 1 = .ok (.getfield 50, 3) := by decide +kernel
theorem dX5_pairMark_4 : decode cX5_pairMark 4 = .ok (.aload_n 0, 1) := by decide +kernel
theorem dX5_pairMark_5 : decode cX5_pairMark 5 = .ok (.getfield 50, 3) := by decide +kernel
theorem dX5_pairMark_8 : decode cX5_pairMark 8 = .ok (.getfield 101, 3) := by decide +kernel
theorem dX5_pairMark_11 : decode cX5_pairMark 11 = .ok (.iconst 2, 1) := by decide +kernel
theorem dX5_pairMark_12 : decode cX5_pairMark 12 = .ok (.iadd, 1) := by decide +kernel
theorem dX5_pairMark_13 : decode cX5_pairMark 13 = .ok (.putfield 98, 3) := by decide +kernel
theorem dX5_pairMark_16 : decode cX5_pairMark 16 = .ok (.iload_n 1, 1) := by decide +kernel
theorem dX5_pairMark_17 : decode cX5_pairMark 17 = .ok (.ireturn, 1) := by decide +kernel
theorem dX5_openBrace_0 : decode cX5_openBrace 0 = .ok (.aload_n 0, 1) := by decide +kernel
theorem dX5_openBrace_1 : decode cX5_openBrace 1 = .ok (.getfield 143, 3) := by decide +kernel
theorem dX5_openBrace_4 : decode cX5_openBrace 4 = .ok (.aload_n 0, 1) := by decide +kernel
theorem dX5_openBrace_5 : decode cX5_openBrace 5 = .ok (.getfield 39, 3) := by decide +kernel
theorem dX5_openBrace_8 : decode cX5_openBrace 8 = .ok (.arraylength, 1) := by decide +kernel
theorem dX5_openBrace_9 : decode cX5_openBrace 9 = .ok (.if_icmp .lt 6, 3) := by decide +kernel
theorem dX5_openBrace_12 : decode cX5_openBrace 12 = .ok (.bipush (-2), 2) := by decide +kernel
theorem dX5_openBrace_14 : decode cX5_openBrace 14 = .ok (.ireturn, 1) := by decide +kernel
theorem dX5_openBrace_15 : decode cX5_openBrace 15 = .ok (.aload_n 0, 1) := by decide +kernel
theorem dX5_openBrace_16 : decode cX5_openBrace 16 = .ok (.getfield 39, 3) := by decide +kernel
theorem dX5_openBrace_19 : decode cX5_openBrace 19 = .ok (.aload_n 0, 1) := by decide +kernel
theorem dX5_openBrace_20 : decode cX5_openBrace 20 = .ok (.getfield 143, 3) := by decide +kernel
theorem dX5_openBrace_23 : decode cX5_openBrace 23 = .ok (.aload_n 0, 1) := by decide +kernel
theorem dX5_openBrace_24 : decode cX5_openBrace 24 = .ok (.getfield 50, 3) := by decide +kernel
theorem dX5_openBrace_27 : decode cX5_openBrace 27 = .ok (.getfield 101, 3) := by decide +kernel
theorem dX5_openBrace_30 : decode cX5_openBrace 30 = .ok (.iastore, 1) := by decide +kernel
theorem dX5_openBrace_31 : decode cX5_openBrace 31 = .ok (.aload_n 0, 1) := by decide +kernel
theorem dX5_openBrace_32 : decode cX5_openBrace 32 = .ok (.dup, 1) := by decide +kernel
theorem dX5_openBrace_33 : decode cX5_openBrace 33 = .ok (.getfield 143, 3) := by decide +kernel
theorem dX5_openBrace_36 : decode cX5_openBrace 36 = .ok (.iconst 1, 1) := by decide +kernel
theorem dX5_openBrace_37 : decode cX5_openBrace 37 = .ok (.iadd, 1) := by decide +kernel
theorem dX5_openBrace_38 : decode cX5_openBrace 38 = .ok (.putfield 143, 3) := by decide +kernel
theorem dX5_openBrace_41 : decode cX5_openBrace 41 = .ok (.bipush 9, 2) := by decide +kernel
theorem dX5_openBrace_43 : decode cX5_openBrace 43 = .ok (.ireturn, 1) := by decide +kernel
theorem dX5_closeBrace_0 : decode cX5_closeBrace 0 = .ok (.aload_n 0, 1) := by decide +kernel
theorem dX5_closeBrace_1 : decode cX5_closeBrace 1 = .ok (.getfield 143, 3) := by decide +kernel
theorem dX5_closeBrace_4 : decode cX5_closeBrace 4 = .ok (.ifCond .ne 6, 3) := by decide +kernel
theorem dX5_closeBrace_7 : decode cX5_closeBrace 7 = .ok (.bipush (-4), 2) := by decide +kernel
theorem dX5_closeBrace_9 : decode cX5_closeBrace 9 = .ok (.ireturn, 1) := by decide +kernel
theorem dX5_closeBrace_10 : decode cX5_closeBrace 10 = .ok (.aload_n 0, 1) := by decide +kernel
theorem dX5_closeBrace_11 : decode cX5_closeBrace 11 = .ok (.dup, 1) := by decide +kernel
theorem dX5_closeBrace_12 : decode cX5_closeBrace 12 = .ok (.getfield 143, 3) := by decide +kernel
theorem dX5_closeBrace_15 : decode cX5_closeBrace 15 = .ok (.iconst 1, 1) := by decide +kernel
theorem dX5_closeBrace_16 : decode cX5_closeBrace 16 = .ok (.isub, 1) := by decide +kernel
theorem dX5_closeBrace_17 : decode cX5_closeBrace 17 = .ok (.putfield 143, 3) := by decide +kernel
theorem dX5_closeBrace_20 : decode cX5_closeBrace 20 = .ok (.bipush 10, 2) := by decide +kernel
theorem dX5_closeBrace_22 : decode cX5_closeBrace 22 = .ok (.ireturn, 1) := by decide +kernel
theorem dX5_digitOf_0 : decode cX5_digitOf 0 = .ok (.iload_n 0, 1) := by decide +kernel
theorem dX5_digitOf_1 : decode cX5_digitOf 1 = .ok (.bipush 48, 2) := by decide +kernel
theorem dX5_digitOf_3 : decode cX5_digitOf 3 = .ok (.if_icmp .lt 14, 3) := by decide +kernel
theorem dX5_digitOf_6 : decode cX5_digitOf 6 = .ok (.iload_n 0, 1) := by decide +kernel
theorem dX5_digitOf_7 : decode cX5_digitOf 7 = .ok (.bipush 57, 2) := by decide +kernel
theorem dX5_digitOf_9 : decode cX5_digitOf 9 = .ok (.if_icmp .gt 8, 3) := by decide +kernel
theorem dX5_digitOf_12 : decode cX5_digitOf 12 = .ok (.iload_n 0, 1) := by decide +kernel
theorem dX5_digitOf_13 : decode cX5_digitOf 13 = .ok (.bipush 48, 2) := by decide +kernel
theorem dX5_digitOf_15 : decode cX5_digitOf 15 = .ok (.isub, 1) := by decide +kernel
theorem dX5_digitOf_16 : decode cX5_digitOf 16 = .ok (.ireturn, 1) := by decide +kernel
theorem dX5_digitOf_17 : decode cX5_digitOf 17 = .ok (.iload_n 0, 1) := by decide +kernel
theorem dX5_digitOf_18 : decode cX5_digitOf 18 = .ok (.bipush 97, 2) := by decide +kernel
theorem dX5_digitOf_20 : decode cX5_digitOf 20 = .ok (.if_icmp .lt 17, 3) := by decide +kernel
theorem dX5_digitOf_23 : decode cX5_digitOf 23 = .ok (.iload_n 0, 1) := by decide +kernel
theorem dX5_digitOf_24 : decode cX5_digitOf 24 = .ok (.bipush 122, 2) := by decide +kernel
theorem dX5_digitOf_26 : decode cX5_digitOf 26 = .ok (.if_icmp .gt 11, 3) := by decide +kernel
theorem dX5_digitOf_29 : decode cX5_digitOf 29 = .ok (.iload_n 0, 1) := by decide +kernel
theorem dX5_digitOf_30 : decode cX5_digitOf 30 = .ok (.bipush 97, 2) := by decide +kernel
theorem dX5_digitOf_32 : decode cX5_digitOf 32 = .ok (.isub, 1) := by decide +kernel
theorem dX5_digitOf_33 : decode cX5_digitOf 33 = .ok (.bipush 10, 2) := by decide +kernel
theorem dX5_digitOf_35 : decode cX5_digitOf 35 = .ok (.iadd, 1) := by decide +kernel
theorem dX5_digitOf_36 : decode cX5_digitOf 36 = .ok (.ireturn, 1) := by decide +kernel
theorem dX5_digitOf_37 : decode cX5_digitOf 37 = .ok (.iload_n 0, 1) := by decide +kernel
theorem dX5_digitOf_38 : decode cX5_digitOf 38 = .ok (.bipush 65, 2) := by decide +kernel
theorem dX5_digitOf_40 : decode cX5_digitOf 40 = .ok (.if_icmp .lt 17, 3) := by decide +kernel
theorem dX5_digitOf_43 : decode cX5_digitOf 43 = .ok (.iload_n 0, 1) := by decide +kernel
theorem dX5_digitOf_44 : decode cX5_digitOf 44 = .ok (.bipush 90, 2) := by decide +kernel
theorem dX5_digitOf_46 : decode cX5_digitOf 46 = .ok (.if_icmp .gt 11, 3) := by decide +kernel
theorem dX5_digitOf_49 : decode cX5_digitOf 49 = .ok (.iload_n 0, 1) := by decide +kernel
theorem dX5_digitOf_50 : decode cX5_digitOf 50 = .ok (.bipush 65, 2) := by decide +kernel
theorem dX5_digitOf_52 : decode cX5_digitOf 52 = .ok (.isub, 1) := by decide +kernel
theorem dX5_digitOf_53 : decode cX5_digitOf 53 = .ok (.bipush 10, 2) := by decide +kernel
theorem dX5_digitOf_55 : decode cX5_digitOf 55 = .ok (.iadd, 1) := by decide +kernel
theorem dX5_digitOf_56 : decode cX5_digitOf 56 = .ok (.ireturn, 1) := by decide +kernel
theorem dX5_digitOf_57 : decode cX5_digitOf 57 = .ok (.bipush 36, 2) := by decide +kernel
theorem dX5_digitOf_59 : decode cX5_digitOf 59 = .ok (.ireturn, 1) := by decide +kernel
theorem dX5_scaled_0 : decode cX5_scaled 0 = .ok (.dload_n 0, 1) := by decide +kernel
theorem dX5_scaled_1 : decode cX5_scaled 1 = .ok (.dstore 5, 2) := by decide +kernel
theorem dX5_scaled_3 : decode cX5_scaled 3 = .ok (.iconst 0, 1) := by decide +kernel
theorem dX5_scaled_4 : decode cX5_scaled 4 = .ok (.istore 7, 2) := by decide +kernel
theorem dX5_scaled_6 : decode cX5_scaled 6 = .ok (.iload 7, 2) := by decide +kernel
theorem dX5_scaled_8 : decode cX5_scaled 8 = .ok (.iload 4, 2) := by decide +kernel
theorem dX5_scaled_10 : decode cX5_scaled 10 = .ok (.if_icmp .ge 15, 3) := by decide +kernel
theorem dX5_scaled_13 : decode cX5_scaled 13 = .ok (.dload 5, 2) := by decide +kernel
theorem dX5_scaled_15 : decode cX5_scaled 15 = .ok (.dload_n 2, 1) := by decide +kernel
theorem dX5_scaled_16 : decode cX5_scaled 16 = .ok (.dmul, 1) := by decide +kernel
theorem dX5_scaled_17 : decode cX5_scaled 17 = .ok (.dstore 5, 2) := by decide +kernel
theorem dX5_scaled_19 : decode cX5_scaled 19 = .ok (.iinc 7 1, 3) := by decide +kernel
theorem dX5_scaled_22 : decode cX5_scaled 22 = .ok (.goto (-16), 3) := by decide +kernel
theorem dX5_scaled_25 : decode cX5_scaled 25 = .ok (.iconst 0, 1) := by decide +kernel
theorem dX5_scaled_26 : decode cX5_scaled 26 = .ok (.istore 7, 2) := by decide +kernel
theorem dX5_scaled_28 : decode cX5_scaled 28 = .ok (.iload 7, 2) := by decide +kernel
theorem dX5_scaled_30 : decode cX5_scaled 30 = .ok (.iload 4, 2) := by decide +kernel
theorem dX5_scaled_32 : decode cX5_scaled 32 = .ok (.if_icmp .le 15, 3) := by decide +kernel
theorem dX5_scaled_35 : decode cX5_scaled 35 = .ok (.dload 5, 2) := by decide +kernel
theorem dX5_scaled_37 : decode cX5_scaled 37 = .ok (.dload_n 2, 1) := by decide +kernel
theorem dX5_scaled_38 : decode cX5_scaled 38 = .ok (.ddiv, 1) := by decide +kernel
theorem dX5_scaled_39 : decode cX5_scaled 39 = .ok (.dstore 5, 2) := by decide +kernel
theorem dX5_scaled_41 : decode cX5_scaled 41 = .ok (.iinc 7 (-1), 3) := by decide +kernel
theorem dX5_scaled_44 : decode cX5_scaled 44 = .ok (.goto (-16), 3) := by decide +kernel
theorem dX5_scaled_47 : decode cX5_scaled 47 = .ok (.dload 5, 2) := by decide +kernel
theorem dX5_scaled_49 : decode cX5_scaled 49 = .ok (.dreturn, 1) := by decide +kernel
theorem dJx00060_init_a7421_0 : decode cJx00060_init_a7421 0 = .ok (.aload_n 0, 1) := by decide +kernel
theorem dJx00060_init_a7421_1 : decode cJx00060_init_a7421 1 = .ok (.aload_n 1, 1) := by decide +kernel
theorem dJx00060_init_a7421_2 : decode cJx00060_init_a7421 2 = .ok (.invokespecial 7, 3) := by decide +kernel
theorem dJx00060_init_a7421_5 : decode cJx00060_init_a7421 5 = .ok (.return_, 1) := by decide +kernel
theorem dJ9_max_7cf53_0 : decode cJ9_max_7cf53 0 = .ok (.iload_n 0, 1) := by decide +kernel
theorem dJ9_max_7cf53_1 : decode cJ9_max_7cf53 1 = .ok (.iload_n 1, 1) := by decide +kernel
theorem dJ9_max_7cf53_2 : decode cJ9_max_7cf53 2 = .ok (.if_icmp .lt 7, 3) := by decide +kernel
theorem dJ9_max_7cf53_5 : decode cJ9_max_7cf53 5 = .ok (.iload_n 0, 1) := by decide +kernel
theorem dJ9_max_7cf53_6 : decode cJ9_max_7cf53 6 = .ok (.goto 4, 3) := by decide +kernel
theorem dJ9_max_7cf53_9 : decode cJ9_max_7cf53 9 = .ok (.iload_n 1, 1) := by decide +kernel
theorem dJ9_max_7cf53_10 : decode cJ9_max_7cf53 10 = .ok (.ireturn, 1) := by decide +kernel
theorem dJ9_min_f86c9_0 : decode cJ9_min_f86c9 0 = .ok (.lload_n 0, 1) := by decide +kernel
theorem dJ9_min_f86c9_1 : decode cJ9_min_f86c9 1 = .ok (.lload_n 2, 1) := by decide +kernel
theorem dJ9_min_f86c9_2 : decode cJ9_min_f86c9 2 = .ok (.lcmp, 1) := by decide +kernel
theorem dJ9_min_f86c9_3 : decode cJ9_min_f86c9 3 = .ok (.ifCond .gt 7, 3) := by decide +kernel
theorem dJ9_min_f86c9_6 : decode cJ9_min_f86c9 6 = .ok (.lload_n 0, 1) := by decide +kernel
theorem dJ9_min_f86c9_7 : decode cJ9_min_f86c9 7 = .ok (.goto 4, 3) := by decide +kernel
theorem dJ9_min_f86c9_10 : decode cJ9_min_f86c9 10 = .ok (.lload_n 2, 1) := by decide +kernel
theorem dJ9_min_f86c9_11 : decode cJ9_min_f86c9 11 = .ok (.lreturn, 1) := by decide +kernel
theorem dL_add_0 : decode cL_add 0 = .ok (.aload_n 2, 1) := by decide +kernel
theorem dL_add_1 : decode cL_add 1 = .ok (.iconst 0, 1) := by decide +kernel
theorem dL_add_2 : decode cL_add 2 = .ok (.aload_n 0, 1) := by decide +kernel
theorem dL_add_3 : decode cL_add 3 = .ok (.iload_n 1, 1) := by decide +kernel
theorem dL_add_4 : decode cL_add 4 = .ok (.invokevirtual 7, 3) := by decide +kernel
theorem dL_add_7 : decode cL_add 7 = .ok (.i2l, 1) := by decide +kernel
theorem dL_add_8 : decode cL_add 8 = .ok (.lastore, 1) := by decide +kernel
theorem dL_add_9 : decode cL_add 9 = .ok (.goto 9, 3) := by decide +kernel
theorem dL_add_12 : decode cL_add 12 = .ok (.astore_n 3, 1) := by decide +kernel
theorem dL_add_13 : decode cL_add 13 = .ok (.iconst 1, 1) := by decide +kernel
theorem dL_add_14 : decode cL_add 14 = .ok (.ireturn, 1) := by decide +kernel
theorem dL_add_15 : decode cL_add 15 = .ok (.astore_n 3, 1) := by decide +kernel
theorem dL_add_16 : decode cL_add 16 = .ok (.iconst 2, 1) := by decide +kernel
theorem dL_add_17 : decode cL_add 17 = .ok (.ireturn, 1) := by decide +kernel
theorem dL_add_18 : decode cL_add 18 = .ok (.iconst 0, 1) := by decide +kernel
theorem dL_add_19 : decode cL_add 19 = .ok (.ireturn, 1) := by decide +kernel
theorem dL_binary_0 : decode cL_binary 0 = .ok (.aload_n 3, 1) := by decide +kernel
theorem dL_binary_1 : decode cL_binary 1 = .ok (.iconst 0, 1) := by decide +kernel
theorem dL_binary_2 : decode cL_binary 2 = .ok (.aload_n 0, 1) := by decide +kernel
theorem dL_binary_3 : decode cL_binary 3 = .ok (.iload_n 1, 1) := by decide +kernel
theorem dL_binary_4 : decode cL_binary 4 = .ok (.iload_n 2, 1) := by decide +kernel
theorem dL_binary_5 : decode cL_binary 5 = .ok (.invokevirtual 17, 3) := by decide +kernel
theorem dL_binary_8 : decode cL_binary 8 = .ok (.i2l, 1) := by decide +kernel
theorem dL_binary_9 : decode cL_binary 9 = .ok (.lastore, 1) := by decide +kernel
theorem dL_binary_10 : decode cL_binary 10 = .ok (.goto 7, 3) := by decide +kernel
theorem dL_binary_13 : decode cL_binary 13 = .ok (.astore 4, 2) := by decide +kernel
theorem dL_binary_15 : decode cL_binary 15 = .ok (.iconst 1, 1) := by decide +kernel
theorem dL_binary_16 : decode cL_binary 16 = .ok (.ireturn, 1) := by decide +kernel
theorem dL_binary_17 : decode cL_binary 17 = .ok (.iconst 0, 1) := by decide +kernel
theorem dL_binary_18 : decode cL_binary 18 = .ok (.ireturn, 1) := by decide +kernel
theorem dL_binaryReal_0 : decode cL_binaryReal 0 = .ok (.aload_n 2, 1) := by decide +kernel
theorem dL_binaryReal_1 : decode cL_binaryReal 1 = .ok (.iconst 0, 1) := by decide +kernel
theorem dL_binaryReal_2 : decode cL_binaryReal 2 = .ok (.aload_n 0, 1) := by decide +kernel
theorem dL_binaryReal_3 : decode cL_binaryReal 3 = .ok (.iload_n 1, 1) := by decide +kernel
theorem dL_binaryReal_4 : decode cL_binaryReal 4 = .ok (.invokevirtual 23, 3) := by decide +kernel
theorem dL_binaryReal_7 : decode cL_binaryReal 7 = .ok (.dastore, 1) := by decide +kernel
theorem dL_binaryReal_8 : decode cL_binaryReal 8 = .ok (.goto 6, 3) := by decide +kernel
theorem dL_binaryReal_11 : decode cL_binaryReal 11 = .ok (.astore_n 3, 1) := by decide +kernel
theorem dL_binaryReal_12 : decode cL_binaryReal 12 = .ok (.iconst 1, 1) := by decide +kernel
theorem dL_binaryReal_13 : decode cL_binaryReal 13 = .ok (.ireturn, 1) := by decide +kernel
theorem dL_binaryReal_14 : decode cL_binaryReal 14 = .ok (.iconst 0, 1) := by decide +kernel
theorem dL_binaryReal_15 : decode cL_binaryReal 15 = .ok (.ireturn, 1) := by decide +kernel
theorem dL_octet_0 : decode cL_octet 0 = .ok (.aload_n 2, 1) := by decide +kernel
theorem dL_octet_1 : decode cL_octet 1 = .ok (.iconst 0, 1) := by decide +kernel
theorem dL_octet_2 : decode cL_octet 2 = .ok (.aload_n 0, 1) := by decide +kernel
theorem dL_octet_3 : decode cL_octet 3 = .ok (.iload_n 1, 1) := by decide +kernel
theorem dL_octet_4 : decode cL_octet 4 = .ok (.invokevirtual 27, 3) := by decide +kernel
theorem dL_octet_7 : decode cL_octet 7 = .ok (.i2l, 1) := by decide +kernel
theorem dL_octet_8 : decode cL_octet 8 = .ok (.lastore, 1) := by decide +kernel
theorem dL_octet_9 : decode cL_octet 9 = .ok (.goto 6, 3) := by decide +kernel
theorem dL_octet_12 : decode cL_octet 12 = .ok (.astore_n 3, 1) := by decide +kernel
theorem dL_octet_13 : decode cL_octet 13 = .ok (.iconst 1, 1) := by decide +kernel
theorem dL_octet_14 : decode cL_octet 14 = .ok (.ireturn, 1) := by decide +kernel
theorem dL_octet_15 : decode cL_octet 15 = .ok (.iconst 0, 1) := by decide +kernel
theorem dL_octet_16 : decode cL_octet 16 = .ok (.ireturn, 1) := by decide +kernel
theorem dL_law_0 : decode cL_law 0 = .ok (.new 8, 3) := by decide +kernel
theorem dL_law_3 : decode cL_law 3 = .ok (.dup, 1) := by decide +kernel
theorem dL_law_4 : decode cL_law 4 = .ok (.invokespecial 33, 3) := by decide +kernel
theorem dL_law_7 : decode cL_law 7 = .ok (.astore_n 1, 1) := by decide +kernel
theorem dL_law_8 : decode cL_law 8 = .ok (.new 34, 3) := by decide +kernel
theorem dL_law_11 : decode cL_law 11 = .ok (.dup, 1) := by decide +kernel
theorem dL_law_12 : decode cL_law 12 = .ok (.invokespecial 36, 3) := by decide +kernel
theorem dL_law_15 : decode cL_law 15 = .ok (.astore_n 2, 1) := by decide +kernel
theorem dL_law_16 : decode cL_law 16 = .ok (.iconst 1, 1) := by decide +kernel
theorem dL_law_17 : decode cL_law 17 = .ok (.newarray .long, 2) := by decide +kernel
theorem dL_law_19 : decode cL_law 19 = .ok (.astore_n 3, 1) := by decide +kernel
theorem dL_law_20 : decode cL_law 20 = .ok (.iconst 1, 1) := by decide +kernel
theorem dL_law_21 : decode cL_law 21 = .ok (.newarray .double, 2) := by decide +kernel
theorem dL_law_23 : decode cL_law 23 = .ok (.astore 4, 2) := by decide +kernel
theorem dL_law_25 : decode cL_law 25 = .ok (.iconst 0, 1) := by decide +kernel
theorem dL_law_26 : decode cL_law 26 = .ok (.istore 5, 2) := by decide +kernel
theorem dL_law_28 : decode cL_law 28 = .ok (.iload 5, 2) := by decide +kernel
theorem dL_law_30 : decode cL_law 30 = .ok (.aload_n 0, 1) := by decide +kernel
theorem dL_law_31 : decode cL_law 31 = .ok (.arraylength, 1) := by decide +kernel
theorem dL_law_32 : decode cL_law 32 = .ok (.iconst 3, 1) := by decide +kernel
theorem dL_law_33 : decode cL_law 33 = .ok (.isub, 1) := by decide +kernel
theorem dL_law_34 : decode cL_law 34 = .ok (.if_icmp .gt 499, 3) := by decide +kernel
theorem dL_law_37 : decode cL_law 37 = .ok (.aload_n 0, 1) := by decide +kernel
theorem dL_law_38 : decode cL_law 38 = .ok (.iload 5, 2) := by decide +kernel
theorem dL_law_40 : decode cL_law 40 = .ok (.iaload, 1) := by decide +kernel
theorem dL_law_41 : decode cL_law 41 = .ok (.bipush 15, 2) := by decide +kernel
theorem dL_law_43 : decode cL_law 43 = .ok (.iand, 1) := by decide +kernel
theorem dL_law_44 : decode cL_law 44 = .ok (.tableswitch 483 0 12 #[68, 126, 139, 152, 166, 207, 232, 300, 377, 390, 403, 416, 472], 68) := by decide +kernel
theorem dL_law_112 : decode cL_law 112 = .ok (.aload_n 1, 1) := by decide +kernel
theorem dL_law_113 : decode cL_law 113 = .ok (.aload_n 0, 1) := by decide +kernel
theorem dL_law_114 : decode cL_law 114 = .ok (.iload 5, 2) := by decide +kernel
theorem dL_law_116 : decode cL_law 116 = .ok (.iconst 1, 1) := by decide +kernel
theorem dL_law_117 : decode cL_law 117 = .ok (.iadd, 1) := by decide +kernel
theorem dL_law_118 : decode cL_law 118 = .ok (.iaload, 1) := by decide +kernel
theorem dL_law_119 : decode cL_law 119 = .ok (.i2b, 1) := by decide +kernel
theorem dL_law_120 : decode cL_law 120 = .ok (.aload_n 3, 1) := by decide +kernel
theorem dL_law_121 : decode cL_law 121 = .ok (.invokestatic 37, 3) := by decide +kernel
theorem dL_law_124 : decode cL_law 124 = .ok (.istore 6, 2) := by decide +kernel
theorem dL_law_126 : decode cL_law 126 = .ok (.aload_n 2, 1) := by decide +kernel
theorem dL_law_127 : decode cL_law 127 = .ok (.aload_n 0, 1) := by decide +kernel
theorem dL_law_128 : decode cL_law 128 = .ok (.iload 5, 2) := by decide +kernel
theorem dL_law_130 : decode cL_law 130 = .ok (.iconst 1, 1) := by decide +kernel
theorem dL_law_131 : decode cL_law 131 = .ok (.iadd, 1) := by decide +kernel
theorem dL_law_132 : decode cL_law 132 = .ok (.iaload, 1) := by decide +kernel
theorem dL_law_133 : decode cL_law 133 = .ok (.i2b, 1) := by decide +kernel
theorem dL_law_134 : decode cL_law 134 = .ok (.invokevirtual 42, 3) := by decide +kernel
theorem dL_law_137 : decode cL_law 137 = .ok (.istore 7, 2) := by decide +kernel
theorem dL_law_139 : decode cL_law 139 = .ok (.aload_n 2, 1) := by decide +kernel
theorem dL_law_140 : decode cL_law 140 = .ok (.invokevirtual 43, 3) := by decide +kernel
theorem dL_law_143 : decode cL_law 143 = .ok (.iload 6, 2) := by decide +kernel
theorem dL_law_145 : decode cL_law 145 = .ok (.if_icmp .eq 5, 3) := by decide +kernel
theorem dL_law_148 : decode cL_law 148 = .ok (.iconst 0, 1) := by decide +kernel
theorem dL_law_149 : decode cL_law 149 = .ok (.ireturn, 1) := by decide +kernel
theorem dL_law_150 : decode cL_law 150 = .ok (.iload 6, 2) := by decide +kernel
theorem dL_law_152 : decode cL_law 152 = .ok (.ifCond .ne 15, 3) := by decide +kernel
theorem dL_law_155 : decode cL_law 155 = .ok (.aload_n 3, 1) := by decide +kernel
theorem dL_law_156 : decode cL_law 156 = .ok (.iconst 0, 1) := by decide +kernel
theorem dL_law_157 : decode cL_law 157 = .ok (.laload, 1) := by decide +kernel
theorem dL_law_158 : decode cL_law 158 = .ok (.iload 7, 2) := by decide +kernel
theorem dL_law_160 : decode cL_law 160 = .ok (.i2l, 1) := by decide +kernel
theorem dL_law_161 : decode cL_law 161 = .ok (.lcmp, 1) := by decide +kernel
theorem dL_law_162 : decode cL_law 162 = .ok (.ifCond .eq 5, 3) := by decide +kernel
theorem dL_law_165 : decode cL_law 165 = .ok (.iconst 0, 1) := by decide +kernel
theorem dL_law_166 : decode cL_law 166 = .ok (.ireturn, 1) := by decide +kernel
theorem dL_law_167 : decode cL_law 167 = .ok (.goto 360, 3) := by decide +kernel
theorem dL_law_170 : decode cL_law 170 = .ok (.aload_n 1, 1) := by decide +kernel
theorem dL_law_171 : decode cL_law 171 = .ok (.invokevirtual 47, 3) := by decide +kernel
theorem dL_law_174 : decode cL_law 174 = .ok (.aload_n 2, 1) := by decide +kernel
theorem dL_law_175 : decode cL_law 175 = .ok (.invokevirtual 50, 3) := by decide +kernel
theorem dL_law_178 : decode cL_law 178 = .ok (.if_icmp .eq 349, 3) := by decide +kernel
theorem dL_law_181 : decode cL_law 181 = .ok (.iconst 0, 1) := by decide +kernel
theorem dL_law_182 : decode cL_law 182 = .ok (.ireturn, 1) := by decide +kernel
theorem dL_law_183 : decode cL_law 183 = .ok (.aload_n 1, 1) := by decide +kernel
theorem dL_law_184 : decode cL_law 184 = .ok (.invokevirtual 51, 3) := by decide +kernel
theorem dL_law_187 : decode cL_law 187 = .ok (.aload_n 2, 1) := by decide +kernel
theorem dL_law_188 : decode cL_law 188 = .ok (.invokevirtual 54, 3) := by decide +kernel
theorem dL_law_191 : decode cL_law 191 = .ok (.if_icmp .eq 336, 3) := by decide +kernel
theorem dL_law_194 : decode cL_law 194 = .ok (.iconst 0, 1) := by decide +kernel
theorem dL_law_195 : decode cL_law 195 = .ok (.ireturn, 1) := by decide +kernel
theorem dL_law_196 : decode cL_law 196 = .ok (.aload_n 1, 1) := by decide +kernel
theorem dL_law_197 : decode cL_law 197 = .ok (.invokevirtual 55, 3) := by decide +kernel
theorem dL_law_200 : decode cL_law 200 = .ok (.aload_n 2, 1) := by decide +kernel
theorem dL_law_201 : decode cL_law 201 = .ok (.invokevirtual 59, 3) := by decide +kernel
theorem dL_law_204 : decode cL_law 204 = .ok (.lcmp, 1) := by decide +kernel
theorem dL_law_205 : decode cL_law 205 = .ok (.ifCond .eq 322, 3) := by decide +kernel
theorem dL_law_208 : decode cL_law 208 = .ok (.iconst 0, 1) := by decide +kernel
theorem dL_law_209 : decode cL_law 209 = .ok (.ireturn, 1) := by decide +kernel
theorem dL_law_210 : decode cL_law 210 = .ok (.aload_n 1, 1) := by decide +kernel
theorem dL_law_211 : decode cL_law 211 = .ok (.invokevirtual 60, 3) := by decide +kernel
theorem dL_law_214 : decode cL_law 214 = .ok (.dstore 6, 2) := by decide +kernel
theorem dL_law_216 : decode cL_law 216 = .ok (.aload_n 2, 1) := by decide +kernel
theorem dL_law_217 : decode cL_law 217 = .ok (.invokevirtual 64, 3) := by decide +kernel
theorem dL_law_220 : decode cL_law 220 = .ok (.dstore 8, 2) := by decide +kernel
theorem dL_law_222 : decode cL_law 222 = .ok (.dload 6, 2) := by decide +kernel
theorem dL_law_224 : decode cL_law 224 = .ok (.dload 8, 2) := by decide +kernel
theorem dL_law_226 : decode cL_law 226 = .ok (.dcmp .l, 1) := by decide +kernel
theorem dL_law_227 : decode cL_law 227 = .ok (.ifCond .eq 21, 3) := by decide +kernel
theorem dL_law_230 : decode cL_law 230 = .ok (.dload 6, 2) := by decide +kernel
theorem dL_law_232 : decode cL_law 232 = .ok (.dload 6, 2) := by decide +kernel
theorem dL_law_234 : decode cL_law 234 = .ok (.dcmp .l, 1) := by decide +kernel
theorem dL_law_235 : decode cL_law 235 = .ok (.ifCond .eq 11, 3) := by decide +kernel
theorem dL_law_238 : decode cL_law 238 = .ok (.dload 8, 2) := by decide +kernel
theorem dL_law_240 : decode cL_law 240 = .ok (.dload 8, 2) := by decide +kernel
theorem dL_law_242 : decode cL_law 242 = .ok (.dcmp .l, 1) := by decide +kernel
theorem dL_law_243 : decode cL_law 243 = .ok (.ifCond .ne 5, 3) := by decide +kernel
theorem dL_law_246 : decode cL_law 246 = .ok (.iconst 0, 1) := by decide +kernel
theorem dL_law_247 : decode cL_law 247 = .ok (.ireturn, 1) := by decide +kernel
theorem dL_law_248 : decode cL_law 248 = .ok (.goto 279, 3) := by decide +kernel
theorem dL_law_251 : decode cL_law 251 = .ok (.aload_n 1, 1) := by decide +kernel
theorem dL_law_252 : decode cL_law 252 = .ok (.aload_n 0, 1) := by decide +kernel
theorem dL_law_253 : decode cL_law 253 = .ok (.iload 5, 2) := by decide +kernel
theorem dL_law_255 : decode cL_law 255 = .ok (.iconst 1, 1) := by decide +kernel
theorem dL_law_256 : decode cL_law 256 = .ok (.iadd, 1) := by decide +kernel
theorem dL_law_257 : decode cL_law 257 = .ok (.iaload, 1) := by decide +kernel
theorem dL_law_258 : decode cL_law 258 = .ok (.invokevirtual 65, 3) := by decide +kernel
theorem dL_law_261 : decode cL_law 261 = .ok (.aload_n 2, 1) := by decide +kernel
theorem dL_law_262 : decode cL_law 262 = .ok (.aload_n 0, 1) := by decide +kernel
theorem dL_law_263 : decode cL_law 263 = .ok (.iload 5, 2) := by decide +kernel
theorem dL_law_265 : decode cL_law 265 = .ok (.iconst 1, 1) := by decide +kernel
theorem dL_law_266 : decode cL_law 266 = .ok (.iadd, 1) := by decide +kernel
theorem dL_law_267 : decode cL_law 267 = .ok (.iaload, 1) := by decide +kernel
theorem dL_law_268 : decode cL_law 268 = .ok (.invokevirtual 69, 3) := by decide +kernel
theorem dL_law_271 : decode cL_law 271 = .ok (.if_icmp .eq 256, 3) := by decide +kernel
theorem dL_law_274 : decode cL_law 274 = .ok (.iconst 0, 1) := by decide +kernel
theorem dL_law_275 : decode cL_law 275 = .ok (.ireturn, 1) := by decide +kernel
theorem dL_law_276 : decode cL_law 276 = .ok (.aload_n 1, 1) := by decide +kernel
theorem dL_law_277 : decode cL_law 277 = .ok (.aload_n 0, 1) := by decide +kernel
theorem dL_law_278 : decode cL_law 278 = .ok (.iload 5, 2) := by decide +kernel
theorem dL_law_280 : decode cL_law 280 = .ok (.iconst 1, 1) := by decide +kernel
theorem dL_law_281 : decode cL_law 281 = .ok (.iadd, 1) := by decide +kernel
theorem dL_law_282 : decode cL_law 282 = .ok (.iaload, 1) := by decide +kernel
theorem dL_law_283 : decode cL_law 283 = .ok (.aload_n 0, 1) := by decide +kernel
theorem dL_law_284 : decode cL_law 284 = .ok (.iload 5, 2) := by decide +kernel
theorem dL_law_286 : decode cL_law 286 = .ok (.iconst 2, 1) := by decide +kernel
theorem dL_law_287 : decode cL_law 287 = .ok (.iadd, 1) := by decide +kernel
theorem dL_law_288 : decode cL_law 288 = .ok (.iaload, 1) := by decide +kernel
theorem dL_law_289 : decode cL_law 289 = .ok (.aload_n 3, 1) := by decide +kernel
theorem dL_law_290 : decode cL_law 290 = .ok (.invokestatic 70, 3) := by decide +kernel
theorem dL_law_293 : decode cL_law 293 = .ok (.istore 6, 2) := by decide +kernel
theorem dL_law_295 : decode cL_law 295 = .ok (.aload_n 2, 1) := by decide +kernel
theorem dL_law_296 : decode cL_law 296 = .ok (.aload_n 0, 1) := by decide +kernel
theorem dL_law_297 : decode cL_law 297 = .ok (.iload 5, 2) := by decide +kernel
theorem dL_law_299 : decode cL_law 299 = .ok (.iconst 1, 1) := by decide +kernel
theorem dL_law_300 : decode cL_law 300 = .ok (.iadd, 1) := by decide +kernel
theorem dL_law_301 : decode cL_law 301 = .ok (.iaload, 1) := by decide +kernel
theorem dL_law_302 : decode cL_law 302 = .ok (.aload_n 0, 1) := by decide +kernel
theorem dL_law_303 : decode cL_law 303 = .ok (.iload 5, 2) := by decide +kernel
theorem dL_law_305 : decode cL_law 305 = .ok (.iconst 2, 1) := by decide +kernel
theorem dL_law_306 : decode cL_law 306 = .ok (.iadd, 1) := by decide +kernel
theorem dL_law_307 : decode cL_law 307 = .ok (.iaload, 1) := by decide +kernel
theorem dL_law_308 : decode cL_law 308 = .ok (.invokevirtual 73, 3) := by decide +kernel
theorem dL_law_311 : decode cL_law 311 = .ok (.istore 7, 2) := by decide +kernel
theorem dL_law_313 : decode cL_law 313 = .ok (.aload_n 2, 1) := by decide +kernel
theorem dL_law_314 : decode cL_law 314 = .ok (.invokevirtual 43, 3) := by decide +kernel
theorem dL_law_317 : decode cL_law 317 = .ok (.iload 6, 2) := by decide +kernel
theorem dL_law_319 : decode cL_law 319 = .ok (.if_icmp .eq 5, 3) := by decide +kernel
theorem dL_law_322 : decode cL_law 322 = .ok (.iconst 0, 1) := by decide +kernel
theorem dL_law_323 : decode cL_law 323 = .ok (.ireturn, 1) := by decide +kernel
theorem dL_law_324 : decode cL_law 324 = .ok (.iload 6, 2) := by decide +kernel
theorem dL_law_326 : decode cL_law 326 = .ok (.ifCond .ne 15, 3) := by decide +kernel
theorem dL_law_329 : decode cL_law 329 = .ok (.aload_n 3, 1) := by decide +kernel
theorem dL_law_330 : decode cL_law 330 = .ok (.iconst 0, 1) := by decide +kernel
theorem dL_law_331 : decode cL_law 331 = .ok (.laload, 1) := by decide +kernel
theorem dL_law_332 : decode cL_law 332 = .ok (.iload 7, 2) := by decide +kernel
theorem dL_law_334 : decode cL_law 334 = .ok (.i2l, 1) := by decide +kernel
theorem dL_law_335 : decode cL_law 335 = .ok (.lcmp, 1) := by decide +kernel
theorem dL_law_336 : decode cL_law 336 = .ok (.ifCond .eq 5, 3) := by decide +kernel
theorem dL_law_339 : decode cL_law 339 = .ok (.iconst 0, 1) := by decide +kernel
theorem dL_law_340 : decode cL_law 340 = .ok (.ireturn, 1) := by decide +kernel
theorem dL_law_341 : decode cL_law 341 = .ok (.goto 186, 3) := by decide +kernel
theorem dL_law_344 : decode cL_law 344 = .ok (.aload_n 1, 1) := by decide +kernel
theorem dL_law_345 : decode cL_law 345 = .ok (.aload_n 0, 1) := by decide +kernel
theorem dL_law_346 : decode cL_law 346 = .ok (.iload 5, 2) := by decide +kernel
theorem dL_law_348 : decode cL_law 348 = .ok (.iconst 1, 1) := by decide +kernel
theorem dL_law_349 : decode cL_law 349 = .ok (.iadd, 1) := by decide +kernel
theorem dL_law_350 : decode cL_law 350 = .ok (.iaload, 1) := by decide +kernel
theorem dL_law_351 : decode cL_law 351 = .ok (.aload 4, 2) := by decide +kernel
theorem dL_law_353 : decode cL_law 353 = .ok (.invokestatic 74, 3) := by decide +kernel
theorem dL_law_356 : decode cL_law 356 = .ok (.istore 6, 2) := by decide +kernel
theorem dL_law_358 : decode cL_law 358 = .ok (.aload_n 2, 1) := by decide +kernel
theorem dL_law_359 : decode cL_law 359 = .ok (.aload_n 0, 1) := by decide +kernel
theorem dL_law_360 : decode cL_law 360 = .ok (.iload 5, 2) := by decide +kernel
theorem dL_law_362 : decode cL_law 362 = .ok (.iconst 1, 1) := by decide +kernel
theorem dL_law_363 : decode cL_law 363 = .ok (.iadd, 1) := by decide +kernel
theorem dL_law_364 : decode cL_law 364 = .ok (.iaload, 1) := by decide +kernel
theorem dL_law_365 : decode cL_law 365 = .ok (.invokevirtual 77, 3) := by decide +kernel
theorem dL_law_368 : decode cL_law 368 = .ok (.dstore 7, 2) := by decide +kernel
theorem dL_law_370 : decode cL_law 370 = .ok (.aload_n 2, 1) := by decide +kernel
theorem dL_law_371 : decode cL_law 371 = .ok (.invokevirtual 43, 3) := by decide +kernel
theorem dL_law_374 : decode cL_law 374 = .ok (.iload 6, 2) := by decide +kernel
theorem dL_law_376 : decode cL_law 376 = .ok (.if_icmp .eq 5, 3) := by decide +kernel
theorem dL_law_379 : decode cL_law 379 = .ok (.iconst 0, 1) := by decide +kernel
theorem dL_law_380 : decode cL_law 380 = .ok (.ireturn, 1) := by decide +kernel
theorem dL_law_381 : decode cL_law 381 = .ok (.iload 6, 2) := by decide +kernel
theorem dL_law_383 : decode cL_law 383 = .ok (.ifCond .ne 35, 3) := by decide +kernel
theorem dL_law_386 : decode cL_law 386 = .ok (.aload 4, 2) := by decide +kernel
theorem dL_law_388 : decode cL_law 388 = .ok (.iconst 0, 1) := by decide +kernel
theorem dL_law_389 : decode cL_law 389 = .ok (.daload, 1) := by decide +kernel
theorem dL_law_390 : decode cL_law 390 = .ok (.dload 7, 2) := by decide +kernel
theorem dL_law_392 : decode cL_law 392 = .ok (.dcmp .l, 1) := by decide +kernel
theorem dL_law_393 : decode cL_law 393 = .ok (.ifCond .eq 25, 3) := by decide +kernel
theorem dL_law_396 : decode cL_law 396 = .ok (.aload 4, 2) := by decide +kernel
theorem dL_law_398 : decode cL_law 398 = .ok (.iconst 0, 1) := by decide +kernel
theorem dL_law_399 : decode cL_law 399 = .ok (.daload, 1) := by decide +kernel
theorem dL_law_400 : decode cL_law 400 = .ok (.aload 4, 2) := by decide +kernel
theorem dL_law_402 : decode cL_law 402 = .ok (.iconst 0, 1) := by decide +kernel
theorem dL_law_403 : decode cL_law 403 = .ok (.daload, 1) := by decide +kernel
theorem dL_law_404 : decode cL_law 404 = .ok (.dcmp .l, 1) := by decide +kernel
theorem dL_law_405 : decode cL_law 405 = .ok (.ifCond .eq 11, 3) := by decide +kernel
theorem dL_law_408 : decode cL_law 408 = .ok (.dload 7, 2) := by decide +kernel
theorem dL_law_410 : decode cL_law 410 = .ok (.dload 7, 2) := by decide +kernel
theorem dL_law_412 : decode cL_law 412 = .ok (.dcmp .l, 1) := by decide +kernel
theorem dL_law_413 : decode cL_law 413 = .ok (.ifCond .ne 5, 3) := by decide +kernel
theorem dL_law_416 : decode cL_law 416 = .ok (.iconst 0, 1) := by decide +kernel
theorem dL_law_417 : decode cL_law 417 = .ok (.ireturn, 1) := by decide +kernel
theorem dL_law_418 : decode cL_law 418 = .ok (.goto 109, 3) := by decide +kernel
theorem dL_law_421 : decode cL_law 421 = .ok (.aload_n 1, 1) := by decide +kernel
theorem dL_law_422 : decode cL_law 422 = .ok (.invokevirtual 78, 3) := by decide +kernel
theorem dL_law_425 : decode cL_law 425 = .ok (.aload_n 2, 1) := by decide +kernel
theorem dL_law_426 : decode cL_law 426 = .ok (.invokevirtual 81, 3) := by decide +kernel
theorem dL_law_429 : decode cL_law 429 = .ok (.if_icmp .eq 98, 3) := by decide +kernel
theorem dL_law_432 : decode cL_law 432 = .ok (.iconst 0, 1) := by decide +kernel
theorem dL_law_433 : decode cL_law 433 = .ok (.ireturn, 1) := by decide +kernel
theorem dL_law_434 : decode cL_law 434 = .ok (.aload_n 1, 1) := by decide +kernel
theorem dL_law_435 : decode cL_law 435 = .ok (.invokevirtual 82, 3) := by decide +kernel
theorem dL_law_438 : decode cL_law 438 = .ok (.aload_n 2, 1) := by decide +kernel
theorem dL_law_439 : decode cL_law 439 = .ok (.invokevirtual 85, 3) := by decide +kernel
theorem dL_law_442 : decode cL_law 442 = .ok (.if_icmp .eq 85, 3) := by decide +kernel
theorem dL_law_445 : decode cL_law 445 = .ok (.iconst 0, 1) := by decide +kernel
theorem dL_law_446 : decode cL_law 446 = .ok (.ireturn, 1) := by decide +kernel
theorem dL_law_447 : decode cL_law 447 = .ok (.aload_n 1, 1) := by decide +kernel
theorem dL_law_448 : decode cL_law 448 = .ok (.invokevirtual 86, 3) := by decide +kernel
theorem dL_law_451 : decode cL_law 451 = .ok (.aload_n 2, 1) := by decide +kernel
theorem dL_law_452 : decode cL_law 452 = .ok (.invokevirtual 89, 3) := by decide +kernel
theorem dL_law_455 : decode cL_law 455 = .ok (.if_icmp .eq 72, 3) := by decide +kernel
theorem dL_law_458 : decode cL_law 458 = .ok (.iconst 0, 1) := by decide +kernel
theorem dL_law_459 : decode cL_law 459 = .ok (.ireturn, 1) := by decide +kernel
theorem dL_law_460 : decode cL_law 460 = .ok (.aload_n 1, 1) := by decide +kernel
theorem dL_law_461 : decode cL_law 461 = .ok (.aload_n 0, 1) := by decide +kernel
theorem dL_law_462 : decode cL_law 462 = .ok (.iload 5, 2) := by decide +kernel
theorem dL_law_464 : decode cL_law 464 = .ok (.iconst 1, 1) := by decide +kernel
theorem dL_law_465 : decode cL_law 465 = .ok (.iadd, 1) := by decide +kernel
theorem dL_law_466 : decode cL_law 466 = .ok (.iaload, 1) := by decide +kernel
theorem dL_law_467 : decode cL_law 467 = .ok (.aload_n 3, 1) := by decide +kernel
theorem dL_law_468 : decode cL_law 468 = .ok (.invokestatic 90, 3) := by decide +kernel
theorem dL_law_471 : decode cL_law 471 = .ok (.istore 6, 2) := by decide +kernel
theorem dL_law_473 : decode cL_law 473 = .ok (.aload_n 2, 1) := by decide +kernel
theorem dL_law_474 : decode cL_law 474 = .ok (.aload_n 0, 1) := by decide +kernel
theorem dL_law_475 : decode cL_law 475 = .ok (.iload 5, 2) := by decide +kernel
theorem dL_law_477 : decode cL_law 477 = .ok (.iconst 1, 1) := by decide +kernel
theorem dL_law_478 : decode cL_law 478 = .ok (.iadd, 1) := by decide +kernel
theorem dL_law_479 : decode cL_law 479 = .ok (.iaload, 1) := by decide +kernel
theorem dL_law_480 : decode cL_law 480 = .ok (.invokevirtual 93, 3) := by decide +kernel
theorem dL_law_483 : decode cL_law 483 = .ok (.istore 7, 2) := by decide +kernel
theorem dL_law_485 : decode cL_law 485 = .ok (.aload_n 2, 1) := by decide +kernel
theorem dL_law_486 : decode cL_law 486 = .ok (.invokevirtual 43, 3) := by decide +kernel
theorem dL_law_489 : decode cL_law 489 = .ok (.iload 6, 2) := by decide +kernel
theorem dL_law_491 : decode cL_law 491 = .ok (.if_icmp .eq 5, 3) := by decide +kernel
theorem dL_law_494 : decode cL_law 494 = .ok (.iconst 0, 1) := by decide +kernel
theorem dL_law_495 : decode cL_law 495 = .ok (.ireturn, 1) := by decide +kernel
theorem dL_law_496 : decode cL_law 496 = .ok (.iload 6, 2) := by decide +kernel
theorem dL_law_498 : decode cL_law 498 = .ok (.ifCond .ne 15, 3) := by decide +kernel
theorem dL_law_501 : decode cL_law 501 = .ok (.aload_n 3, 1) := by decide +kernel
theorem dL_law_502 : decode cL_law 502 = .ok (.iconst 0, 1) := by decide +kernel
theorem dL_law_503 : decode cL_law 503 = .ok (.laload, 1) := by decide +kernel
theorem dL_law_504 : decode cL_law 504 = .ok (.iload 7, 2) := by decide +kernel
theorem dL_law_506 : decode cL_law 506 = .ok (.i2l, 1) := by decide +kernel
theorem dL_law_507 : decode cL_law 507 = .ok (.lcmp, 1) := by decide +kernel
theorem dL_law_508 : decode cL_law 508 = .ok (.ifCond .eq 5, 3) := by decide +kernel
theorem dL_law_511 : decode cL_law 511 = .ok (.iconst 0, 1) := by decide +kernel
theorem dL_law_512 : decode cL_law 512 = .ok (.ireturn, 1) := by decide +kernel
theorem dL_law_513 : decode cL_law 513 = .ok (.goto 14, 3) := by decide +kernel
theorem dL_law_516 : decode cL_law 516 = .ok (.aload_n 1, 1) := by decide +kernel
theorem dL_law_517 : decode cL_law 517 = .ok (.invokevirtual 94, 3) := by decide +kernel
theorem dL_law_520 : decode cL_law 520 = .ok (.aload_n 2, 1) := by decide +kernel
theorem dL_law_521 : decode cL_law 521 = .ok (.invokevirtual 97, 3) := by decide +kernel
theorem dL_law_524 : decode cL_law 524 = .ok (.goto 3, 3) := by decide +kernel
theorem dL_law_527 : decode cL_law 527 = .ok (.iinc 5 3, 3) := by decide +kernel
theorem dL_law_530 : decode cL_law 530 = .ok (.goto (-502), 3) := by decide +kernel
theorem dL_law_533 : decode cL_law 533 = .ok (.iconst 1, 1) := by decide +kernel
theorem dL_law_534 : decode cL_law 534 = .ok (.ireturn, 1) := by decide +kernel
