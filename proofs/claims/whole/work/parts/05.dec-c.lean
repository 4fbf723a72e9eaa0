theorem dX6_init_0 : decode cX6_init 0 = .ok (.aload_n 0, 1) := by decide +kernel
theorem dX6_init_1 : decode cX6_init 1 = .ok (.invokespecial 1, 3) := by decide +kernel
theorem dX6_init_4 : decode cX6_init 4 = .ok (.aload_n 0, 1) := by decide +kernel
theorem dX6_init_5 : decode cX6_init 5 = .ok (.sipush 3000, 3) := by decide +kernel
theorem dX6_init_8 : decode cX6_init 8 = .ok (.newarray .byte, 2) := by decide +kernel
theorem dX6_init_10 : decode cX6_init 10 = .ok (.putfield 7, 3) := by decide +kernel
theorem dX6_init_13 : decode cX6_init 13 = .ok (.aload_n 0, 1) := by decide +kernel
theorem dX6_init_14 : decode cX6_init 14 = .ok (.bipush 20, 2) := by decide +kernel
theorem dX6_init_16 : decode cX6_init 16 = .ok (.newarray .int, 2) := by decide +kernel
theorem dX6_init_18 : decode cX6_init 18 = .ok (.putfield 13, 3) := by decide +kernel
theorem dX6_init_21 : decode cX6_init 21 = .ok (.aload_n 0, 1) := by decide +kernel
theorem dX6_init_22 : decode cX6_init 22 = .ok (.bipush 10, 2) := by decide +kernel
theorem dX6_init_24 : decode cX6_init 24 = .ok (.putfield 17, 3) := by decide +kernel
theorem dX6_init_27 : decode cX6_init 27 = .ok (.aload_n 0, 1) := by decide +kernel
theorem dX6_init_28 : decode cX6_init 28 = .ok (.sipush 400, 3) := by decide +kernel
theorem dX6_init_31 : decode cX6_init 31 = .ok (.newarray .byte, 2) := by decide +kernel
theorem dX6_init_33 : decode cX6_init 33 = .ok (.putfield 21, 3) := by decide +kernel
theorem dX6_init_36 : decode cX6_init 36 = .ok (.aload_n 0, 1) := by decide +kernel
theorem dX6_init_37 : decode cX6_init 37 = .ok (.bipush 60, 2) := by decide +kernel
theorem dX6_init_39 : decode cX6_init 39 = .ok (.newarray .int, 2) := by decide +kernel
theorem dX6_init_41 : decode cX6_init 41 = .ok (.putfield 24, 3) := by decide +kernel
theorem dX6_init_44 : decode cX6_init 44 = .ok (.aload_n 0, 1) := by decide +kernel
theorem dX6_init_45 : decode cX6_init 45 = .ok (.bipush 60, 2) := by decide +kernel
theorem dX6_init_47 : decode cX6_init 47 = .ok (.newarray .double, 2) := by decide +kernel
theorem dX6_init_49 : decode cX6_init 49 = .ok (.putfield 27, 3) := by decide +kernel
theorem dX6_init_52 : decode cX6_init 52 = .ok (.aload_n 0, 1) := by decide +kernel
theorem dX6_init_53 : decode cX6_init 53 = .ok (.sipush 400, 3) := by decide +kernel
theorem dX6_init_56 : decode cX6_init 56 = .ok (.newarray .byte, 2) := by decide +kernel
theorem dX6_init_58 : decode cX6_init 58 = .ok (.putfield 31, 3) := by decide +kernel
theorem dX6_init_61 : decode cX6_init 61 = .ok (.aload_n 0, 1) := by decide +kernel
theorem dX6_init_62 : decode cX6_init 62 = .ok (.bipush 60, 2) := by decide +kernel
theorem dX6_init_64 : decode cX6_init 64 = .ok (.newarray .int, 2) := by decide +kernel
theorem dX6_init_66 : decode cX6_init 66 = .ok (.putfield 34, 3) := by decide +kernel
theorem dX6_init_69 : decode cX6_init 69 = .ok (.aload_n 0, 1) := by decide +kernel
theorem dX6_init_70 : decode cX6_init 70 = .ok (.bipush 60, 2) := by decide +kernel
theorem dX6_init_72 : decode cX6_init 72 = .ok (.newarray .double, 2) := by decide +kernel
theorem dX6_init_74 : decode cX6_init 74 = .ok (.putfield 37, 3) := by decide +kernel
theorem dX6_init_77 : decode cX6_init 77 = .ok (.aload_n 0, 1) := by decide +kernel
theorem dX6_init_78 : decode cX6_init 78 = .ok (.iconst 0, 1) := by decide +kernel
theorem dX6_init_79 : decode cX6_init 79 = .ok (.putfield 40, 3) := by decide +kernel
theorem dX6_init_82 : decode cX6_init 82 = .ok (.return_, 1) := by decide +kernel
theorem dX6_thrown_0 : decode cX6_thrown 0 = .ok (.aload_n 0, 1) := by decide +kernel
theorem dX6_thrown_1 : decode cX6_thrown 1 = .ok (.getfield 43, 3) := by decide +kernel
theorem dX6_thrown_4 : decode cX6_thrown 4 = .ok (.ireturn, 1) := by decide +kernel
theorem dX6_byteAt_0 : decode cX6_byteAt 0 = .ok (.iload_n 1, 1) := by decide +kernel
theorem dX6_byteAt_1 : decode cX6_byteAt 1 = .ok (.aload_n 0, 1) := by decide +kernel
theorem dX6_byteAt_2 : decode cX6_byteAt 2 = .ok (.getfield 40, 3) := by decide +kernel
theorem dX6_byteAt_5 : decode cX6_byteAt 5 = .ok (.if_icmp .ge 16, 3) := by decide +kernel
theorem dX6_byteAt_8 : decode cX6_byteAt 8 = .ok (.aload_n 0, 1) := by decide +kernel
theorem dX6_byteAt_9 : decode cX6_byteAt 9 = .ok (.getfield 7, 3) := by decide +kernel
theorem dX6_byteAt_12 : decode cX6_byteAt 12 = .ok (.iload_n 1, 1) := by decide +kernel
theorem dX6_byteAt_13 : decode cX6_byteAt 13 = .ok (.baload, 1) := by decide +kernel
theorem dX6_byteAt_14 : decode cX6_byteAt 14 = .ok (.sipush 255, 3) := by decide +kernel
theorem dX6_byteAt_17 : decode cX6_byteAt 17 = .ok (.iand, 1) := by decide +kernel
theorem dX6_byteAt_18 : decode cX6_byteAt 18 = .ok (.goto 4, 3) := by decide +kernel
theorem dX6_byteAt_21 : decode cX6_byteAt 21 = .ok (.iconst (-1), 1) := by decide +kernel
theorem dX6_byteAt_22 : decode cX6_byteAt 22 = .ok (.ireturn, 1) := by decide +kernel
theorem dX6_isBlank_0 : decode cX6_isBlank 0 = .ok (.iload_n 0, 1) := by decide +kernel
theorem dX6_isBlank_1 : decode cX6_isBlank 1 = .ok (.ifCond .eq 33, 3) := by decide +kernel
theorem dX6_isBlank_4 : decode cX6_isBlank 4 = .ok (.iload_n 0, 1) := by decide +kernel
theorem dX6_isBlank_5 : decode cX6_isBlank 5 = .ok (.bipush 9, 2) := by decide +kernel
theorem dX6_isBlank_7 : decode cX6_isBlank 7 = .ok (.if_icmp .eq 27, 3) := by decide +kernel
theorem dX6_isBlank_10 : decode cX6_isBlank 10 = .ok (.iload_n 0, 1) := by decide +kernel
theorem dX6_isBlank_11 : decode cX6_isBlank 11 = .ok (.bipush 10, 2) := by decide +kernel
theorem dX6_isBlank_13 : decode cX6_isBlank 13 = .ok (.if_icmp .eq 21, 3) := by decide +kernel
theorem dX6_isBlank_16 : decode cX6_isBlank 16 = .ok (.iload_n 0, 1) := by decide +kernel
theorem dX6_isBlank_17 : decode cX6_isBlank 17 = .ok (.bipush 12, 2) := by decide +kernel
theorem dX6_isBlank_19 : decode cX6_isBlank 19 = .ok (.if_icmp .eq 15, 3) := by decide +kernel
theorem dX6_isBlank_22 : decode cX6_isBlank 22 = .ok (.iload_n 0, 1) := by decide +kernel
theorem dX6_isBlank_23 : decode cX6_isBlank 23 = .ok (.bipush 13, 2) := by decide +kernel
theorem dX6_isBlank_25 : decode cX6_isBlank 25 = .ok (.if_icmp .eq 9, 3) := by decide +kernel
theorem dX6_isBlank_28 : decode cX6_isBlank 28 = .ok (.iload_n 0, 1) := by decide +kernel
theorem dX6_isBlank_29 : decode cX6_isBlank 29 = .ok (.bipush 32, 2) := by decide +kernel
theorem dX6_isBlank_31 : decode cX6_isBlank 31 = .ok (.if_icmp .ne 7, 3) := by decide +kernel
theorem dX6_isBlank_34 : decode cX6_isBlank 34 = .ok (.iconst 1, 1) := by decide +kernel
theorem dX6_isBlank_35 : decode cX6_isBlank 35 = .ok (.goto 4, 3) := by decide +kernel
theorem dX6_isBlank_38 : decode cX6_isBlank 38 = .ok (.iconst 0, 1) := by decide +kernel
theorem dX6_isBlank_39 : decode cX6_isBlank 39 = .ok (.ireturn, 1) := by decide +kernel
theorem dX6_isOwn_0 : decode cX6_isOwn 0 = .ok (.iload_n 0, 1) := by decide +kernel
theorem dX6_isOwn_1 : decode cX6_isOwn 1 = .ok (.bipush 40, 2) := by decide +kernel
theorem dX6_isOwn_3 : decode cX6_isOwn 3 = .ok (.if_icmp .eq 57, 3) := by decide +kernel
theorem dX6_isOwn_6 : decode cX6_isOwn 6 = .ok (.iload_n 0, 1) := by decide +kernel
theorem dX6_isOwn_7 : decode cX6_isOwn 7 = .ok (.bipush 41, 2) := by decide +kernel
theorem dX6_isOwn_9 : decode cX6_isOwn 9 = .ok (.if_icmp .eq 51, 3) := by decide +kernel
theorem dX6_isOwn_12 : decode cX6_isOwn 12 = .ok (.iload_n 0, 1) := by decide +kernel
theorem dX6_isOwn_13 : decode cX6_isOwn 13 = .ok (.bipush 60, 2) := by decide +kernel
theorem dX6_isOwn_15 : decode cX6_isOwn 15 = .ok (.if_icmp .eq 45, 3) := by decide +kernel
theorem dX6_isOwn_18 : decode cX6_isOwn 18 = .ok (.iload_n 0, 1) := by decide +kernel
theorem dX6_isOwn_19 : decode cX6_isOwn 19 = .ok (.bipush 62, 2) := by decide +kernel
theorem dX6_isOwn_21 : decode cX6_isOwn 21 = .ok (.if_icmp .eq 39, 3) := by decide +kernel
theorem dX6_isOwn_24 : decode cX6_isOwn 24 = .ok (.iload_n 0, 1) := by decide +kernel
theorem dX6_isOwn_25 : decode cX6_isOwn 25 = .ok (.bipush 91, 2) := by decide +kernel
theorem dX6_isOwn_27 : decode cX6_isOwn 27 = .ok (.if_icmp .eq 33, 3) := by decide +kernel
theorem dX6_isOwn_30 : decode cX6_isOwn 30 = .ok (.iload_n 0, 1) := by decide +kernel
theorem dX6_isOwn_31 : decode cX6_isOwn 31 = .ok (.bipush 93, 2) := by decide +kernel
theorem dX6_isOwn_33 : decode cX6_isOwn 33 = .ok (.if_icmp .eq 27, 3) := by decide +kernel
theorem dX6_isOwn_36 : decode cX6_isOwn 36 = .ok (.iload_n 0, 1) := by decide +kernel
theorem dX6_isOwn_37 : decode cX6_isOwn 37 = .ok (.bipush 123, 2) := by decide +kernel
theorem dX6_isOwn_39 : decode cX6_isOwn 39 = .ok (.if_icmp .eq 21, 3) := by decide +kernel
theorem dX6_isOwn_42 : decode cX6_isOwn 42 = .ok (.iload_n 0, 1) := by decide +kernel
theorem dX6_isOwn_43 : decode cX6_isOwn 43 = .ok (.bipush 125, 2) := by decide +kernel
theorem dX6_isOwn_45 : decode cX6_isOwn 45 = .ok (.if_icmp .eq 15, 3) := by decide +kernel
theorem dX6_isOwn_48 : decode cX6_isOwn 48 = .ok (.iload_n 0, 1) := by decide +kernel
theorem dX6_isOwn_49 : decode cX6_isOwn 49 = .ok (.bipush 47, 2) := by decide +kernel
theorem dX6_isOwn_51 : decode cX6_isOwn 51 = .ok (.if_icmp .eq 9, 3) := by decide +kernel
theorem dX6_isOwn_54 : decode cX6_isOwn 54 = .ok (.iload_n 0, 1) := by decide +kernel
theorem dX6_isOwn_55 : decode cX6_isOwn 55 = .ok (.bipush 37, 2) := by decide +kernel
theorem dX6_isOwn_57 : decode cX6_isOwn 57 = .ok (.if_icmp .ne 7, 3) := by decide +kernel
theorem dX6_isOwn_60 : decode cX6_isOwn 60 = .ok (.iconst 1, 1) := by decide +kernel
theorem dX6_isOwn_61 : decode cX6_isOwn 61 = .ok (.goto 4, 3) := by decide +kernel
theorem dX6_isOwn_64 : decode cX6_isOwn 64 = .ok (.iconst 0, 1) := by decide +kernel
theorem dX6_isOwn_65 : decode cX6_isOwn 65 = .ok (.ireturn, 1) := by decide +kernel
theorem dX6_isPlain_0 : decode cX6_isPlain 0 = .ok (.iload_n 0, 1) := by decide +kernel
theorem dX6_isPlain_1 : decode cX6_isPlain 1 = .ok (.sipush 159, 3) := by decide +kernel
theorem dX6_isPlain_4 : decode cX6_isPlain 4 = .ok (.if_icmp .gt 28, 3) := by decide +kernel
theorem dX6_isPlain_7 : decode cX6_isPlain 7 = .ok (.iload_n 0, 1) := by decide +kernel
theorem dX6_isPlain_8 : decode cX6_isPlain 8 = .ok (.ifCond .lt 28, 3) := by decide +kernel
theorem dX6_isPlain_11 : decode cX6_isPlain 11 = .ok (.iload_n 0, 1) := by decide +kernel
theorem dX6_isPlain_12 : decode cX6_isPlain 12 = .ok (.sipush 128, 3) := by decide +kernel
theorem dX6_isPlain_15 : decode cX6_isPlain 15 = .ok (.if_icmp .ge 21, 3) := by decide +kernel
theorem dX6_isPlain_18 : decode cX6_isPlain 18 = .ok (.iload_n 0, 1) := by decide +kernel
theorem dX6_isPlain_19 : decode cX6_isPlain 19 = .ok (.invokestatic 46, 3) := by decide +kernel
theorem dX6_isPlain_22 : decode cX6_isPlain 22 = .ok (.ifCond .ne 14, 3) := by decide +kernel
theorem dX6_isPlain_25 : decode cX6_isPlain 25 = .ok (.iload_n 0, 1) := by decide +kernel
theorem dX6_isPlain_26 : decode cX6_isPlain 26 = .ok (.invokestatic 50, 3) := by decide +kernel
theorem dX6_isPlain_29 : decode cX6_isPlain 29 = .ok (.ifCond .ne 7, 3) := by decide +kernel
theorem dX6_isPlain_32 : decode cX6_isPlain 32 = .ok (.iconst 1, 1) := by decide +kernel
theorem dX6_isPlain_33 : decode cX6_isPlain 33 = .ok (.goto 4, 3) := by decide +kernel
theorem dX6_isPlain_36 : decode cX6_isPlain 36 = .ok (.iconst 0, 1) := by decide +kernel
theorem dX6_isPlain_37 : decode cX6_isPlain 37 = .ok (.ireturn, 1) := by decide +kernel
theorem dX6_add_0 : decode cX6_add 0 = .ok (.aload_n 0, 1) := by decide +kernel
theorem dX6_add_1 : decode cX6_add 1 = .ok (.aload_n 0, 1) := by decide +kernel
theorem dX6_add_2 : decode cX6_add 2 = .ok (.getfield 53, 3) := by decide +kernel
theorem dX6_add_5 : decode cX6_add 5 = .ok (.ifCond .eq 7, 3) := by decide +kernel
theorem dX6_add_8 : decode cX6_add 8 = .ok (.iconst 1, 1) := by decide +kernel
theorem dX6_add_9 : decode cX6_add 9 = .ok (.goto 18, 3) := by decide +kernel
theorem dX6_add_12 : decode cX6_add 12 = .ok (.aload_n 0, 1) := by decide +kernel
theorem dX6_add_13 : decode cX6_add 13 = .ok (.getfield 40, 3) := by decide +kernel
theorem dX6_add_16 : decode cX6_add 16 = .ok (.sipush 3000, 3) := by decide +kernel
theorem dX6_add_19 : decode cX6_add 19 = .ok (.if_icmp .ne 7, 3) := by decide +kernel
theorem dX6_add_22 : decode cX6_add 22 = .ok (.iconst 2, 1) := by decide +kernel
theorem dX6_add_23 : decode cX6_add 23 = .ok (.goto 4, 3) := by decide +kernel
theorem dX6_add_26 : decode cX6_add 26 = .ok (.iconst 0, 1) := by decide +kernel
theorem dX6_add_27 : decode cX6_add 27 = .ok (.putfield 43, 3) := by decide +kernel
theorem dX6_add_30 : decode cX6_add 30 = .ok (.aload_n 0, 1) := by decide +kernel
theorem dX6_add_31 : decode cX6_add 31 = .ok (.getfield 43, 3) := by decide +kernel
theorem dX6_add_34 : decode cX6_add 34 = .ok (.ifCond .le 5, 3) := by decide +kernel
theorem dX6_add_37 : decode cX6_add 37 = .ok (.iconst 0, 1) := by decide +kernel
theorem dX6_add_38 : decode cX6_add 38 = .ok (.ireturn, 1) := by decide +kernel
theorem dX6_add_39 : decode cX6_add 39 = .ok (.aload_n 0, 1) := by decide +kernel
theorem dX6_add_40 : decode cX6_add 40 = .ok (.getfield 7, 3) := by decide +kernel
theorem dX6_add_43 : decode cX6_add 43 = .ok (.aload_n 0, 1) := by decide +kernel
theorem dX6_add_44 : decode cX6_add 44 = .ok (.getfield 40, 3) := by decide +kernel
theorem dX6_add_47 : decode cX6_add 47 = .ok (.iload_n 1, 1) := by decide +kernel
theorem dX6_add_48 : decode cX6_add 48 = .ok (.bastore, 1) := by decide +kernel
theorem dX6_add_49 : decode cX6_add 49 = .ok (.aload_n 0, 1) := by decide +kernel
theorem dX6_add_50 : decode cX6_add 50 = .ok (.dup, 1) := by decide +kernel
theorem dX6_add_51 : decode cX6_add 51 = .ok (.getfield 40, 3) := by decide +kernel
theorem dX6_add_54 : decode cX6_add 54 = .ok (.iconst 1, 1) := by decide +kernel
theorem dX6_add_55 : decode cX6_add 55 = .ok (.iadd, 1) := by decide +kernel
theorem dX6_add_56 : decode cX6_add 56 = .ok (.putfield 40, 3) := by decide +kernel
theorem dX6_add_59 : decode cX6_add 59 = .ok (.aload_n 0, 1) := by decide +kernel
theorem dX6_add_60 : decode cX6_add 60 = .ok (.getfield 40, 3) := by decide +kernel
theorem dX6_add_63 : decode cX6_add 63 = .ok (.ireturn, 1) := by decide +kernel
theorem dX6_end_0 : decode cX6_end 0 = .ok (.aload_n 0, 1) := by decide +kernel
theorem dX6_end_1 : decode cX6_end 1 = .ok (.iconst 0, 1) := by decide +kernel
theorem dX6_end_2 : decode cX6_end 2 = .ok (.putfield 43, 3) := by decide +kernel
theorem dX6_end_5 : decode cX6_end 5 = .ok (.aload_n 0, 1) := by decide +kernel
theorem dX6_end_6 : decode cX6_end 6 = .ok (.getfield 53, 3) := by decide +kernel
theorem dX6_end_9 : decode cX6_end 9 = .ok (.ifCond .eq 5, 3) := by decide +kernel
theorem dX6_end_12 : decode cX6_end 12 = .ok (.iconst (-1), 1) := by decide +kernel
theorem dX6_end_13 : decode cX6_end 13 = .ok (.ireturn, 1) := by decide +kernel
theorem dX6_end_14 : decode cX6_end 14 = .ok (.aload_n 0, 1) := by decide +kernel
theorem dX6_end_15 : decode cX6_end 15 = .ok (.iconst 1, 1) := by decide +kernel
theorem dX6_end_16 : decode cX6_end 16 = .ok (.putfield 53, 3) := by decide +kernel
theorem dX6_end_19 : decode cX6_end 19 = .ok (.aload_n 0, 1) := by decide +kernel
theorem dX6_end_20 : decode cX6_end 20 = .ok (.getfield 40, 3) := by decide +kernel
theorem dX6_end_23 : decode cX6_end 23 = .ok (.aload_n 0, 1) := by decide +kernel
theorem dX6_end_24 : decode cX6_end 24 = .ok (.getfield 57, 3) := by decide +kernel
theorem dX6_end_27 : decode cX6_end 27 = .ok (.isub, 1) := by decide +kernel
theorem dX6_end_28 : decode cX6_end 28 = .ok (.ireturn, 1) := by decide +kernel
theorem dX6_isDigit_0 : decode cX6_isDigit 0 = .ok (.iload_n 0, 1) := by decide +kernel
theorem dX6_isDigit_1 : decode cX6_isDigit 1 = .ok (.bipush 48, 2) := by decide +kernel
theorem dX6_isDigit_3 : decode cX6_isDigit 3 = .ok (.if_icmp .lt 13, 3) := by decide +kernel
theorem dX6_isDigit_6 : decode cX6_isDigit 6 = .ok (.iload_n 0, 1) := by decide +kernel
theorem dX6_isDigit_7 : decode cX6_isDigit 7 = .ok (.bipush 57, 2) := by decide +kernel
theorem dX6_isDigit_9 : decode cX6_isDigit 9 = .ok (.if_icmp .gt 7, 3) := by decide +kernel
theorem dX6_isDigit_12 : decode cX6_isDigit 12 = .ok (.iconst 1, 1) := by decide +kernel
theorem dX6_isDigit_13 : decode cX6_isDigit 13 = .ok (.goto 4, 3) := by decide +kernel
theorem dX6_isDigit_16 : decode cX6_isDigit 16 = .ok (.iconst 0, 1) := by decide +kernel
theorem dX6_isDigit_17 : decode cX6_isDigit 17 = .ok (.ireturn, 1) := by decide +kernel
theorem dX6_digit_0 : decode cX6_digit 0 = .ok (.iload_n 0, 1) := by decide +kernel
theorem dX6_digit_1 : decode cX6_digit 1 = .ok (.invokestatic 60, 3) := by decide +kernel
theorem dX6_digit_4 : decode cX6_digit 4 = .ok (.ifCond .eq 8, 3) := by decide +kernel
theorem dX6_digit_7 : decode cX6_digit 7 = .ok (.iload_n 0, 1) := by decide +kernel
theorem dX6_digit_8 : decode cX6_digit 8 = .ok (.bipush 48, 2) := by decide +kernel
theorem dX6_digit_10 : decode cX6_digit 10 = .ok (.isub, 1) := by decide +kernel
theorem dX6_digit_11 : decode cX6_digit 11 = .ok (.ireturn, 1) := by decide +kernel
theorem dX6_digit_12 : decode cX6_digit 12 = .ok (.iload_n 0, 1) := by decide +kernel
theorem dX6_digit_13 : decode cX6_digit 13 = .ok (.bipush 97, 2) := by decide +kernel
theorem dX6_digit_15 : decode cX6_digit 15 = .ok (.if_icmp .lt 17, 3) := by decide +kernel
theorem dX6_digit_18 : decode cX6_digit 18 = .ok (.iload_n 0, 1) := by decide +kernel
theorem dX6_digit_19 : decode cX6_digit 19 = .ok (.bipush 122, 2) := by decide +kernel
theorem dX6_digit_21 : decode cX6_digit 21 = .ok (.if_icmp .gt 11, 3) := by decide +kernel
theorem dX6_digit_24 : decode cX6_digit 24 = .ok (.iload_n 0, 1) := by decide +kernel
theorem dX6_digit_25 : decode cX6_digit 25 = .ok (.bipush 97, 2) := by decide +kernel
theorem dX6_digit_27 : decode cX6_digit 27 = .ok (.isub, 1) := by decide +kernel
theorem dX6_digit_28 : decode cX6_digit 28 = .ok (.bipush 10, 2) := by decide +kernel
theorem dX6_digit_30 : decode cX6_digit 30 = .ok (.iadd, 1) := by decide +kernel
theorem dX6_digit_31 : decode cX6_digit 31 = .ok (.ireturn, 1) := by decide +kernel
theorem dX6_digit_32 : decode cX6_digit 32 = .ok (.iload_n 0, 1) := by decide +kernel
theorem dX6_digit_33 : decode cX6_digit 33 = .ok (.bipush 65, 2) := by decide +kernel
theorem dX6_digit_35 : decode cX6_digit 35 = .ok (.if_icmp .lt 19, 3) := by decide +kernel
theorem dX6_digit_38 : decode cX6_digit 38 = .ok (.iload_n 0, 1) := by decide +kernel
theorem dX6_digit_39 : decode cX6_digit 39 = .ok (.bipush 90, 2) := by decide +kernel
theorem dX6_digit_41 : decode cX6_digit 41 = .ok (.if_icmp .gt 13, 3) := by decide +kernel
theorem dX6_digit_44 : decode cX6_digit 44 = .ok (.iload_n 0, 1) := by decide +kernel
theorem dX6_digit_45 : decode cX6_digit 45 = .ok (.bipush 65, 2) := by decide +kernel
theorem dX6_digit_47 : decode cX6_digit 47 = .ok (.isub, 1) := by decide +kernel
theorem dX6_digit_48 : decode cX6_digit 48 = .ok (.bipush 10, 2) := by decide +kernel
theorem dX6_digit_50 : decode cX6_digit 50 = .ok (.iadd, 1) := by decide +kernel
theorem dX6_digit_51 : decode cX6_digit 51 = .ok (.goto 5, 3) := by decide +kernel
theorem dX6_digit_54 : decode cX6_digit 54 = .ok (.bipush 99, 2) := by decide +kernel
theorem dX6_digit_56 : decode cX6_digit 56 = .ok (.ireturn, 1) := by decide +kernel
theorem dX6_digitsFrom_0 : decode cX6_digitsFrom 0 = .ok (.iload_n 1, 1) := by decide +kernel
theorem dX6_digitsFrom_1 : decode cX6_digitsFrom 1 = .ok (.istore_n 3, 1) := by decide +kernel
theorem dX6_digitsFrom_2 : decode cX6_digitsFrom 2 = .ok (.iload_n 3, 1) := by decide +kernel
theorem dX6_digitsFrom_3 : decode cX6_digitsFrom 3 = .ok (.iload_n 2, 1) := by decide +kernel
theorem dX6_digitsFrom_4 : decode cX6_digitsFrom 4 = .ok (.if_icmp .ge 20, 3) := by decide +kernel
theorem dX6_digitsFrom_7 : decode cX6_digitsFrom 7 = .ok (.aload_n 0, 1) := by decide +kernel
theorem dX6_digitsFrom_8 : decode cX6_digitsFrom 8 = .ok (.iload_n 3, 1) := by decide +kernel
theorem dX6_digitsFrom_9 : decode cX6_digitsFrom 9 = .ok (.invokevirtual 63, 3) := by decide +kernel
theorem dX6_digitsFrom_12 : decode cX6_digitsFrom 12 = .ok (.invokestatic 60, 3) := by decide +kernel
theorem dX6_digitsFrom_15 : decode cX6_digitsFrom 15 = .ok (.ifCond .eq 9, 3) := by decide +kernel
theorem dX6_digitsFrom_18 : decode cX6_digitsFrom 18 = .ok (.iinc 3 1, 3) := by decide +kernel
theorem dX6_digitsFrom_21 : decode cX6_digitsFrom 21 = .ok (.goto (-19), 3) := by decide +kernel
theorem dX6_digitsFrom_24 : decode cX6_digitsFrom 24 = .ok (.iload_n 3, 1) := by decide +kernel
theorem dX6_digitsFrom_25 : decode cX6_digitsFrom 25 = .ok (.iload_n 1, 1) := by decide +kernel
theorem dX6_digitsFrom_26 : decode cX6_digitsFrom 26 = .ok (.isub, 1) := by decide +kernel
theorem dX6_digitsFrom_27 : decode cX6_digitsFrom 27 = .ok (.ireturn, 1) := by decide +kernel
theorem dX6_isInteger_0 : decode cX6_isInteger 0 = .ok (.aload_n 0, 1) := by decide +kernel
theorem dX6_isInteger_1 : decode cX6_isInteger 1 = .ok (.iload_n 1, 1) := by decide +kernel
theorem dX6_isInteger_2 : decode cX6_isInteger 2 = .ok (.invokevirtual 63, 3) := by decide +kernel
theorem dX6_isInteger_5 : decode cX6_isInteger 5 = .ok (.bipush 45, 2) := by decide +kernel
theorem dX6_isInteger_7 : decode cX6_isInteger 7 = .ok (.if_icmp .ne 7, 3) := by decide +kernel
theorem dX6_isInteger_10 : decode cX6_isInteger 10 = .ok (.iconst 1, 1) := by decide +kernel
theorem dX6_isInteger_11 : decode cX6_isInteger 11 = .ok (.goto 4, 3) := by decide +kernel
theorem dX6_isInteger_14 : decode cX6_isInteger 14 = .ok (.iconst 0, 1) := by decide +kernel
theorem dX6_isInteger_15 : decode cX6_isInteger 15 = .ok (.istore_n 3, 1) := by decide +kernel
theorem dX6_isInteger_16 : decode cX6_isInteger 16 = .ok (.iload_n 3, 1) := by decide +kernel
theorem dX6_isInteger_17 : decode cX6_isInteger 17 = .ok (.ifCond .ne 13, 3) := by decide +kernel
theorem dX6_isInteger_20 : decode cX6_isInteger 20 = .ok (.aload_n 0, 1) := by decide +kernel
theorem dX6_isInteger_21 : decode cX6_isInteger 21 = .ok (.iload_n 1, 1) := by decide +kernel
theorem dX6_isInteger_22 : decode cX6_isInteger 22 = .ok (.invokevirtual 63, 3) := by decide +kernel
theorem dX6_isInteger_25 : decode cX6_isInteger 25 = .ok (.bipush 43, 2) := by decide +kernel
theorem dX6_isInteger_27 : decode cX6_isInteger 27 = .ok (.if_icmp .ne 9, 3) := by decide +kernel
theorem dX6_isInteger_30 : decode cX6_isInteger 30 = .ok (.iload_n 1, 1) := by decide +kernel
theorem dX6_isInteger_31 : decode cX6_isInteger 31 = .ok (.iconst 1, 1) := by decide +kernel
theorem dX6_isInteger_32 : decode cX6_isInteger 32 = .ok (.iadd, 1) := by decide +kernel
theorem dX6_isInteger_33 : decode cX6_isInteger 33 = .ok (.goto 4, 3) := by decide +kernel
theorem dX6_isInteger_36 : decode cX6_isInteger 36 = .ok (.iload_n 1, 1) := by decide +kernel
theorem dX6_isInteger_37 : decode cX6_isInteger 37 = .ok (.istore 4, 2) := by decide +kernel
theorem dX6_isInteger_39 : decode cX6_isInteger 39 = .ok (.iload 4, 2) := by decide +kernel
theorem dX6_isInteger_41 : decode cX6_isInteger 41 = .ok (.iload_n 2, 1) := by decide +kernel
theorem dX6_isInteger_42 : decode cX6_isInteger 42 = .ok (.if_icmp .eq 17, 3) := by decide +kernel
theorem dX6_isInteger_45 : decode cX6_isInteger 45 = .ok (.aload_n 0, 1) := by decide +kernel
theorem dX6_isInteger_46 : decode cX6_isInteger 46 = .ok (.iload 4, 2) := by decide +kernel
theorem dX6_isInteger_48 : decode cX6_isInteger 48 = .ok (.iload_n 2, 1) := by decide +kernel
theorem dX6_isInteger_49 : decode cX6_isInteger 49 = .ok (.invokevirtual 67, 3) := by decide +kernel
theorem dX6_isInteger_52 : decode cX6_isInteger 52 = .ok (.iload_n 2, 1) := by decide +kernel
theorem dX6_isInteger_53 : decode cX6_isInteger 53 = .ok (.iload 4, 2) := by decide +kernel
theorem dX6_isInteger_55 : decode cX6_isInteger 55 = .ok (.isub, 1) := by decide +kernel
theorem dX6_isInteger_56 : decode cX6_isInteger 56 = .ok (.if_icmp .eq 5, 3) := by decide +kernel
theorem dX6_isInteger_59 : decode cX6_isInteger 59 = .ok (.iconst 0, 1) := by decide +kernel
theorem dX6_isInteger_60 : decode cX6_isInteger 60 = .ok (.ireturn, 1) := by decide +kernel
theorem dX6_isInteger_61 : decode cX6_isInteger 61 = .ok (.lconst 0, 1) := by decide +kernel
theorem dX6_isInteger_62 : decode cX6_isInteger 62 = .ok (.lstore 5, 2) := by decide +kernel
theorem dX6_isInteger_64 : decode cX6_isInteger 64 = .ok (.iload 4, 2) := by decide +kernel
theorem dX6_isInteger_66 : decode cX6_isInteger 66 = .ok (.iload_n 2, 1) := by decide +kernel
theorem dX6_isInteger_67 : decode cX6_isInteger 67 = .ok (.if_icmp .ge 43, 3) := by decide +kernel
theorem dX6_isInteger_70 : decode cX6_isInteger 70 = .ok (.lload 5, 2) := by decide +kernel
theorem dX6_isInteger_72 : decode cX6_isInteger 72 = .ok (.ldc2_w 71, 3) := by decide +kernel
theorem dX6_isInteger_75 : decode cX6_isInteger 75 = .ok (.lcmp, 1) := by decide +kernel
theorem dX6_isInteger_76 : decode cX6_isInteger 76 = .ok (.ifCond .le 8, 3) := by decide +kernel
theorem dX6_isInteger_79 : decode cX6_isInteger 79 = .ok (.lload 5, 2) := by decide +kernel
theorem dX6_isInteger_81 : decode cX6_isInteger 81 = .ok (.goto 21, 3) := by decide +kernel
theorem dX6_isInteger_84 : decode cX6_isInteger 84 = .ok (.ldc2_w 73, 3) := by decide +kernel
theorem dX6_isInteger_87 : decode cX6_isInteger 87 = .ok (.lload 5, 2) := by decide +kernel
theorem dX6_isInteger_89 : decode cX6_isInteger 89 = .ok (.lmul, 1) := by decide +kernel
theorem dX6_isInteger_90 : decode cX6_isInteger 90 = .ok (.aload_n 0, 1) := by decide +kernel
theorem dX6_isInteger_91 : decode cX6_isInteger 91 = .ok (.iload 4, 2) := by decide +kernel
theorem dX6_isInteger_93 : decode cX6_isInteger 93 = .ok (.invokevirtual 63, 3) := by decide +kernel
theorem dX6_isInteger_96 : decode cX6_isInteger 96 = .ok (.i2l, 1) := by decide +kernel
theorem dX6_isInteger_97 : decode cX6_isInteger 97 = .ok (.ladd, 1) := by decide +kernel
theorem dX6_isInteger_98 : decode cX6_isInteger 98 = .ok (.ldc2_w 75, 3) := by decide +kernel
theorem dX6_isInteger_101 : decode cX6_isInteger 101 = .ok (.lsub, 1) := by decide +kernel
theorem dX6_isInteger_102 : decode cX6_isInteger 102 = .ok (.lstore 5, 2) := by decide +kernel
theorem dX6_isInteger_104 : decode cX6_isInteger 104 = .ok (.iinc 4 1, 3) := by decide +kernel
theorem dX6_isInteger_107 : decode cX6_isInteger 107 = .ok (.goto (-43), 3) := by decide +kernel
theorem dX6_isInteger_110 : decode cX6_isInteger 110 = .ok (.iload_n 3, 1) := by decide +kernel
theorem dX6_isInteger_111 : decode cX6_isInteger 111 = .ok (.ifCond .eq 9, 3) := by decide +kernel
theorem dX6_isInteger_114 : decode cX6_isInteger 114 = .ok (.lload 5, 2) := by decide +kernel
theorem dX6_isInteger_116 : decode cX6_isInteger 116 = .ok (.lneg, 1) := by decide +kernel
theorem dX6_isInteger_117 : decode cX6_isInteger 117 = .ok (.goto 5, 3) := by decide +kernel
theorem dX6_isInteger_120 : decode cX6_isInteger 120 = .ok (.lload 5, 2) := by decide +kernel
theorem dX6_isInteger_122 : decode cX6_isInteger 122 = .ok (.lstore 5, 2) := by decide +kernel
theorem dX6_isInteger_124 : decode cX6_isInteger 124 = .ok (.aload_n 0, 1) := by decide +kernel
theorem dX6_isInteger_125 : decode cX6_isInteger 125 = .ok (.lload 5, 2) := by decide +kernel
theorem dX6_isInteger_127 : decode cX6_isInteger 127 = .ok (.putfield 77, 3) := by decide +kernel
theorem dX6_isInteger_130 : decode cX6_isInteger 130 = .ok (.aload_n 0, 1) := by decide +kernel
theorem dX6_isInteger_131 : decode cX6_isInteger 131 = .ok (.bipush 10, 2) := by decide +kernel
theorem dX6_isInteger_133 : decode cX6_isInteger 133 = .ok (.putfield 81, 3) := by decide +kernel
theorem dX6_isInteger_136 : decode cX6_isInteger 136 = .ok (.lload 5, 2) := by decide +kernel
theorem dX6_isInteger_138 : decode cX6_isInteger 138 = .ok (.ldc2_w 84, 3) := by decide +kernel
theorem dX6_isInteger_141 : decode cX6_isInteger 141 = .ok (.lcmp, 1) := by decide +kernel
theorem dX6_isInteger_142 : decode cX6_isInteger 142 = .ok (.ifCond .lt 16, 3) := by decide +kernel
theorem dX6_isInteger_145 : decode cX6_isInteger 145 = .ok (.lload 5, 2) := by decide +kernel
theorem dX6_isInteger_147 : decode cX6_isInteger 147 = .ok (.ldc2_w 86, 3) := by decide +kernel
theorem dX6_isInteger_150 : decode cX6_isInteger 150 = .ok (.lcmp, 1) := by decide +kernel
theorem dX6_isInteger_151 : decode cX6_isInteger 151 = .ok (.ifCond .gt 7, 3) := by decide +kernel
theorem dX6_isInteger_154 : decode cX6_isInteger 154 = .ok (.iconst 1, 1) := by decide +kernel
theorem dX6_isInteger_155 : decode cX6_isInteger 155 = .ok (.goto 4, 3) := by decide +kernel
theorem dX6_isInteger_158 : decode cX6_isInteger 158 = .ok (.iconst 0, 1) := by decide +kernel
theorem dX6_isInteger_159 : decode cX6_isInteger 159 = .ok (.ireturn, 1) := by decide +kernel
theorem dX6_withBase_0 : decode cX6_withBase 0 = .ok (.aload_n 0, 1) := by decide +kernel
theorem dX6_withBase_1 : decode cX6_withBase 1 = .ok (.iload_n 1, 1) := by decide +kernel
theorem dX6_withBase_2 : decode cX6_withBase 2 = .ok (.iload_n 2, 1) := by decide +kernel
theorem dX6_withBase_3 : decode cX6_withBase 3 = .ok (.invokevirtual 67, 3) := by decide +kernel
theorem dX6_withBase_6 : decode cX6_withBase 6 = .ok (.istore_n 3, 1) := by decide +kernel
theorem dX6_withBase_7 : decode cX6_withBase 7 = .ok (.iload_n 3, 1) := by decide +kernel
theorem dX6_withBase_8 : decode cX6_withBase 8 = .ok (.iconst 1, 1) := by decide +kernel
theorem dX6_withBase_9 : decode cX6_withBase 9 = .ok (.if_icmp .lt 29, 3) := by decide +kernel
theorem dX6_withBase_12 : decode cX6_withBase 12 = .ok (.iload_n 3, 1) := by decide +kernel
theorem dX6_withBase_13 : decode cX6_withBase 13 = .ok (.iconst 2, 1) := by decide +kernel
theorem dX6_withBase_14 : decode cX6_withBase 14 = .ok (.if_icmp .gt 24, 3) := by decide +kernel
theorem dX6_withBase_17 : decode cX6_withBase 17 = .ok (.aload_n 0, 1) := by decide +kernel
theorem dX6_withBase_18 : decode cX6_withBase 18 = .ok (.iload_n 1, 1) := by decide +kernel
theorem dX6_withBase_19 : decode cX6_withBase 19 = .ok (.iload_n 3, 1) := by decide +kernel
theorem dX6_withBase_20 : decode cX6_withBase 20 = .ok (.iadd, 1) := by decide +kernel
theorem dX6_withBase_21 : decode cX6_withBase 21 = .ok (.invokevirtual 63, 3) := by decide +kernel
theorem dX6_withBase_24 : decode cX6_withBase 24 = .ok (.bipush 35, 2) := by decide +kernel
theorem dX6_withBase_26 : decode cX6_withBase 26 = .ok (.if_icmp .ne 12, 3) := by decide +kernel
theorem dX6_withBase_29 : decode cX6_withBase 29 = .ok (.iload_n 1, 1) := by decide +kernel
theorem dX6_withBase_30 : decode cX6_withBase 30 = .ok (.iload_n 3, 1) := by decide +kernel
theorem dX6_withBase_31 : decode cX6_withBase 31 = .ok (.iadd, 1) := by decide +kernel
theorem dX6_withBase_32 : decode cX6_withBase 32 = .ok (.iconst 1, 1) := by decide +kernel
theorem dX6_withBase_33 : decode cX6_withBase 33 = .ok (.iadd, 1) := by decide +kernel
theorem dX6_withBase_34 : decode cX6_withBase 34 = .ok (.iload_n 2, 1) := by decide +kernel
theorem dX6_withBase_35 : decode cX6_withBase 35 = .ok (.if_icmp .lt 5, 3) := by decide +kernel
theorem dX6_withBase_38 : decode cX6_withBase 38 = .ok (.iconst 0, 1) := by decide +kernel
theorem dX6_withBase_39 : decode cX6_withBase 39 = .ok (.ireturn, 1) := by decide +kernel
theorem dX6_withBase_40 : decode cX6_withBase 40 = .ok (.aload_n 0, 1) := by decide +kernel
theorem dX6_withBase_41 : decode cX6_withBase 41 = .ok (.iload_n 1, 1) := by decide +kernel
theorem dX6_withBase_42 : decode cX6_withBase 42 = .ok (.invokevirtual 63, 3) := by decide +kernel
theorem dX6_withBase_45 : decode cX6_withBase 45 = .ok (.bipush 48, 2) := by decide +kernel
theorem dX6_withBase_47 : decode cX6_withBase 47 = .ok (.isub, 1) := by decide +kernel
theorem dX6_withBase_48 : decode cX6_withBase 48 = .ok (.istore 4, 2) := by decide +kernel
theorem dX6_withBase_50 : decode cX6_withBase 50 = .ok (.iload_n 3, 1) := by decide +kernel
theorem dX6_withBase_51 : decode cX6_withBase 51 = .ok (.iconst 2, 1) := by decide +kernel
theorem dX6_withBase_52 : decode cX6_withBase 52 = .ok (.if_icmp .ne 22, 3) := by decide +kernel
theorem dX6_withBase_55 : decode cX6_withBase 55 = .ok (.bipush 10, 2) := by decide +kernel
theorem dX6_withBase_57 : decode cX6_withBase 57 = .ok (.iload 4, 2) := by decide +kernel
theorem dX6_withBase_59 : decode cX6_withBase 59 = .ok (.imul, 1) := by decide +kernel
theorem dX6_withBase_60 : decode cX6_withBase 60 = .ok (.aload_n 0, 1) := by decide +kernel
theorem dX6_withBase_61 : decode cX6_withBase 61 = .ok (.iload_n 1, 1) := by decide +kernel
theorem dX6_withBase_62 : decode cX6_withBase 62 = .ok (.iconst 1, 1) := by decide +kernel
theorem dX6_withBase_63 : decode cX6_withBase 63 = .ok (.iadd, 1) := by decide +kernel
theorem dX6_withBase_64 : decode cX6_withBase 64 = .ok (.invokevirtual 63, 3) := by decide +kernel
theorem dX6_withBase_67 : decode cX6_withBase 67 = .ok (.iadd, 1) := by decide +kernel
theorem dX6_withBase_68 : decode cX6_withBase 68 = .ok (.bipush 48, 2) := by decide +kernel
theorem dX6_withBase_70 : decode cX6_withBase 70 = .ok (.isub, 1) := by decide +kernel
theorem dX6_withBase_71 : decode cX6_withBase 71 = .ok (.goto 5, 3) := by decide +kernel
theorem dX6_withBase_74 : decode cX6_withBase 74 = .ok (.iload 4, 2) := by decide +kernel
theorem dX6_withBase_76 : decode cX6_withBase 76 = .ok (.istore 4, 2) := by decide +kernel
theorem dX6_withBase_78 : decode cX6_withBase 78 = .ok (.iload 4, 2) := by decide +kernel
theorem dX6_withBase_80 : decode cX6_withBase 80 = .ok (.iconst 2, 1) := by decide +kernel
theorem dX6_withBase_81 : decode cX6_withBase 81 = .ok (.if_icmp .lt 10, 3) := by decide +kernel
theorem dX6_withBase_84 : decode cX6_withBase 84 = .ok (.iload 4, 2) := by decide +kernel
theorem dX6_withBase_86 : decode cX6_withBase 86 = .ok (.bipush 36, 2) := by decide +kernel
theorem dX6_withBase_88 : decode cX6_withBase 88 = .ok (.if_icmp .le 5, 3) := by decide +kernel
theorem dX6_withBase_91 : decode cX6_withBase 91 = .ok (.iconst 0, 1) := by decide +kernel
theorem dX6_withBase_92 : decode cX6_withBase 92 = .ok (.ireturn, 1) := by decide +kernel
theorem dX6_withBase_93 : decode cX6_withBase 93 = .ok (.lconst 0, 1) := by decide +kernel
theorem dX6_withBase_94 : decode cX6_withBase 94 = .ok (.lstore 5, 2) := by decide +kernel
theorem dX6_withBase_96 : decode cX6_withBase 96 = .ok (.iload_n 1, 1) := by decide +kernel
theorem dX6_withBase_97 : decode cX6_withBase 97 = .ok (.iload_n 3, 1) := by decide +kernel
theorem dX6_withBase_98 : decode cX6_withBase 98 = .ok (.iadd, 1) := by decide +kernel
theorem dX6_withBase_99 : decode cX6_withBase 99 = .ok (.iconst 1, 1) := by decide +kernel
theorem dX6_withBase_100 : decode cX6_withBase 100 = .ok (.iadd, 1) := by decide +kernel
theorem dX6_withBase_101 : decode cX6_withBase 101 = .ok (.istore 7, 2) := by decide +kernel
theorem dX6_withBase_103 : decode cX6_withBase 103 = .ok (.iload 7, 2) := by decide +kernel
theorem dX6_withBase_105 : decode cX6_withBase 105 = .ok (.iload_n 2, 1) := by decide +kernel
theorem dX6_withBase_106 : decode cX6_withBase 106 = .ok (.if_icmp .ge 55, 3) := by decide +kernel
theorem dX6_withBase_109 : decode cX6_withBase 109 = .ok (.aload_n 0, 1) := by decide +kernel
theorem dX6_withBase_110 : decode cX6_withBase 110 = .ok (.iload 7, 2) := by decide +kernel
theorem dX6_withBase_112 : decode cX6_withBase 112 = .ok (.invokevirtual 63, 3) := by decide +kernel
theorem dX6_withBase_115 : decode cX6_withBase 115 = .ok (.invokestatic 88, 3) := by decide +kernel
theorem dX6_withBase_118 : decode cX6_withBase 118 = .ok (.istore 8, 2) := by decide +kernel
theorem dX6_withBase_120 : decode cX6_withBase 120 = .ok (.iload 8, 2) := by decide +kernel
theorem dX6_withBase_122 : decode cX6_withBase 122 = .ok (.iload 4, 2) := by decide +kernel
theorem dX6_withBase_124 : decode cX6_withBase 124 = .ok (.if_icmp .lt 5, 3) := by decide +kernel
theorem dX6_withBase_127 : decode cX6_withBase 127 = .ok (.iconst 0, 1) := by decide +kernel
theorem dX6_withBase_128 : decode cX6_withBase 128 = .ok (.ireturn, 1) := by decide +kernel
theorem dX6_withBase_129 : decode cX6_withBase 129 = .ok (.lload 5, 2) := by decide +kernel
theorem dX6_withBase_131 : decode cX6_withBase 131 = .ok (.ldc2_w 71, 3) := by decide +kernel
theorem dX6_withBase_134 : decode cX6_withBase 134 = .ok (.lcmp, 1) := by decide +kernel
theorem dX6_withBase_135 : decode cX6_withBase 135 = .ok (.ifCond .lt 8, 3) := by decide +kernel
theorem dX6_withBase_138 : decode cX6_withBase 138 = .ok (.lload 5, 2) := by decide +kernel
theorem dX6_withBase_140 : decode cX6_withBase 140 = .ok (.goto 13, 3) := by decide +kernel
theorem dX6_withBase_143 : decode cX6_withBase 143 = .ok (.lload 5, 2) := by decide +kernel
theorem dX6_withBase_145 : decode cX6_withBase 145 = .ok (.iload 4, 2) := by decide +kernel
theorem dX6_withBase_147 : decode cX6_withBase 147 = .ok (.i2l, 1) := by decide +kernel
theorem dX6_withBase_148 : decode cX6_withBase 148 = .ok (.lmul, 1) := by decide +kernel
theorem dX6_withBase_149 : decode cX6_withBase 149 = .ok (.iload 8, 2) := by decide +kernel
theorem dX6_withBase_151 : decode cX6_withBase 151 = .ok (.i2l, 1) := by decide +kernel
theorem dX6_withBase_152 : decode cX6_withBase 152 = .ok (.ladd, 1) := by decide +kernel
theorem dX6_withBase_153 : decode cX6_withBase 153 = .ok (.lstore 5, 2) := by decide +kernel
theorem dX6_withBase_155 : decode cX6_withBase 155 = .ok (.iinc 7 1, 3) := by decide +kernel
theorem dX6_withBase_158 : decode cX6_withBase 158 = .ok (.goto (-55), 3) := by decide +kernel
theorem dX6_withBase_161 : decode cX6_withBase 161 = .ok (.aload_n 0, 1) := by decide +kernel
theorem dX6_withBase_162 : decode cX6_withBase 162 = .ok (.lload 5, 2) := by decide +kernel
theorem dX6_withBase_164 : decode cX6_withBase 164 = .ok (.ldc2_w 86, 3) := by decide +kernel
theorem dX6_withBase_167 : decode cX6_withBase 167 = .ok (.lcmp, 1) := by decide +kernel
theorem dX6_withBase_168 : decode cX6_withBase 168 = .ok (.ifCond .le 12, 3) := by decide +kernel
theorem dX6_withBase_171 : decode cX6_withBase 171 = .ok (.lload 5, 2) := by decide +kernel
theorem dX6_withBase_173 : decode cX6_withBase 173 = .ok (.ldc2_w 71, 3) := by decide +kernel
theorem dX6_withBase_176 : decode cX6_withBase 176 = .ok (.lsub, 1) := by decide +kernel
theorem dX6_withBase_177 : decode cX6_withBase 177 = .ok (.goto 5, 3) := by decide +kernel
theorem dX6_withBase_180 : decode cX6_withBase 180 = .ok (.lload 5, 2) := by decide +kernel
theorem dX6_withBase_182 : decode cX6_withBase 182 = .ok (.putfield 77, 3) := by decide +kernel
theorem dX6_withBase_185 : decode cX6_withBase 185 = .ok (.aload_n 0, 1) := by decide +kernel
theorem dX6_withBase_186 : decode cX6_withBase 186 = .ok (.iload 4, 2) := by decide +kernel
theorem dX6_withBase_188 : decode cX6_withBase 188 = .ok (.putfield 81, 3) := by decide +kernel
theorem dX6_withBase_191 : decode cX6_withBase 191 = .ok (.lload 5, 2) := by decide +kernel
theorem dX6_withBase_193 : decode cX6_withBase 193 = .ok (.ldc2_w 71, 3) := by decide +kernel
theorem dX6_withBase_196 : decode cX6_withBase 196 = .ok (.lcmp, 1) := by decide +kernel
theorem dX6_withBase_197 : decode cX6_withBase 197 = .ok (.ifCond .lt 8, 3) := by decide +kernel
theorem dX6_withBase_200 : decode cX6_withBase 200 = .ok (.bipush (-6), 2) := by decide +kernel
theorem dX6_withBase_202 : decode cX6_withBase 202 = .ok (.goto 4, 3) := by decide +kernel
theorem dX6_withBase_205 : decode cX6_withBase 205 = .ok (.iconst 1, 1) := by decide +kernel
theorem dX6_withBase_206 : decode cX6_withBase 206 = .ok (.ireturn, 1) := by decide +kernel
theorem dX6_asReal_0 : decode cX6_asReal 0 = .ok (.aload_n 0, 1) := by decide +kernel
theorem dX6_asReal_1 : decode cX6_asReal 1 = .ok (.iload_n 1, 1) := by decide +kernel
theorem dX6_asReal_2 : decode cX6_asReal 2 = .ok (.invokevirtual 63, 3) := by decide +kernel
theorem dX6_asReal_5 : decode cX6_asReal 5 = .ok (.bipush 45, 2) := by decide +kernel
theorem dX6_asReal_7 : decode cX6_asReal 7 = .ok (.if_icmp .ne 7, 3) := by decide +kernel
theorem dX6_asReal_10 : decode cX6_asReal 10 = .ok (.iconst 1, 1) := by decide +kernel
theorem dX6_asReal_11 : decode cX6_asReal 11 = .ok (.goto 4, 3) := by decide +kernel
theorem dX6_asReal_14 : decode cX6_asReal 14 = .ok (.iconst 0, 1) := by decide +kernel
theorem dX6_asReal_15 : decode cX6_asReal 15 = .ok (.istore_n 3, 1) := by decide +kernel
theorem dX6_asReal_16 : decode cX6_asReal 16 = .ok (.iload_n 3, 1) := by decide +kernel
theorem dX6_asReal_17 : decode cX6_asReal 17 = .ok (.ifCond .ne 13, 3) := by decide +kernel
theorem dX6_asReal_20 : decode cX6_asReal 20 = .ok (.aload_n 0, 1) := by decide +kernel
theorem dX6_asReal_21 : decode cX6_asReal 21 = .ok (.iload_n 1, 1) := by decide +kernel
theorem dX6_asReal_22 : decode cX6_asReal 22 = .ok (.invokevirtual 63, 3) := by decide +kernel
theorem dX6_asReal_25 : decode cX6_asReal 25 = .ok (.bipush 43, 2) := by decide +kernel
theorem dX6_asReal_27 : decode cX6_asReal 27 = .ok (.if_icmp .ne 9, 3) := by decide +kernel
theorem dX6_asReal_30 : decode cX6_asReal 30 = .ok (.iload_n 1, 1) := by decide +kernel
theorem dX6_asReal_31 : decode cX6_asReal 31 = .ok (.iconst 1, 1) := by decide +kernel
theorem dX6_asReal_32 : decode cX6_asReal 32 = .ok (.iadd, 1) := by decide +kernel
theorem dX6_asReal_33 : decode cX6_asReal 33 = .ok (.goto 4, 3) := by decide +kernel
theorem dX6_asReal_36 : decode cX6_asReal 36 = .ok (.iload_n 1, 1) := by decide +kernel
theorem dX6_asReal_37 : decode cX6_asReal 37 = .ok (.istore 4, 2) := by decide +kernel
theorem dX6_asReal_39 : decode cX6_asReal 39 = .ok (.aload_n 0, 1) := by decide +kernel
theorem dX6_asReal_40 : decode cX6_asReal 40 = .ok (.iload 4, 2) := by decide +kernel
theorem dX6_asReal_42 : decode cX6_asReal 42 = .ok (.iload_n 2, 1) := by decide +kernel
theorem dX6_asReal_43 : decode cX6_asReal 43 = .ok (.invokevirtual 67, 3) := by decide +kernel
theorem dX6_asReal_46 : decode cX6_asReal 46 = .ok (.istore 5, 2) := by decide +kernel
theorem dX6_asReal_48 : decode cX6_asReal 48 = .ok (.dconst 0, 1) := by decide +kernel
theorem dX6_asReal_49 : decode cX6_asReal 49 = .ok (.dstore 6, 2) := by decide +kernel
theorem dX6_asReal_51 : decode cX6_asReal 51 = .ok (.iconst 0, 1) := by decide +kernel
theorem dX6_asReal_52 : decode cX6_asReal 52 = .ok (.istore 8, 2) := by decide +kernel
theorem dX6_asReal_54 : decode cX6_asReal 54 = .ok (.iload 8, 2) := by decide +kernel
theorem dX6_asReal_56 : decode cX6_asReal 56 = .ok (.iload 5, 2) := by decide +kernel
theorem dX6_asReal_58 : decode cX6_asReal 58 = .ok (.if_icmp .ge 31, 3) := by decide +kernel
theorem dX6_asReal_61 : decode cX6_asReal 61 = .ok (.dload 6, 2) := by decide +kernel
theorem dX6_asReal_63 : decode cX6_asReal 63 = .ok (.ldc2_w 91, 3) := by decide +kernel
theorem dX6_asReal_66 : decode cX6_asReal 66 = .ok (.dmul, 1) := by decide +kernel
theorem dX6_asReal_67 : decode cX6_asReal 67 = .ok (.aload_n 0, 1) := by decide +kernel
theorem dX6_asReal_68 : decode cX6_asReal 68 = .ok (.iload 4, 2) := by decide +kernel
theorem dX6_asReal_70 : decode cX6_asReal 70 = .ok (.iload 8, 2) := by decide +kernel
theorem dX6_asReal_72 : decode cX6_asReal 72 = .ok (.iadd, 1) := by decide +kernel
theorem dX6_asReal_73 : decode cX6_asReal 73 = .ok (.invokevirtual 63, 3) := by decide +kernel
theorem dX6_asReal_76 : decode cX6_asReal 76 = .ok (.bipush 48, 2) := by decide +kernel
theorem dX6_asReal_78 : decode cX6_asReal 78 = .ok (.isub, 1) := by decide +kernel
theorem dX6_asReal_79 : decode cX6_asReal 79 = .ok (.i2d, 1) := by decide +kernel
theorem dX6_asReal_80 : decode cX6_asReal 80 = .ok (.dadd, 1) := by decide +kernel
theorem dX6_asReal_81 : decode cX6_asReal 81 = .ok (.dstore 6, 2) := by decide +kernel
theorem dX6_asReal_83 : decode cX6_asReal 83 = .ok (.iinc 8 1, 3) := by decide +kernel
theorem dX6_asReal_86 : decode cX6_asReal 86 = .ok (.goto (-32), 3) := by decide +kernel
theorem dX6_asReal_89 : decode cX6_asReal 89 = .ok (.iload 4, 2) := by decide +kernel
theorem dX6_asReal_91 : decode cX6_asReal 91 = .ok (.iload 5, 2) := by decide +kernel
theorem dX6_asReal_93 : decode cX6_asReal 93 = .ok (.iadd, 1) := by decide +kernel
theorem dX6_asReal_94 : decode cX6_asReal 94 = .ok (.istore 4, 2) := by decide +kernel
theorem dX6_asReal_96 : decode cX6_asReal 96 = .ok (.iconst 0, 1) := by decide +kernel
theorem dX6_asReal_97 : decode cX6_asReal 97 = .ok (.istore 8, 2) := by decide +kernel
theorem dX6_asReal_99 : decode cX6_asReal 99 = .ok (.iload 4, 2) := by decide +kernel
theorem dX6_asReal_101 : decode cX6_asReal 101 = .ok (.iload_n 2, 1) := by decide +kernel
theorem dX6_asReal_102 : decode cX6_asReal 102 = .ok (.if_icmp .ge 71, 3) := by decide +kernel
theorem dX6_asReal_105 : decode cX6_asReal 105 = .ok (.aload_n 0, 1) := by decide +kernel
theorem dX6_asReal_106 : decode cX6_asReal 106 = .ok (.iload 4, 2) := by decide +kernel
theorem dX6_asReal_108 : decode cX6_asReal 108 = .ok (.invokevirtual 63, 3) := by decide +kernel
theorem dX6_asReal_111 : decode cX6_asReal 111 = .ok (.bipush 46, 2) := by decide +kernel
theorem dX6_asReal_113 : decode cX6_asReal 113 = .ok (.if_icmp .ne 60, 3) := by decide +kernel
theorem dX6_asReal_116 : decode cX6_asReal 116 = .ok (.iinc 4 1, 3) := by decide +kernel
theorem dX6_asReal_119 : decode cX6_asReal 119 = .ok (.aload_n 0, 1) := by decide +kernel
theorem dX6_asReal_120 : decode cX6_asReal 120 = .ok (.iload 4, 2) := by decide +kernel
theorem dX6_asReal_122 : decode cX6_asReal 122 = .ok (.iload_n 2, 1) := by decide +kernel
theorem dX6_asReal_123 : decode cX6_asReal 123 = .ok (.invokevirtual 67, 3) := by decide +kernel
theorem dX6_asReal_126 : decode cX6_asReal 126 = .ok (.istore 8, 2) := by decide +kernel
theorem dX6_asReal_128 : decode cX6_asReal 128 = .ok (.iconst 0, 1) := by decide +kernel
theorem dX6_asReal_129 : decode cX6_asReal 129 = .ok (.istore 9, 2) := by decide +kernel
theorem dX6_asReal_131 : decode cX6_asReal 131 = .ok (.iload 9, 2) := by decide +kernel
theorem dX6_asReal_133 : decode cX6_asReal 133 = .ok (.iload 8, 2) := by decide +kernel
theorem dX6_asReal_135 : decode cX6_asReal 135 = .ok (.if_icmp .ge 31, 3) := by decide +kernel
theorem dX6_asReal_138 : decode cX6_asReal 138 = .ok (.dload 6, 2) := by decide +kernel
theorem dX6_asReal_140 : decode cX6_asReal 140 = .ok (.ldc2_w 91, 3) := by decide +kernel
theorem dX6_asReal_143 : decode cX6_asReal 143 = .ok (.dmul, 1) := by decide +kernel
theorem dX6_asReal_144 : decode cX6_asReal 144 = .ok (.aload_n 0, 1) := by decide +kernel
theorem dX6_asReal_145 : decode cX6_asReal 145 = .ok (.iload 4, 2) := by decide +kernel
theorem dX6_asReal_147 : decode cX6_asReal 147 = .ok (.iload 9, 2) := by decide +kernel
theorem dX6_asReal_149 : decode cX6_asReal 149 = .ok (.iadd, 1) := by decide +kernel
theorem dX6_asReal_150 : decode cX6_asReal 150 = .ok (.invokevirtual 63, 3) := by decide +kernel
theorem dX6_asReal_153 : decode cX6_asReal 153 = .ok (.bipush 48, 2) := by decide +kernel
theorem dX6_asReal_155 : decode cX6_asReal 155 = .ok (.isub, 1) := by decide +kernel
theorem dX6_asReal_156 : decode cX6_asReal 156 = .ok (.i2d, 1) := by decide +kernel
theorem dX6_asReal_157 : decode cX6_asReal 157 = .ok (.dadd, 1) := by decide +kernel
theorem dX6_asReal_158 : decode cX6_asReal 158 = .ok (.dstore 6, 2) := by decide +kernel
theorem dX6_asReal_160 : decode cX6_asReal 160 = .ok (.iinc 9 1, 3) := by decide +kernel
theorem dX6_asReal_163 : decode cX6_asReal 163 = .ok (.goto (-32), 3) := by decide +kernel
theorem dX6_asReal_166 : decode cX6_asReal 166 = .ok (.iload 4, 2) := by decide +kernel
theorem dX6_asReal_168 : decode cX6_asReal 168 = .ok (.iload 8, 2) := by decide +kernel
theorem dX6_asReal_170 : decode cX6_asReal 170 = .ok (.iadd, 1) := by decide +kernel
theorem dX6_asReal_171 : decode cX6_asReal 171 = .ok (.istore 4, 2) := by decide +kernel
theorem dX6_asReal_173 : decode cX6_asReal 173 = .ok (.iload 5, 2) := by decide +kernel
theorem dX6_asReal_175 : decode cX6_asReal 175 = .ok (.iload 8, 2) := by decide +kernel
theorem dX6_asReal_177 : decode cX6_asReal 177 = .ok (.iadd, 1) := by decide +kernel
theorem dX6_asReal_178 : decode cX6_asReal 178 = .ok (.ifCond .ne 5, 3) := by decide +kernel
theorem dX6_asReal_181 : decode cX6_asReal 181 = .ok (.iconst 0, 1) := by decide +kernel
theorem dX6_asReal_182 : decode cX6_asReal 182 = .ok (.ireturn, 1) := by decide +kernel
theorem dX6_asReal_183 : decode cX6_asReal 183 = .ok (.iconst 0, 1) := by decide +kernel
theorem dX6_asReal_184 : decode cX6_asReal 184 = .ok (.istore 9, 2) := by decide +kernel
theorem dX6_asReal_186 : decode cX6_asReal 186 = .ok (.iload 4, 2) := by decide +kernel
theorem dX6_asReal_188 : decode cX6_asReal 188 = .ok (.iload_n 2, 1) := by decide +kernel
theorem dX6_asReal_189 : decode cX6_asReal 189 = .ok (.if_icmp .ge 166, 3) := by decide +kernel
theorem dX6_asReal_192 : decode cX6_asReal 192 = .ok (.aload_n 0, 1) := by decide +kernel
theorem dX6_asReal_193 : decode cX6_asReal 193 = .ok (.iload 4, 2) := by decide +kernel
theorem dX6_asReal_195 : decode cX6_asReal 195 = .ok (.invokevirtual 63, 3) := by decide +kernel
theorem dX6_asReal_198 : decode cX6_asReal 198 = .ok (.bipush 101, 2) := by decide +kernel
theorem dX6_asReal_200 : decode cX6_asReal 200 = .ok (.if_icmp .eq 14, 3) := by decide +kernel
theorem dX6_asReal_203 : decode cX6_asReal 203 = .ok (.aload_n 0, 1) := by decide +kernel
theorem dX6_asReal_204 : decode cX6_asReal 204 = .ok (.iload 4, 2) := by decide +kernel
theorem dX6_asReal_206 : decode cX6_asReal 206 = .ok (.invokevirtual 63, 3) := by decide +kernel
theorem dX6_asReal_209 : decode cX6_asReal 209 = .ok (.bipush 69, 2) := by decide +kernel
theorem dX6_asReal_211 : decode cX6_asReal 211 = .ok (.if_icmp .ne 144, 3) := by decide +kernel
theorem dX6_asReal_214 : decode cX6_asReal 214 = .ok (.iinc 4 1, 3) := by decide +kernel
theorem dX6_asReal_217 : decode cX6_asReal 217 = .ok (.iload 4, 2) := by decide +kernel
theorem dX6_asReal_219 : decode cX6_asReal 219 = .ok (.iload_n 2, 1) := by decide +kernel
theorem dX6_asReal_220 : decode cX6_asReal 220 = .ok (.if_icmp .ge 18, 3) := by decide +kernel
theorem dX6_asReal_223 : decode cX6_asReal 223 = .ok (.aload_n 0, 1) := by decide +kernel
theorem dX6_asReal_224 : decode cX6_asReal 224 = .ok (.iload 4, 2) := by decide +kernel
theorem dX6_asReal_226 : decode cX6_asReal 226 = .ok (.invokevirtual 63, 3) := by decide +kernel
theorem dX6_asReal_229 : decode cX6_asReal 229 = .ok (.bipush 45, 2) := by decide +kernel
theorem dX6_asReal_231 : decode cX6_asReal 231 = .ok (.if_icmp .ne 7, 3) := by decide +kernel
theorem dX6_asReal_234 : decode cX6_asReal 234 = .ok (.iconst 1, 1) := by decide +kernel
theorem dX6_asReal_235 : decode cX6_asReal 235 = .ok (.goto 4, 3) := by decide +kernel
theorem dX6_asReal_238 : decode cX6_asReal 238 = .ok (.iconst 0, 1) := by decide +kernel
theorem dX6_asReal_239 : decode cX6_asReal 239 = .ok (.istore 10, 2) := by decide +kernel
theorem dX6_asReal_241 : decode cX6_asReal 241 = .ok (.iload 10, 2) := by decide +kernel
theorem dX6_asReal_243 : decode cX6_asReal 243 = .ok (.ifCond .ne 20, 3) := by decide +kernel
theorem dX6_asReal_246 : decode cX6_asReal 246 = .ok (.iload 4, 2) := by decide +kernel
theorem dX6_asReal_248 : decode cX6_asReal 248 = .ok (.iload_n 2, 1) := by decide +kernel
theorem dX6_asReal_249 : decode cX6_asReal 249 = .ok (.if_icmp .ge 21, 3) := by decide +kernel
theorem dX6_asReal_252 : decode cX6_asReal 252 = .ok (.aload_n 0, 1) := by decide +kernel
theorem dX6_asReal_253 : decode cX6_asReal 253 = .ok (.iload 4, 2) := by decide +kernel
theorem dX6_asReal_255 : decode cX6_asReal 255 = .ok (.invokevirtual 63, 3) := by decide +kernel
theorem dX6_asReal_258 : decode cX6_asReal 258 = .ok (.bipush 43, 2) := by decide +kernel
theorem dX6_asReal_260 : decode cX6_asReal 260 = .ok (.if_icmp .ne 10, 3) := by decide +kernel
theorem dX6_asReal_263 : decode cX6_asReal 263 = .ok (.iload 4, 2) := by decide +kernel
theorem dX6_asReal_265 : decode cX6_asReal 265 = .ok (.iconst 1, 1) := by decide +kernel
theorem dX6_asReal_266 : decode cX6_asReal 266 = .ok (.iadd, 1) := by decide +kernel
theorem dX6_asReal_267 : decode cX6_asReal 267 = .ok (.goto 5, 3) := by decide +kernel
theorem dX6_asReal_270 : decode cX6_asReal 270 = .ok (.iload 4, 2) := by decide +kernel
theorem dX6_asReal_272 : decode cX6_asReal 272 = .ok (.istore 4, 2) := by decide +kernel
theorem dX6_asReal_274 : decode cX6_asReal 274 = .ok (.aload_n 0, 1) := by decide +kernel
theorem dX6_asReal_275 : decode cX6_asReal 275 = .ok (.iload 4, 2) := by decide +kernel
theorem dX6_asReal_277 : decode cX6_asReal 277 = .ok (.iload_n 2, 1) := by decide +kernel
theorem dX6_asReal_278 : decode cX6_asReal 278 = .ok (.invokevirtual 67, 3) := by decide +kernel
theorem dX6_asReal_281 : decode cX6_asReal 281 = .ok (.istore 11, 2) := by decide +kernel
theorem dX6_asReal_283 : decode cX6_asReal 283 = .ok (.iload 11, 2) := by decide +kernel
theorem dX6_asReal_285 : decode cX6_asReal 285 = .ok (.iconst 1, 1) := by decide +kernel
theorem dX6_asReal_286 : decode cX6_asReal 286 = .ok (.if_icmp .lt 9, 3) := by decide +kernel
theorem dX6_asReal_289 : decode cX6_asReal 289 = .ok (.iload 11, 2) := by decide +kernel
theorem dX6_asReal_291 : decode cX6_asReal 291 = .ok (.iconst 3, 1) := by decide +kernel
theorem dX6_asReal_292 : decode cX6_asReal 292 = .ok (.if_icmp .le 5, 3) := by decide +kernel
theorem dX6_asReal_295 : decode cX6_asReal 295 = .ok (.iconst 0, 1) := by decide +kernel
theorem dX6_asReal_296 : decode cX6_asReal 296 = .ok (.ireturn, 1) := by decide +kernel
theorem dX6_asReal_297 : decode cX6_asReal 297 = .ok (.iconst 0, 1) := by decide +kernel
theorem dX6_asReal_298 : decode cX6_asReal 298 = .ok (.istore 12, 2) := by decide +kernel
theorem dX6_asReal_300 : decode cX6_asReal 300 = .ok (.iload 12, 2) := by decide +kernel
theorem dX6_asReal_302 : decode cX6_asReal 302 = .ok (.iload 11, 2) := by decide +kernel
theorem dX6_asReal_304 : decode cX6_asReal 304 = .ok (.if_icmp .ge 29, 3) := by decide +kernel
theorem dX6_asReal_307 : decode cX6_asReal 307 = .ok (.bipush 10, 2) := by decide +kernel
theorem dX6_asReal_309 : decode cX6_asReal 309 = .ok (.iload 9, 2) := by decide +kernel
theorem dX6_asReal_311 : decode cX6_asReal 311 = .ok (.imul, 1) := by decide +kernel
theorem dX6_asReal_312 : decode cX6_asReal 312 = .ok (.aload_n 0, 1) := by decide +kernel
theorem dX6_asReal_313 : decode cX6_asReal 313 = .ok (.iload 4, 2) := by decide +kernel
theorem dX6_asReal_315 : decode cX6_asReal 315 = .ok (.iload 12, 2) := by decide +kernel
theorem dX6_asReal_317 : decode cX6_asReal 317 = .ok (.iadd, 1) := by decide +kernel
theorem dX6_asReal_318 : decode cX6_asReal 318 = .ok (.invokevirtual 63, 3) := by decide +kernel
theorem dX6_asReal_321 : decode cX6_asReal 321 = .ok (.iadd, 1) := by decide +kernel
theorem dX6_asReal_322 : decode cX6_asReal 322 = .ok (.bipush 48, 2) := by decide +kernel
theorem dX6_asReal_324 : decode cX6_asReal 324 = .ok (.isub, 1) := by decide +kernel
theorem dX6_asReal_325 : decode cX6_asReal 325 = .ok (.istore 9, 2) := by decide +kernel
theorem dX6_asReal_327 : decode cX6_asReal 327 = .ok (.iinc 12 1, 3) := by decide +kernel
theorem dX6_asReal_330 : decode cX6_asReal 330 = .ok (.goto (-30), 3) := by decide +kernel
theorem dX6_asReal_333 : decode cX6_asReal 333 = .ok (.iload 10, 2) := by decide +kernel
theorem dX6_asReal_335 : decode cX6_asReal 335 = .ok (.ifCond .eq 9, 3) := by decide +kernel
theorem dX6_asReal_338 : decode cX6_asReal 338 = .ok (.iload 9, 2) := by decide +kernel
theorem dX6_asReal_340 : decode cX6_asReal 340 = .ok (.ineg, 1) := by decide +kernel
theorem dX6_asReal_341 : decode cX6_asReal 341 = .ok (.goto 5, 3) := by decide +kernel
theorem dX6_asReal_344 : decode cX6_asReal 344 = .ok (.iload 9, 2) := by decide +kernel
theorem dX6_asReal_346 : decode cX6_asReal 346 = .ok (.istore 9, 2) := by decide +kernel
theorem dX6_asReal_348 : decode cX6_asReal 348 = .ok (.iload 4, 2) := by decide +kernel
theorem dX6_asReal_350 : decode cX6_asReal 350 = .ok (.iload 11, 2) := by decide +kernel
theorem dX6_asReal_352 : decode cX6_asReal 352 = .ok (.iadd, 1) := by decide +kernel
theorem dX6_asReal_353 : decode cX6_asReal 353 = .ok (.istore 4, 2) := by decide +kernel
theorem dX6_asReal_355 : decode cX6_asReal 355 = .ok (.iload 4, 2) := by decide +kernel
theorem dX6_asReal_357 : decode cX6_asReal 357 = .ok (.iload_n 2, 1) := by decide +kernel
theorem dX6_asReal_358 : decode cX6_asReal 358 = .ok (.if_icmp .eq 5, 3) := by decide +kernel
theorem dX6_asReal_361 : decode cX6_asReal 361 = .ok (.iconst 0, 1) := by decide +kernel
theorem dX6_asReal_362 : decode cX6_asReal 362 = .ok (.ireturn, 1) := by decide +kernel
theorem dX6_asReal_363 : decode cX6_asReal 363 = .ok (.iload 9, 2) := by decide +kernel
theorem dX6_asReal_365 : decode cX6_asReal 365 = .ok (.iload 8, 2) := by decide +kernel
theorem dX6_asReal_367 : decode cX6_asReal 367 = .ok (.isub, 1) := by decide +kernel
theorem dX6_asReal_368 : decode cX6_asReal 368 = .ok (.istore 9, 2) := by decide +kernel
theorem dX6_asReal_370 : decode cX6_asReal 370 = .ok (.iconst 0, 1) := by decide +kernel
theorem dX6_asReal_371 : decode cX6_asReal 371 = .ok (.istore 10, 2) := by decide +kernel
theorem dX6_asReal_373 : decode cX6_asReal 373 = .ok (.iload 10, 2) := by decide +kernel
theorem dX6_asReal_375 : decode cX6_asReal 375 = .ok (.iload 9, 2) := by decide +kernel
theorem dX6_asReal_377 : decode cX6_asReal 377 = .ok (.if_icmp .ge 17, 3) := by decide +kernel
theorem dX6_asReal_380 : decode cX6_asReal 380 = .ok (.dload 6, 2) := by decide +kernel
theorem dX6_asReal_382 : decode cX6_asReal 382 = .ok (.ldc2_w 91, 3) := by decide +kernel
theorem dX6_asReal_385 : decode cX6_asReal 385 = .ok (.dmul, 1) := by decide +kernel
theorem dX6_asReal_386 : decode cX6_asReal 386 = .ok (.dstore 6, 2) := by decide +kernel
theorem dX6_asReal_388 : decode cX6_asReal 388 = .ok (.iinc 10 1, 3) := by decide +kernel
theorem dX6_asReal_391 : decode cX6_asReal 391 = .ok (.goto (-18), 3) := by decide +kernel
theorem dX6_asReal_394 : decode cX6_asReal 394 = .ok (.iconst 0, 1) := by decide +kernel
theorem dX6_asReal_395 : decode cX6_asReal 395 = .ok (.istore 10, 2) := by decide +kernel
theorem dX6_asReal_397 : decode cX6_asReal 397 = .ok (.iload 10, 2) := by decide +kernel
theorem dX6_asReal_399 : decode cX6_asReal 399 = .ok (.iload 9, 2) := by decide +kernel
theorem dX6_asReal_401 : decode cX6_asReal 401 = .ok (.if_icmp .le 17, 3) := by decide +kernel
theorem dX6_asReal_404 : decode cX6_asReal 404 = .ok (.dload 6, 2) := by decide +kernel
theorem dX6_asReal_406 : decode cX6_asReal 406 = .ok (.ldc2_w 91, 3) := by decide +kernel
theorem dX6_asReal_409 : decode cX6_asReal 409 = .ok (.ddiv, 1) := by decide +kernel
theorem dX6_asReal_410 : decode cX6_asReal 410 = .ok (.dstore 6, 2) := by decide +kernel
theorem dX6_asReal_412 : decode cX6_asReal 412 = .ok (.iinc 10 (-1), 3) := by decide +kernel
theorem dX6_asReal_415 : decode cX6_asReal 415 = .ok (.goto (-18), 3) := by decide +kernel
theorem dX6_asReal_418 : decode cX6_asReal 418 = .ok (.aload_n 0, 1) := by decide +kernel
theorem dX6_asReal_419 : decode cX6_asReal 419 = .ok (.iload_n 3, 1) := by decide +kernel
theorem dX6_asReal_420 : decode cX6_asReal 420 = .ok (.ifCond .eq 10, 3) := by decide +kernel
theorem dX6_asReal_423 : decode cX6_asReal 423 = .ok (.dconst 0, 1) := by decide +kernel
theorem dX6_asReal_424 : decode cX6_asReal 424 = .ok (.dload 6, 2) := by decide +kernel
theorem dX6_asReal_426 : decode cX6_asReal 426 = .ok (.dsub, 1) := by decide +kernel
theorem dX6_asReal_427 : decode cX6_asReal 427 = .ok (.goto 5, 3) := by decide +kernel
theorem dX6_asReal_430 : decode cX6_asReal 430 = .ok (.dload 6, 2) := by decide +kernel
theorem dX6_asReal_432 : decode cX6_asReal 432 = .ok (.putfield 93, 3) := by decide +kernel
theorem dX6_asReal_435 : decode cX6_asReal 435 = .ok (.dload 6, 2) := by decide +kernel
theorem dX6_asReal_437 : decode cX6_asReal 437 = .ok (.ldc2_w 97, 3) := by decide +kernel
theorem dX6_asReal_440 : decode cX6_asReal 440 = .ok (.dcmp .l, 1) := by decide +kernel
theorem dX6_asReal_441 : decode cX6_asReal 441 = .ok (.ifCond .le 8, 3) := by decide +kernel
theorem dX6_asReal_444 : decode cX6_asReal 444 = .ok (.bipush (-6), 2) := by decide +kernel
theorem dX6_asReal_446 : decode cX6_asReal 446 = .ok (.goto 4, 3) := by decide +kernel
theorem dX6_asReal_449 : decode cX6_asReal 449 = .ok (.iconst 2, 1) := by decide +kernel
theorem dX6_asReal_450 : decode cX6_asReal 450 = .ok (.ireturn, 1) := by decide +kernel
theorem dX6_word_0 : decode cX6_word 0 = .ok (.aload_n 0, 1) := by decide +kernel
theorem dX6_word_1 : decode cX6_word 1 = .ok (.iconst 0, 1) := by decide +kernel
theorem dX6_word_2 : decode cX6_word 2 = .ok (.putfield 99, 3) := by decide +kernel
theorem dX6_word_5 : decode cX6_word 5 = .ok (.iconst 0, 1) := by decide +kernel
theorem dX6_word_6 : decode cX6_word 6 = .ok (.istore_n 1, 1) := by decide +kernel
theorem dX6_word_7 : decode cX6_word 7 = .ok (.aload_n 0, 1) := by decide +kernel
theorem dX6_word_8 : decode cX6_word 8 = .ok (.aload_n 0, 1) := by decide +kernel
theorem dX6_word_9 : decode cX6_word 9 = .ok (.getfield 102, 3) := by decide +kernel
theorem dX6_word_12 : decode cX6_word 12 = .ok (.invokevirtual 63, 3) := by decide +kernel
theorem dX6_word_15 : decode cX6_word 15 = .ok (.invokestatic 105, 3) := by decide +kernel
theorem dX6_word_18 : decode cX6_word 18 = .ok (.ifCond .eq 40, 3) := by decide +kernel
theorem dX6_word_21 : decode cX6_word 21 = .ok (.iload_n 1, 1) := by decide +kernel
theorem dX6_word_22 : decode cX6_word 22 = .ok (.bipush 100, 2) := by decide +kernel
theorem dX6_word_24 : decode cX6_word 24 = .ok (.if_icmp .ge 18, 3) := by decide +kernel
theorem dX6_word_27 : decode cX6_word 27 = .ok (.aload_n 0, 1) := by decide +kernel
theorem dX6_word_28 : decode cX6_word 28 = .ok (.getfield 31, 3) := by decide +kernel
theorem dX6_word_31 : decode cX6_word 31 = .ok (.iload_n 1, 1) := by decide +kernel
theorem dX6_word_32 : decode cX6_word 32 = .ok (.aload_n 0, 1) := by decide +kernel
theorem dX6_word_33 : decode cX6_word 33 = .ok (.getfield 7, 3) := by decide +kernel
theorem dX6_word_36 : decode cX6_word 36 = .ok (.aload_n 0, 1) := by decide +kernel
theorem dX6_word_37 : decode cX6_word 37 = .ok (.getfield 102, 3) := by decide +kernel
theorem dX6_word_40 : decode cX6_word 40 = .ok (.baload, 1) := by decide +kernel
theorem dX6_word_41 : decode cX6_word 41 = .ok (.bastore, 1) := by decide +kernel
theorem dX6_word_42 : decode cX6_word 42 = .ok (.iinc 1 1, 3) := by decide +kernel
theorem dX6_word_45 : decode cX6_word 45 = .ok (.aload_n 0, 1) := by decide +kernel
theorem dX6_word_46 : decode cX6_word 46 = .ok (.dup, 1) := by decide +kernel
theorem dX6_word_47 : decode cX6_word 47 = .ok (.getfield 102, 3) := by decide +kernel
theorem dX6_word_50 : decode cX6_word 50 = .ok (.iconst 1, 1) := by decide +kernel
theorem dX6_word_51 : decode cX6_word 51 = .ok (.iadd, 1) := by decide +kernel
theorem dX6_word_52 : decode cX6_word 52 = .ok (.putfield 102, 3) := by decide +kernel
theorem dX6_word_55 : decode cX6_word 55 = .ok (.goto (-48), 3) := by decide +kernel
theorem dX6_word_58 : decode cX6_word 58 = .ok (.aload_n 0, 1) := by decide +kernel
theorem dX6_word_59 : decode cX6_word 59 = .ok (.iload_n 1, 1) := by decide +kernel
theorem dX6_word_60 : decode cX6_word 60 = .ok (.bipush 100, 2) := by decide +kernel
theorem dX6_word_62 : decode cX6_word 62 = .ok (.if_icmp .ge 7, 3) := by decide +kernel
theorem dX6_word_65 : decode cX6_word 65 = .ok (.iload_n 1, 1) := by decide +kernel
theorem dX6_word_66 : decode cX6_word 66 = .ok (.goto 5, 3) := by decide +kernel
theorem dX6_word_69 : decode cX6_word 69 = .ok (.bipush 100, 2) := by decide +kernel
theorem dX6_word_71 : decode cX6_word 71 = .ok (.putfield 99, 3) := by decide +kernel
theorem dX6_word_74 : decode cX6_word 74 = .ok (.aload_n 0, 1) := by decide +kernel
theorem dX6_word_75 : decode cX6_word 75 = .ok (.iload_n 1, 1) := by decide +kernel
theorem dX6_word_76 : decode cX6_word 76 = .ok (.i2l, 1) := by decide +kernel
theorem dX6_word_77 : decode cX6_word 77 = .ok (.putfield 77, 3) := by decide +kernel
theorem dX6_word_80 : decode cX6_word 80 = .ok (.aload_n 0, 1) := by decide +kernel
theorem dX6_word_81 : decode cX6_word 81 = .ok (.getfield 102, 3) := by decide +kernel
theorem dX6_word_84 : decode cX6_word 84 = .ok (.aload_n 0, 1) := by decide +kernel
theorem dX6_word_85 : decode cX6_word 85 = .ok (.getfield 40, 3) := by decide +kernel
theorem dX6_word_88 : decode cX6_word 88 = .ok (.if_icmp .ne 14, 3) := by decide +kernel
theorem dX6_word_91 : decode cX6_word 91 = .ok (.aload_n 0, 1) := by decide +kernel
theorem dX6_word_92 : decode cX6_word 92 = .ok (.getfield 53, 3) := by decide +kernel
theorem dX6_word_95 : decode cX6_word 95 = .ok (.ifCond .ne 7, 3) := by decide +kernel
theorem dX6_word_98 : decode cX6_word 98 = .ok (.iconst 0, 1) := by decide +kernel
theorem dX6_word_99 : decode cX6_word 99 = .ok (.goto 15, 3) := by decide +kernel
theorem dX6_word_102 : decode cX6_word 102 = .ok (.iload_n 1, 1) := by decide +kernel
theorem dX6_word_103 : decode cX6_word 103 = .ok (.bipush 100, 2) := by decide +kernel
theorem dX6_word_105 : decode cX6_word 105 = .ok (.if_icmp .le 8, 3) := by decide +kernel
theorem dX6_word_108 : decode cX6_word 108 = .ok (.bipush (-2), 2) := by decide +kernel
theorem dX6_word_110 : decode cX6_word 110 = .ok (.goto 4, 3) := by decide +kernel
theorem dX6_word_113 : decode cX6_word 113 = .ok (.iconst 1, 1) := by decide +kernel
theorem dX6_word_114 : decode cX6_word 114 = .ok (.ireturn, 1) := by decide +kernel
theorem dX6_anyWord_0 : decode cX6_anyWord 0 = .ok (.aload_n 0, 1) := by decide +kernel
theorem dX6_anyWord_1 : decode cX6_anyWord 1 = .ok (.getfield 102, 3) := by decide +kernel
theorem dX6_anyWord_4 : decode cX6_anyWord 4 = .ok (.istore_n 1, 1) := by decide +kernel
theorem dX6_anyWord_5 : decode cX6_anyWord 5 = .ok (.aload_n 0, 1) := by decide +kernel
theorem dX6_anyWord_6 : decode cX6_anyWord 6 = .ok (.invokevirtual 108, 3) := by decide +kernel
theorem dX6_anyWord_9 : decode cX6_anyWord 9 = .ok (.istore_n 2, 1) := by decide +kernel
theorem dX6_anyWord_10 : decode cX6_anyWord 10 = .ok (.iload_n 2, 1) := by decide +kernel
theorem dX6_anyWord_11 : decode cX6_anyWord 11 = .ok (.iconst 1, 1) := by decide +kernel
theorem dX6_anyWord_12 : decode cX6_anyWord 12 = .ok (.if_icmp .eq 5, 3) := by decide +kernel
theorem dX6_anyWord_15 : decode cX6_anyWord 15 = .ok (.iload_n 2, 1) := by decide +kernel
theorem dX6_anyWord_16 : decode cX6_anyWord 16 = .ok (.ireturn, 1) := by decide +kernel
theorem dX6_anyWord_17 : decode cX6_anyWord 17 = .ok (.aload_n 0, 1) := by decide +kernel
theorem dX6_anyWord_18 : decode cX6_anyWord 18 = .ok (.getfield 99, 3) := by decide +kernel
theorem dX6_anyWord_21 : decode cX6_anyWord 21 = .ok (.istore_n 3, 1) := by decide +kernel
theorem dX6_anyWord_22 : decode cX6_anyWord 22 = .ok (.aload_n 0, 1) := by decide +kernel
theorem dX6_anyWord_23 : decode cX6_anyWord 23 = .ok (.iload_n 1, 1) := by decide +kernel
theorem dX6_anyWord_24 : decode cX6_anyWord 24 = .ok (.aload_n 0, 1) := by decide +kernel
theorem dX6_anyWord_25 : decode cX6_anyWord 25 = .ok (.getfield 102, 3) := by decide +kernel
theorem dX6_anyWord_28 : decode cX6_anyWord 28 = .ok (.invokevirtual 112, 3) := by decide +kernel
theorem dX6_anyWord_31 : decode cX6_anyWord 31 = .ok (.ifCond .eq 5, 3) := by decide +kernel
theorem dX6_anyWord_34 : decode cX6_anyWord 34 = .ok (.iconst 1, 1) := by decide +kernel
theorem dX6_anyWord_35 : decode cX6_anyWord 35 = .ok (.ireturn, 1) := by decide +kernel
theorem dX6_anyWord_36 : decode cX6_anyWord 36 = .ok (.aload_n 0, 1) := by decide +kernel
theorem dX6_anyWord_37 : decode cX6_anyWord 37 = .ok (.iload_n 1, 1) := by decide +kernel
theorem dX6_anyWord_38 : decode cX6_anyWord 38 = .ok (.aload_n 0, 1) := by decide +kernel
theorem dX6_anyWord_39 : decode cX6_anyWord 39 = .ok (.getfield 102, 3) := by decide +kernel
theorem dX6_anyWord_42 : decode cX6_anyWord 42 = .ok (.invokevirtual 116, 3) := by decide +kernel
theorem dX6_anyWord_45 : decode cX6_anyWord 45 = .ok (.istore 4, 2) := by decide +kernel
theorem dX6_anyWord_47 : decode cX6_anyWord 47 = .ok (.iload 4, 2) := by decide +kernel
theorem dX6_anyWord_49 : decode cX6_anyWord 49 = .ok (.ifCond .eq 6, 3) := by decide +kernel
theorem dX6_anyWord_52 : decode cX6_anyWord 52 = .ok (.iload 4, 2) := by decide +kernel
theorem dX6_anyWord_54 : decode cX6_anyWord 54 = .ok (.ireturn, 1) := by decide +kernel
theorem dX6_anyWord_55 : decode cX6_anyWord 55 = .ok (.aload_n 0, 1) := by decide +kernel
theorem dX6_anyWord_56 : decode cX6_anyWord 56 = .ok (.iload_n 1, 1) := by decide +kernel
theorem dX6_anyWord_57 : decode cX6_anyWord 57 = .ok (.aload_n 0, 1) := by decide +kernel
theorem dX6_anyWord_58 : decode cX6_anyWord 58 = .ok (.getfield 102, 3) := by decide +kernel
theorem dX6_anyWord_61 : decode cX6_anyWord 61 = .ok (.invokevirtual 119, 3) := by decide +kernel
theorem dX6_anyWord_64 : decode cX6_anyWord 64 = .ok (.istore 4, 2) := by decide +kernel
theorem dX6_anyWord_66 : decode cX6_anyWord 66 = .ok (.iload 4, 2) := by decide +kernel
theorem dX6_anyWord_68 : decode cX6_anyWord 68 = .ok (.ifCond .eq 6, 3) := by decide +kernel
theorem dX6_anyWord_71 : decode cX6_anyWord 71 = .ok (.iload 4, 2) := by decide +kernel
theorem dX6_anyWord_73 : decode cX6_anyWord 73 = .ok (.ireturn, 1) := by decide +kernel
theorem dX6_anyWord_74 : decode cX6_anyWord 74 = .ok (.aload_n 0, 1) := by decide +kernel
theorem dX6_anyWord_75 : decode cX6_anyWord 75 = .ok (.iload_n 3, 1) := by decide +kernel
theorem dX6_anyWord_76 : decode cX6_anyWord 76 = .ok (.i2l, 1) := by decide +kernel
theorem dX6_anyWord_77 : decode cX6_anyWord 77 = .ok (.putfield 77, 3) := by decide +kernel
theorem dX6_anyWord_80 : decode cX6_anyWord 80 = .ok (.iconst 3, 1) := by decide +kernel
theorem dX6_anyWord_81 : decode cX6_anyWord 81 = .ok (.ireturn, 1) := by decide +kernel
theorem dX6_slashed_0 : decode cX6_slashed 0 = .ok (.aload_n 0, 1) := by decide +kernel
theorem dX6_slashed_1 : decode cX6_slashed 1 = .ok (.dup, 1) := by decide +kernel
theorem dX6_slashed_2 : decode cX6_slashed 2 = .ok (.getfield 102, 3) := by decide +kernel
theorem dX6_slashed_5 : decode cX6_slashed 5 = .ok (.iconst 1, 1) := by decide +kernel
theorem dX6_slashed_6 : decode cX6_slashed 6 = .ok (.iadd, 1) := by decide +kernel
theorem dX6_slashed_7 : decode cX6_slashed 7 = .ok (.putfield 102, 3) := by decide +kernel
theorem dX6_slashed_10 : decode cX6_slashed 10 = .ok (.aload_n 0, 1) := by decide +kernel
theorem dX6_slashed_11 : decode cX6_slashed 11 = .ok (.getfield 102, 3) := by decide +kernel
theorem dX6_slashed_14 : decode cX6_slashed 14 = .ok (.aload_n 0, 1) := by decide +kernel
theorem dX6_slashed_15 : decode cX6_slashed 15 = .ok (.getfield 40, 3) := by decide +kernel
theorem dX6_slashed_18 : decode cX6_slashed 18 = .ok (.if_icmp .ne 12, 3) := by decide +kernel
theorem dX6_slashed_21 : decode cX6_slashed 21 = .ok (.aload_n 0, 1) := by decide +kernel
theorem dX6_slashed_22 : decode cX6_slashed 22 = .ok (.getfield 53, 3) := by decide +kernel
theorem dX6_slashed_25 : decode cX6_slashed 25 = .ok (.ifCond .ne 5, 3) := by decide +kernel
theorem dX6_slashed_28 : decode cX6_slashed 28 = .ok (.iconst 0, 1) := by decide +kernel
theorem dX6_slashed_29 : decode cX6_slashed 29 = .ok (.ireturn, 1) := by decide +kernel
theorem dX6_slashed_30 : decode cX6_slashed 30 = .ok (.aload_n 0, 1) := by decide +kernel
theorem dX6_slashed_31 : decode cX6_slashed 31 = .ok (.aload_n 0, 1) := by decide +kernel
theorem dX6_slashed_32 : decode cX6_slashed 32 = .ok (.getfield 102, 3) := by decide +kernel
theorem dX6_slashed_35 : decode cX6_slashed 35 = .ok (.invokevirtual 63, 3) := by decide +kernel
theorem dX6_slashed_38 : decode cX6_slashed 38 = .ok (.bipush 47, 2) := by decide +kernel
theorem dX6_slashed_40 : decode cX6_slashed 40 = .ok (.if_icmp .ne 7, 3) := by decide +kernel
theorem dX6_slashed_43 : decode cX6_slashed 43 = .ok (.iconst 1, 1) := by decide +kernel
theorem dX6_slashed_44 : decode cX6_slashed 44 = .ok (.goto 4, 3) := by decide +kernel
theorem dX6_slashed_47 : decode cX6_slashed 47 = .ok (.iconst 0, 1) := by decide +kernel
theorem dX6_slashed_48 : decode cX6_slashed 48 = .ok (.istore_n 1, 1) := by decide +kernel
theorem dX6_slashed_49 : decode cX6_slashed 49 = .ok (.aload_n 0, 1) := by decide +kernel
theorem dX6_slashed_50 : decode cX6_slashed 50 = .ok (.iload_n 1, 1) := by decide +kernel
theorem dX6_slashed_51 : decode cX6_slashed 51 = .ok (.ifCond .eq 12, 3) := by decide +kernel
theorem dX6_slashed_54 : decode cX6_slashed 54 = .ok (.aload_n 0, 1) := by decide +kernel
theorem dX6_slashed_55 : decode cX6_slashed 55 = .ok (.getfield 102, 3) := by decide +kernel
theorem dX6_slashed_58 : decode cX6_slashed 58 = .ok (.iconst 1, 1) := by decide +kernel
theorem dX6_slashed_59 : decode cX6_slashed 59 = .ok (.iadd, 1) := by decide +kernel
theorem dX6_slashed_60 : decode cX6_slashed 60 = .ok (.goto 7, 3) := by decide +kernel
theorem dX6_slashed_63 : decode cX6_slashed 63 = .ok (.aload_n 0, 1) := by decide +kernel
theorem dX6_slashed_64 : decode cX6_slashed 64 = .ok (.getfield 102, 3) := by decide +kernel
theorem dX6_slashed_67 : decode cX6_slashed 67 = .ok (.putfield 102, 3) := by decide +kernel
theorem dX6_slashed_70 : decode cX6_slashed 70 = .ok (.aload_n 0, 1) := by decide +kernel
theorem dX6_slashed_71 : decode cX6_slashed 71 = .ok (.invokevirtual 108, 3) := by decide +kernel
theorem dX6_slashed_74 : decode cX6_slashed 74 = .ok (.istore_n 2, 1) := by decide +kernel
theorem dX6_slashed_75 : decode cX6_slashed 75 = .ok (.iload_n 2, 1) := by decide +kernel
theorem dX6_slashed_76 : decode cX6_slashed 76 = .ok (.iconst 1, 1) := by decide +kernel
theorem dX6_slashed_77 : decode cX6_slashed 77 = .ok (.if_icmp .ne 15, 3) := by decide +kernel
theorem dX6_slashed_80 : decode cX6_slashed 80 = .ok (.iload_n 1, 1) := by decide +kernel
theorem dX6_slashed_81 : decode cX6_slashed 81 = .ok (.ifCond .eq 7, 3) := by decide +kernel
theorem dX6_slashed_84 : decode cX6_slashed 84 = .ok (.iconst 5, 1) := by decide +kernel
theorem dX6_slashed_85 : decode cX6_slashed 85 = .ok (.goto 8, 3) := by decide +kernel
theorem dX6_slashed_88 : decode cX6_slashed 88 = .ok (.iconst 4, 1) := by decide +kernel
theorem dX6_slashed_89 : decode cX6_slashed 89 = .ok (.goto 4, 3) := by decide +kernel
theorem dX6_slashed_92 : decode cX6_slashed 92 = .ok (.iload_n 2, 1) := by decide +kernel
theorem dX6_slashed_93 : decode cX6_slashed 93 = .ok (.ireturn, 1) := by decide +kernel
theorem dX6_putSign_0 : decode cX6_putSign 0 = .ok (.aload_n 0, 1) := by decide +kernel
theorem dX6_putSign_1 : decode cX6_putSign 1 = .ok (.getfield 99, 3) := by decide +kernel
theorem dX6_putSign_4 : decode cX6_putSign 4 = .ok (.sipush 400, 3) := by decide +kernel
theorem dX6_putSign_7 : decode cX6_putSign 7 = .ok (.if_icmp .ge 14, 3) := by decide +kernel
theorem dX6_putSign_10 : decode cX6_putSign 10 = .ok (.aload_n 0, 1) := by decide +kernel
theorem dX6_putSign_11 : decode cX6_putSign 11 = .ok (.getfield 31, 3) := by decide +kernel
theorem dX6_putSign_14 : decode cX6_putSign 14 = .ok (.aload_n 0, 1) := by decide +kernel
theorem dX6_putSign_15 : decode cX6_putSign 15 = .ok (.getfield 99, 3) := by decide +kernel
theorem dX6_putSign_18 : decode cX6_putSign 18 = .ok (.iload_n 1, 1) := by decide +kernel
theorem dX6_putSign_19 : decode cX6_putSign 19 = .ok (.i2b, 1) := by decide +kernel
theorem dX6_putSign_20 : decode cX6_putSign 20 = .ok (.bastore, 1) := by decide +kernel
theorem dX6_putSign_21 : decode cX6_putSign 21 = .ok (.aload_n 0, 1) := by decide +kernel
theorem dX6_putSign_22 : decode cX6_putSign 22 = .ok (.dup, 1) := by decide +kernel
theorem dX6_putSign_23 : decode cX6_putSign 23 = .ok (.getfield 99, 3) := by decide +kernel
theorem dX6_putSign_26 : decode cX6_putSign 26 = .ok (.iconst 1, 1) := by decide +kernel
theorem dX6_putSign_27 : decode cX6_putSign 27 = .ok (.iadd, 1) := by decide +kernel
theorem dX6_putSign_28 : decode cX6_putSign 28 = .ok (.putfield 99, 3) := by decide +kernel
theorem dX6_putSign_31 : decode cX6_putSign 31 = .ok (.return_, 1) := by decide +kernel
theorem dX6_lacking_0 : decode cX6_lacking 0 = .ok (.aload_n 0, 1) := by decide +kernel
theorem dX6_lacking_1 : decode cX6_lacking 1 = .ok (.getfield 53, 3) := by decide +kernel
theorem dX6_lacking_4 : decode cX6_lacking 4 = .ok (.ifCond .ne 5, 3) := by decide +kernel
theorem dX6_lacking_7 : decode cX6_lacking 7 = .ok (.iconst 0, 1) := by decide +kernel
theorem dX6_lacking_8 : decode cX6_lacking 8 = .ok (.ireturn, 1) := by decide +kernel
theorem dX6_lacking_9 : decode cX6_lacking 9 = .ok (.aload_n 0, 1) := by decide +kernel
theorem dX6_lacking_10 : decode cX6_lacking 10 = .ok (.aload_n 0, 1) := by decide +kernel
theorem dX6_lacking_11 : decode cX6_lacking 11 = .ok (.getfield 40, 3) := by decide +kernel
theorem dX6_lacking_14 : decode cX6_lacking 14 = .ok (.putfield 102, 3) := by decide +kernel
theorem dX6_lacking_17 : decode cX6_lacking 17 = .ok (.bipush (-7), 2) := by decide +kernel
theorem dX6_lacking_19 : decode cX6_lacking 19 = .ok (.ireturn, 1) := by decide +kernel
theorem dX6_finished_0 : decode cX6_finished 0 = .ok (.aload_n 0, 1) := by decide +kernel
theorem dX6_finished_1 : decode cX6_finished 1 = .ok (.aload_n 0, 1) := by decide +kernel
theorem dX6_finished_2 : decode cX6_finished 2 = .ok (.getfield 99, 3) := by decide +kernel
theorem dX6_finished_5 : decode cX6_finished 5 = .ok (.i2l, 1) := by decide +kernel
theorem dX6_finished_6 : decode cX6_finished 6 = .ok (.putfield 77, 3) := by decide +kernel
theorem dX6_finished_9 : decode cX6_finished 9 = .ok (.aload_n 0, 1) := by decide +kernel
theorem dX6_finished_10 : decode cX6_finished 10 = .ok (.getfield 99, 3) := by decide +kernel
theorem dX6_finished_13 : decode cX6_finished 13 = .ok (.sipush 400, 3) := by decide +kernel
theorem dX6_finished_16 : decode cX6_finished 16 = .ok (.if_icmp .le 8, 3) := by decide +kernel
theorem dX6_finished_19 : decode cX6_finished 19 = .ok (.bipush (-2), 2) := by decide +kernel
theorem dX6_finished_21 : decode cX6_finished 21 = .ok (.goto 5, 3) := by decide +kernel
theorem dX6_finished_24 : decode cX6_finished 24 = .ok (.bipush 6, 2) := by decide +kernel
theorem dX6_finished_26 : decode cX6_finished 26 = .ok (.ireturn, 1) := by decide +kernel
theorem dX6_escape_0 : decode cX6_escape 0 = .ok (.aload_n 0, 1) := by decide +kernel
theorem dX6_escape_1 : decode cX6_escape 1 = .ok (.aload_n 0, 1) := by decide +kernel
theorem dX6_escape_2 : decode cX6_escape 2 = .ok (.getfield 102, 3) := by decide +kernel
theorem dX6_escape_5 : decode cX6_escape 5 = .ok (.invokevirtual 63, 3) := by decide +kernel
theorem dX6_escape_8 : decode cX6_escape 8 = .ok (.istore_n 1, 1) := by decide +kernel
theorem dX6_escape_9 : decode cX6_escape 9 = .ok (.aload_n 0, 1) := by decide +kernel
theorem dX6_escape_10 : decode cX6_escape 10 = .ok (.dup, 1) := by decide +kernel
theorem dX6_escape_11 : decode cX6_escape 11 = .ok (.getfield 102, 3) := by decide +kernel
theorem dX6_escape_14 : decode cX6_escape 14 = .ok (.iconst 1, 1) := by decide +kernel
theorem dX6_escape_15 : decode cX6_escape 15 = .ok (.iadd, 1) := by decide +kernel
theorem dX6_escape_16 : decode cX6_escape 16 = .ok (.putfield 102, 3) := by decide +kernel
theorem dX6_escape_19 : decode cX6_escape 19 = .ok (.iload_n 1, 1) := by decide +kernel
theorem dX6_escape_20 : decode cX6_escape 20 = .ok (.bipush 48, 2) := by decide +kernel
theorem dX6_escape_22 : decode cX6_escape 22 = .ok (.if_icmp .lt 92, 3) := by decide +kernel
theorem dX6_escape_25 : decode cX6_escape 25 = .ok (.iload_n 1, 1) := by decide +kernel
theorem dX6_escape_26 : decode cX6_escape 26 = .ok (.bipush 55, 2) := by decide +kernel
theorem dX6_escape_28 : decode cX6_escape 28 = .ok (.if_icmp .gt 86, 3) := by decide +kernel
theorem dX6_escape_31 : decode cX6_escape 31 = .ok (.iload_n 1, 1) := by decide +kernel
theorem dX6_escape_32 : decode cX6_escape 32 = .ok (.bipush 48, 2) := by decide +kernel
theorem dX6_escape_34 : decode cX6_escape 34 = .ok (.isub, 1) := by decide +kernel
theorem dX6_escape_35 : decode cX6_escape 35 = .ok (.istore_n 2, 1) := by decide +kernel
theorem dX6_escape_36 : decode cX6_escape 36 = .ok (.iconst 1, 1) := by decide +kernel
theorem dX6_escape_37 : decode cX6_escape 37 = .ok (.istore_n 3, 1) := by decide +kernel
theorem dX6_escape_38 : decode cX6_escape 38 = .ok (.iload_n 3, 1) := by decide +kernel
theorem dX6_escape_39 : decode cX6_escape 39 = .ok (.iconst 3, 1) := by decide +kernel
theorem dX6_escape_40 : decode cX6_escape 40 = .ok (.if_icmp .ge 62, 3) := by decide +kernel
theorem dX6_escape_43 : decode cX6_escape 43 = .ok (.aload_n 0, 1) := by decide +kernel
theorem dX6_escape_44 : decode cX6_escape 44 = .ok (.aload_n 0, 1) := by decide +kernel
theorem dX6_escape_45 : decode cX6_escape 45 = .ok (.getfield 102, 3) := by decide +kernel
theorem dX6_escape_48 : decode cX6_escape 48 = .ok (.invokevirtual 63, 3) := by decide +kernel
theorem dX6_escape_51 : decode cX6_escape 51 = .ok (.bipush 48, 2) := by decide +kernel
theorem dX6_escape_53 : decode cX6_escape 53 = .ok (.if_icmp .lt 49, 3) := by decide +kernel
theorem dX6_escape_56 : decode cX6_escape 56 = .ok (.aload_n 0, 1) := by decide +kernel
theorem dX6_escape_57 : decode cX6_escape 57 = .ok (.aload_n 0, 1) := by decide +kernel
theorem dX6_escape_58 : decode cX6_escape 58 = .ok (.getfield 102, 3) := by decide +kernel
theorem dX6_escape_61 : decode cX6_escape 61 = .ok (.invokevirtual 63, 3) := by decide +kernel
theorem dX6_escape_64 : decode cX6_escape 64 = .ok (.bipush 55, 2) := by decide +kernel
theorem dX6_escape_66 : decode cX6_escape 66 = .ok (.if_icmp .gt 36, 3) := by decide +kernel
theorem dX6_escape_69 : decode cX6_escape 69 = .ok (.bipush 8, 2) := by decide +kernel
theorem dX6_escape_71 : decode cX6_escape 71 = .ok (.iload_n 2, 1) := by decide +kernel
theorem dX6_escape_72 : decode cX6_escape 72 = .ok (.imul, 1) := by decide +kernel
theorem dX6_escape_73 : decode cX6_escape 73 = .ok (.aload_n 0, 1) := by decide +kernel
theorem dX6_escape_74 : decode cX6_escape 74 = .ok (.aload_n 0, 1) := by decide +kernel
theorem dX6_escape_75 : decode cX6_escape 75 = .ok (.getfield 102, 3) := by decide +kernel
theorem dX6_escape_78 : decode cX6_escape 78 = .ok (.invokevirtual 63, 3) := by decide +kernel
theorem dX6_escape_81 : decode cX6_escape 81 = .ok (.iadd, 1) := by decide +kernel
theorem dX6_escape_82 : decode cX6_escape 82 = .ok (.bipush 48, 2) := by decide +kernel
theorem dX6_escape_84 : decode cX6_escape 84 = .ok (.isub, 1) := by decide +kernel
theorem dX6_escape_85 : decode cX6_escape 85 = .ok (.istore_n 2, 1) := by decide +kernel
theorem dX6_escape_86 : decode cX6_escape 86 = .ok (.aload_n 0, 1) := by decide +kernel
theorem dX6_escape_87 : decode cX6_escape 87 = .ok (.dup, 1) := by decide +kernel
theorem dX6_escape_88 : decode cX6_escape 88 = .ok (.getfield 102, 3) := by decide +kernel
theorem dX6_escape_91 : decode cX6_escape 91 = .ok (.iconst 1, 1) := by decide +kernel
theorem dX6_escape_92 : decode cX6_escape 92 = .ok (.iadd, 1) := by decide +kernel
theorem dX6_escape_93 : decode cX6_escape 93 = .ok (.putfield 102, 3) := by decide +kernel
theorem dX6_escape_96 : decode cX6_escape 96 = .ok (.iinc 3 1, 3) := by decide +kernel
theorem dX6_escape_99 : decode cX6_escape 99 = .ok (.goto (-61), 3) := by decide +kernel
theorem dX6_escape_102 : decode cX6_escape 102 = .ok (.aload_n 0, 1) := by decide +kernel
theorem dX6_escape_103 : decode cX6_escape 103 = .ok (.iload_n 2, 1) := by decide +kernel
theorem dX6_escape_104 : decode cX6_escape 104 = .ok (.sipush 255, 3) := by decide +kernel
theorem dX6_escape_107 : decode cX6_escape 107 = .ok (.iand, 1) := by decide +kernel
theorem dX6_escape_108 : decode cX6_escape 108 = .ok (.invokevirtual 122, 3) := by decide +kernel
theorem dX6_escape_111 : decode cX6_escape 111 = .ok (.goto 108, 3) := by decide +kernel
theorem dX6_escape_114 : decode cX6_escape 114 = .ok (.iload_n 1, 1) := by decide +kernel
theorem dX6_escape_115 : decode cX6_escape 115 = .ok (.bipush 13, 2) := by decide +kernel
theorem dX6_escape_117 : decode cX6_escape 117 = .ok (.if_icmp .ne 36, 3) := by decide +kernel
theorem dX6_escape_120 : decode cX6_escape 120 = .ok (.aload_n 0, 1) := by decide +kernel
theorem dX6_escape_121 : decode cX6_escape 121 = .ok (.aload_n 0, 1) := by decide +kernel
theorem dX6_escape_122 : decode cX6_escape 122 = .ok (.aload_n 0, 1) := by decide +kernel
theorem dX6_escape_123 : decode cX6_escape 123 = .ok (.getfield 102, 3) := by decide +kernel
theorem dX6_escape_126 : decode cX6_escape 126 = .ok (.invokevirtual 63, 3) := by decide +kernel
theorem dX6_escape_129 : decode cX6_escape 129 = .ok (.bipush 10, 2) := by decide +kernel
theorem dX6_escape_131 : decode cX6_escape 131 = .ok (.if_icmp .ne 12, 3) := by decide +kernel
theorem dX6_escape_134 : decode cX6_escape 134 = .ok (.aload_n 0, 1) := by decide +kernel
theorem dX6_escape_135 : decode cX6_escape 135 = .ok (.getfield 102, 3) := by decide +kernel
theorem dX6_escape_138 : decode cX6_escape 138 = .ok (.iconst 1, 1) := by decide +kernel
theorem dX6_escape_139 : decode cX6_escape 139 = .ok (.iadd, 1) := by decide +kernel
theorem dX6_escape_140 : decode cX6_escape 140 = .ok (.goto 7, 3) := by decide +kernel
theorem dX6_escape_143 : decode cX6_escape 143 = .ok (.aload_n 0, 1) := by decide +kernel
theorem dX6_escape_144 : decode cX6_escape 144 = .ok (.getfield 102, 3) := by decide +kernel
theorem dX6_escape_147 : decode cX6_escape 147 = .ok (.putfield 102, 3) := by decide +kernel
theorem dX6_escape_150 : decode cX6_escape 150 = .ok (.goto 69, 3) := by decide +kernel
theorem dX6_escape_153 : decode cX6_escape 153 = .ok (.iload_n 1, 1) := by decide +kernel
theorem dX6_escape_154 : decode cX6_escape 154 = .ok (.bipush 10, 2) := by decide +kernel
theorem dX6_escape_156 : decode cX6_escape 156 = .ok (.if_icmp .eq 63, 3) := by decide +kernel
theorem dX6_escape_159 : decode cX6_escape 159 = .ok (.aload_n 0, 1) := by decide +kernel
theorem dX6_escape_160 : decode cX6_escape 160 = .ok (.iload_n 1, 1) := by decide +kernel
theorem dX6_escape_161 : decode cX6_escape 161 = .ok (.bipush 110, 2) := by decide +kernel
theorem dX6_escape_163 : decode cX6_escape 163 = .ok (.if_icmp .ne 8, 3) := by decide +kernel
theorem dX6_escape_166 : decode cX6_escape 166 = .ok (.bipush 10, 2) := by decide +kernel
theorem dX6_escape_168 : decode cX6_escape 168 = .ok (.goto 48, 3) := by decide +kernel
theorem dX6_escape_171 : decode cX6_escape 171 = .ok (.iload_n 1, 1) := by decide +kernel
theorem dX6_escape_172 : decode cX6_escape 172 = .ok (.bipush 114, 2) := by decide +kernel
theorem dX6_escape_174 : decode cX6_escape 174 = .ok (.if_icmp .ne 8, 3) := by decide +kernel
theorem dX6_escape_177 : decode cX6_escape 177 = .ok (.bipush 13, 2) := by decide +kernel
theorem dX6_escape_179 : decode cX6_escape 179 = .ok (.goto 37, 3) := by decide +kernel
theorem dX6_escape_182 : decode cX6_escape 182 = .ok (.iload_n 1, 1) := by decide +kernel
theorem dX6_escape_183 : decode cX6_escape 183 = .ok (.bipush 116, 2) := by decide +kernel
theorem dX6_escape_185 : decode cX6_escape 185 = .ok (.if_icmp .ne 8, 3) := by decide +kernel
theorem dX6_escape_188 : decode cX6_escape 188 = .ok (.bipush 9, 2) := by decide +kernel
theorem dX6_escape_190 : decode cX6_escape 190 = .ok (.goto 26, 3) := by decide +kernel
theorem dX6_escape_193 : decode cX6_escape 193 = .ok (.iload_n 1, 1) := by decide +kernel
theorem dX6_escape_194 : decode cX6_escape 194 = .ok (.bipush 98, 2) := by decide +kernel
theorem dX6_escape_196 : decode cX6_escape 196 = .ok (.if_icmp .ne 8, 3) := by decide +kernel
theorem dX6_escape_199 : decode cX6_escape 199 = .ok (.bipush 8, 2) := by decide +kernel
theorem dX6_escape_201 : decode cX6_escape 201 = .ok (.goto 15, 3) := by decide +kernel
theorem dX6_escape_204 : decode cX6_escape 204 = .ok (.iload_n 1, 1) := by decide +kernel
theorem dX6_escape_205 : decode cX6_escape 205 = .ok (.bipush 102, 2) := by decide +kernel
theorem dX6_escape_207 : decode cX6_escape 207 = .ok (.if_icmp .ne 8, 3) := by decide +kernel
theorem dX6_escape_210 : decode cX6_escape 210 = .ok (.bipush 12, 2) := by decide +kernel
theorem dX6_escape_212 : decode cX6_escape 212 = .ok (.goto 4, 3) := by decide +kernel
theorem dX6_escape_215 : decode cX6_escape 215 = .ok (.iload_n 1, 1) := by decide +kernel
theorem dX6_escape_216 : decode cX6_escape 216 = .ok (.invokevirtual 122, 3) := by decide +kernel
theorem dX6_escape_219 : decode cX6_escape 219 = .ok (.return_, 1) := by decide +kernel
theorem dX6_round_0 : decode cX6_round 0 = .ok (.aload_n 0, 1) := by decide +kernel
theorem dX6_round_1 : decode cX6_round 1 = .ok (.dup, 1) := by decide +kernel
theorem dX6_round_2 : decode cX6_round 2 = .ok (.getfield 102, 3) := by decide +kernel
theorem dX6_round_5 : decode cX6_round 5 = .ok (.iconst 1, 1) := by decide +kernel
theorem dX6_round_6 : decode cX6_round 6 = .ok (.iadd, 1) := by decide +kernel
theorem dX6_round_7 : decode cX6_round 7 = .ok (.putfield 102, 3) := by decide +kernel
theorem dX6_round_10 : decode cX6_round 10 = .ok (.iconst 1, 1) := by decide +kernel
theorem dX6_round_11 : decode cX6_round 11 = .ok (.istore_n 1, 1) := by decide +kernel
theorem dX6_round_12 : decode cX6_round 12 = .ok (.aload_n 0, 1) := by decide +kernel
theorem dX6_round_13 : decode cX6_round 13 = .ok (.getfield 102, 3) := by decide +kernel
theorem dX6_round_16 : decode cX6_round 16 = .ok (.aload_n 0, 1) := by decide +kernel
theorem dX6_round_17 : decode cX6_round 17 = .ok (.getfield 40, 3) := by decide +kernel
theorem dX6_round_20 : decode cX6_round 20 = .ok (.if_icmp .ge 134, 3) := by decide +kernel
theorem dX6_round_23 : decode cX6_round 23 = .ok (.aload_n 0, 1) := by decide +kernel
theorem dX6_round_24 : decode cX6_round 24 = .ok (.aload_n 0, 1) := by decide +kernel
theorem dX6_round_25 : decode cX6_round 25 = .ok (.getfield 102, 3) := by decide +kernel
theorem dX6_round_28 : decode cX6_round 28 = .ok (.invokevirtual 63, 3) := by decide +kernel
theorem dX6_round_31 : decode cX6_round 31 = .ok (.istore_n 2, 1) := by decide +kernel
theorem dX6_round_32 : decode cX6_round 32 = .ok (.aload_n 0, 1) := by decide +kernel
theorem dX6_round_33 : decode cX6_round 33 = .ok (.dup, 1) := by decide +kernel
theorem dX6_round_34 : decode cX6_round 34 = .ok (.getfield 102, 3) := by decide +kernel
theorem dX6_round_37 : decode cX6_round 37 = .ok (.iconst 1, 1) := by decide +kernel
theorem dX6_round_38 : decode cX6_round 38 = .ok (.iadd, 1) := by decide +kernel
theorem dX6_round_39 : decode cX6_round 39 = .ok (.putfield 102, 3) := by decide +kernel
theorem dX6_round_42 : decode cX6_round 42 = .ok (.iload_n 2, 1) := by decide +kernel
theorem dX6_round_43 : decode cX6_round 43 = .ok (.bipush 92, 2) := by decide +kernel
theorem dX6_round_45 : decode cX6_round 45 = .ok (.if_icmp .ne 21, 3) := by decide +kernel
theorem dX6_round_48 : decode cX6_round 48 = .ok (.aload_n 0, 1) := by decide +kernel
theorem dX6_round_49 : decode cX6_round 49 = .ok (.getfield 102, 3) := by decide +kernel
theorem dX6_round_52 : decode cX6_round 52 = .ok (.aload_n 0, 1) := by decide +kernel
theorem dX6_round_53 : decode cX6_round 53 = .ok (.getfield 40, 3) := by decide +kernel
theorem dX6_round_56 : decode cX6_round 56 = .ok (.if_icmp .ge 95, 3) := by decide +kernel
theorem dX6_round_59 : decode cX6_round 59 = .ok (.aload_n 0, 1) := by decide +kernel
theorem dX6_round_60 : decode cX6_round 60 = .ok (.invokevirtual 126, 3) := by decide +kernel
theorem dX6_round_63 : decode cX6_round 63 = .ok (.goto 88, 3) := by decide +kernel
theorem dX6_round_66 : decode cX6_round 66 = .ok (.iload_n 2, 1) := by decide +kernel
theorem dX6_round_67 : decode cX6_round 67 = .ok (.bipush 13, 2) := by decide +kernel
theorem dX6_round_69 : decode cX6_round 69 = .ok (.if_icmp .ne 42, 3) := by decide +kernel
theorem dX6_round_72 : decode cX6_round 72 = .ok (.aload_n 0, 1) := by decide +kernel
theorem dX6_round_73 : decode cX6_round 73 = .ok (.aload_n 0, 1) := by decide +kernel
theorem dX6_round_74 : decode cX6_round 74 = .ok (.aload_n 0, 1) := by decide +kernel
theorem dX6_round_75 : decode cX6_round 75 = .ok (.getfield 102, 3) := by decide +kernel
theorem dX6_round_78 : decode cX6_round 78 = .ok (.invokevirtual 63, 3) := by decide +kernel
theorem dX6_round_81 : decode cX6_round 81 = .ok (.bipush 10, 2) := by decide +kernel
theorem dX6_round_83 : decode cX6_round 83 = .ok (.if_icmp .ne 12, 3) := by decide +kernel
theorem dX6_round_86 : decode cX6_round 86 = .ok (.aload_n 0, 1) := by decide +kernel
theorem dX6_round_87 : decode cX6_round 87 = .ok (.getfield 102, 3) := by decide +kernel
theorem dX6_round_90 : decode cX6_round 90 = .ok (.iconst 1, 1) := by decide +kernel
theorem dX6_round_91 : decode cX6_round 91 = .ok (.iadd, 1) := by decide +kernel
theorem dX6_round_92 : decode cX6_round 92 = .ok (.goto 7, 3) := by decide +kernel
theorem dX6_round_95 : decode cX6_round 95 = .ok (.aload_n 0, 1) := by decide +kernel
theorem dX6_round_96 : decode cX6_round 96 = .ok (.getfield 102, 3) := by decide +kernel
theorem dX6_round_99 : decode cX6_round 99 = .ok (.putfield 102, 3) := by decide +kernel
theorem dX6_round_102 : decode cX6_round 102 = .ok (.aload_n 0, 1) := by decide +kernel
theorem dX6_round_103 : decode cX6_round 103 = .ok (.bipush 10, 2) := by decide +kernel
theorem dX6_round_105 : decode cX6_round 105 = .ok (.invokevirtual 122, 3) := by decide +kernel
theorem dX6_round_108 : decode cX6_round 108 = .ok (.goto 43, 3) := by decide +kernel
theorem dX6_round_111 : decode cX6_round 111 = .ok (.iload_n 2, 1) := by decide +kernel
theorem dX6_round_112 : decode cX6_round 112 = .ok (.bipush 40, 2) := by decide +kernel
theorem dX6_round_114 : decode cX6_round 114 = .ok (.if_icmp .ne 9, 3) := by decide +kernel
theorem dX6_round_117 : decode cX6_round 117 = .ok (.iload_n 1, 1) := by decide +kernel
theorem dX6_round_118 : decode cX6_round 118 = .ok (.iconst 1, 1) := by decide +kernel
theorem dX6_round_119 : decode cX6_round 119 = .ok (.iadd, 1) := by decide +kernel
theorem dX6_round_120 : decode cX6_round 120 = .ok (.goto 16, 3) := by decide +kernel
theorem dX6_round_123 : decode cX6_round 123 = .ok (.iload_n 2, 1) := by decide +kernel
theorem dX6_round_124 : decode cX6_round 124 = .ok (.bipush 41, 2) := by decide +kernel
theorem dX6_round_126 : decode cX6_round 126 = .ok (.if_icmp .ne 9, 3) := by decide +kernel
theorem dX6_round_129 : decode cX6_round 129 = .ok (.iload_n 1, 1) := by decide +kernel
theorem dX6_round_130 : decode cX6_round 130 = .ok (.iconst 1, 1) := by decide +kernel
theorem dX6_round_131 : decode cX6_round 131 = .ok (.isub, 1) := by decide +kernel
theorem dX6_round_132 : decode cX6_round 132 = .ok (.goto 4, 3) := by decide +kernel
theorem dX6_round_135 : decode cX6_round 135 = .ok (.iload_n 1, 1) := by decide +kernel
theorem dX6_round_136 : decode cX6_round 136 = .ok (.istore_n 1, 1) := by decide +kernel
theorem dX6_round_137 : decode cX6_round 137 = .ok (.iload_n 1, 1) := by decide +kernel
theorem dX6_round_138 : decode cX6_round 138 = .ok (.ifCond .ne 8, 3) := by decide +kernel
theorem dX6_round_141 : decode cX6_round 141 = .ok (.aload_n 0, 1) := by decide +kernel
theorem dX6_round_142 : decode cX6_round 142 = .ok (.invokevirtual 129, 3) := by decide +kernel
theorem dX6_round_145 : decode cX6_round 145 = .ok (.ireturn, 1) := by decide +kernel
theorem dX6_round_146 : decode cX6_round 146 = .ok (.aload_n 0, 1) := by decide +kernel
theorem dX6_round_147 : decode cX6_round 147 = .ok (.iload_n 2, 1) := by decide +kernel
theorem dX6_round_148 : decode cX6_round 148 = .ok (.invokevirtual 122, 3) := by decide +kernel
theorem dX6_round_151 : decode cX6_round 151 = .ok (.goto (-139), 3) := by decide +kernel
theorem dX6_round_154 : decode cX6_round 154 = .ok (.aload_n 0, 1) := by decide +kernel
theorem dX6_round_155 : decode cX6_round 155 = .ok (.invokevirtual 132, 3) := by decide +kernel
theorem dX6_round_158 : decode cX6_round 158 = .ok (.ireturn, 1) := by decide +kernel
theorem dX6_wrongByte_0 : decode cX6_wrongByte 0 = .ok (.aload_n 0, 1) := by decide +kernel
theorem dX6_wrongByte_1 : decode cX6_wrongByte 1 = .ok (.aload_n 0, 1) := by decide +kernel
theorem dX6_wrongByte_2 : decode cX6_wrongByte 2 = .ok (.getfield 102, 3) := by decide +kernel
theorem dX6_wrongByte_5 : decode cX6_wrongByte 5 = .ok (.putfield 135, 3) := by decide +kernel
theorem dX6_wrongByte_8 : decode cX6_wrongByte 8 = .ok (.aload_n 0, 1) := by decide +kernel
theorem dX6_wrongByte_9 : decode cX6_wrongByte 9 = .ok (.dup, 1) := by decide +kernel
theorem dX6_wrongByte_10 : decode cX6_wrongByte 10 = .ok (.getfield 102, 3) := by decide +kernel
theorem dX6_wrongByte_13 : decode cX6_wrongByte 13 = .ok (.iconst 1, 1) := by decide +kernel
theorem dX6_wrongByte_14 : decode cX6_wrongByte 14 = .ok (.iadd, 1) := by decide +kernel
theorem dX6_wrongByte_15 : decode cX6_wrongByte 15 = .ok (.putfield 102, 3) := by decide +kernel
theorem dX6_wrongByte_18 : decode cX6_wrongByte 18 = .ok (.iconst (-1), 1) := by decide +kernel
theorem dX6_wrongByte_19 : decode cX6_wrongByte 19 = .ok (.iload_n 1, 1) := by decide +kernel
theorem dX6_wrongByte_20 : decode cX6_wrongByte 20 = .ok (.isub, 1) := by decide +kernel
theorem dX6_wrongByte_21 : decode cX6_wrongByte 21 = .ok (.ireturn, 1) := by decide +kernel
theorem dX6_sixteens_0 : decode cX6_sixteens 0 = .ok (.iconst (-1), 1) := by decide +kernel
theorem dX6_sixteens_1 : decode cX6_sixteens 1 = .ok (.istore_n 1, 1) := by decide +kernel
theorem dX6_sixteens_2 : decode cX6_sixteens 2 = .ok (.aload_n 0, 1) := by decide +kernel
theorem dX6_sixteens_3 : decode cX6_sixteens 3 = .ok (.getfield 102, 3) := by decide +kernel
theorem dX6_sixteens_6 : decode cX6_sixteens 6 = .ok (.aload_n 0, 1) := by decide +kernel
theorem dX6_sixteens_7 : decode cX6_sixteens 7 = .ok (.getfield 40, 3) := by decide +kernel
theorem dX6_sixteens_10 : decode cX6_sixteens 10 = .ok (.if_icmp .ge 103, 3) := by decide +kernel
theorem dX6_sixteens_13 : decode cX6_sixteens 13 = .ok (.aload_n 0, 1) := by decide +kernel
theorem dX6_sixteens_14 : decode cX6_sixteens 14 = .ok (.aload_n 0, 1) := by decide +kernel
theorem dX6_sixteens_15 : decode cX6_sixteens 15 = .ok (.getfield 102, 3) := by decide +kernel
theorem dX6_sixteens_18 : decode cX6_sixteens 18 = .ok (.invokevirtual 63, 3) := by decide +kernel
theorem dX6_sixteens_21 : decode cX6_sixteens 21 = .ok (.istore_n 2, 1) := by decide +kernel
theorem dX6_sixteens_22 : decode cX6_sixteens 22 = .ok (.iload_n 2, 1) := by decide +kernel
theorem dX6_sixteens_23 : decode cX6_sixteens 23 = .ok (.bipush 62, 2) := by decide +kernel
theorem dX6_sixteens_25 : decode cX6_sixteens 25 = .ok (.if_icmp .ne 30, 3) := by decide +kernel
theorem dX6_sixteens_28 : decode cX6_sixteens 28 = .ok (.aload_n 0, 1) := by decide +kernel
theorem dX6_sixteens_29 : decode cX6_sixteens 29 = .ok (.dup, 1) := by decide +kernel
theorem dX6_sixteens_30 : decode cX6_sixteens 30 = .ok (.getfield 102, 3) := by decide +kernel
theorem dX6_sixteens_33 : decode cX6_sixteens 33 = .ok (.iconst 1, 1) := by decide +kernel
theorem dX6_sixteens_34 : decode cX6_sixteens 34 = .ok (.iadd, 1) := by decide +kernel
theorem dX6_sixteens_35 : decode cX6_sixteens 35 = .ok (.putfield 102, 3) := by decide +kernel
theorem dX6_sixteens_38 : decode cX6_sixteens 38 = .ok (.iload_n 1, 1) := by decide +kernel
theorem dX6_sixteens_39 : decode cX6_sixteens 39 = .ok (.ifCond .lt 11, 3) := by decide +kernel
theorem dX6_sixteens_42 : decode cX6_sixteens 42 = .ok (.aload_n 0, 1) := by decide +kernel
theorem dX6_sixteens_43 : decode cX6_sixteens 43 = .ok (.bipush 16, 2) := by decide +kernel
theorem dX6_sixteens_45 : decode cX6_sixteens 45 = .ok (.iload_n 1, 1) := by decide +kernel
theorem dX6_sixteens_46 : decode cX6_sixteens 46 = .ok (.imul, 1) := by decide +kernel
theorem dX6_sixteens_47 : decode cX6_sixteens 47 = .ok (.invokevirtual 122, 3) := by decide +kernel
theorem dX6_sixteens_50 : decode cX6_sixteens 50 = .ok (.aload_n 0, 1) := by decide +kernel
theorem dX6_sixteens_51 : decode cX6_sixteens 51 = .ok (.invokevirtual 129, 3) := by decide +kernel
theorem dX6_sixteens_54 : decode cX6_sixteens 54 = .ok (.ireturn, 1) := by decide +kernel
theorem dX6_sixteens_55 : decode cX6_sixteens 55 = .ok (.iload_n 2, 1) := by decide +kernel
theorem dX6_sixteens_56 : decode cX6_sixteens 56 = .ok (.invokestatic 46, 3) := by decide +kernel
theorem dX6_sixteens_59 : decode cX6_sixteens 59 = .ok (.ifCond .ne 41, 3) := by decide +kernel
theorem dX6_sixteens_62 : decode cX6_sixteens 62 = .ok (.iload_n 2, 1) := by decide +kernel
theorem dX6_sixteens_63 : decode cX6_sixteens 63 = .ok (.invokestatic 88, 3) := by decide +kernel
theorem dX6_sixteens_66 : decode cX6_sixteens 66 = .ok (.istore_n 3, 1) := by decide +kernel
theorem dX6_sixteens_67 : decode cX6_sixteens 67 = .ok (.iload_n 3, 1) := by decide +kernel
theorem dX6_sixteens_68 : decode cX6_sixteens 68 = .ok (.bipush 15, 2) := by decide +kernel
theorem dX6_sixteens_70 : decode cX6_sixteens 70 = .ok (.if_icmp .le 9, 3) := by decide +kernel
theorem dX6_sixteens_73 : decode cX6_sixteens 73 = .ok (.aload_n 0, 1) := by decide +kernel
theorem dX6_sixteens_74 : decode cX6_sixteens 74 = .ok (.iconst 2, 1) := by decide +kernel
theorem dX6_sixteens_75 : decode cX6_sixteens 75 = .ok (.invokevirtual 138, 3) := by decide +kernel
theorem dX6_sixteens_78 : decode cX6_sixteens 78 = .ok (.ireturn, 1) := by decide +kernel
theorem dX6_sixteens_79 : decode cX6_sixteens 79 = .ok (.iload_n 1, 1) := by decide +kernel
theorem dX6_sixteens_80 : decode cX6_sixteens 80 = .ok (.ifCond .ge 8, 3) := by decide +kernel
theorem dX6_sixteens_83 : decode cX6_sixteens 83 = .ok (.iload_n 3, 1) := by decide +kernel
theorem dX6_sixteens_84 : decode cX6_sixteens 84 = .ok (.istore_n 1, 1) := by decide +kernel
theorem dX6_sixteens_85 : decode cX6_sixteens 85 = .ok (.goto 15, 3) := by decide +kernel
theorem dX6_sixteens_88 : decode cX6_sixteens 88 = .ok (.aload_n 0, 1) := by decide +kernel
theorem dX6_sixteens_89 : decode cX6_sixteens 89 = .ok (.bipush 16, 2) := by decide +kernel
theorem dX6_sixteens_91 : decode cX6_sixteens 91 = .ok (.iload_n 1, 1) := by decide +kernel
theorem dX6_sixteens_92 : decode cX6_sixteens 92 = .ok (.imul, 1) := by decide +kernel
theorem dX6_sixteens_93 : decode cX6_sixteens 93 = .ok (.iload_n 3, 1) := by decide +kernel
theorem dX6_sixteens_94 : decode cX6_sixteens 94 = .ok (.iadd, 1) := by decide +kernel
theorem dX6_sixteens_95 : decode cX6_sixteens 95 = .ok (.invokevirtual 122, 3) := by decide +kernel
theorem dX6_sixteens_98 : decode cX6_sixteens 98 = .ok (.iconst (-1), 1) := by decide +kernel
theorem dX6_sixteens_99 : decode cX6_sixteens 99 = .ok (.istore_n 1, 1) := by decide +kernel
theorem dX6_sixteens_100 : decode cX6_sixteens 100 = .ok (.aload_n 0, 1) := by decide +kernel
theorem dX6_sixteens_101 : decode cX6_sixteens 101 = .ok (.dup, 1) := by decide +kernel
theorem dX6_sixteens_102 : decode cX6_sixteens 102 = .ok (.getfield 102, 3) := by decide +kernel
theorem dX6_sixteens_105 : decode cX6_sixteens 105 = .ok (.iconst 1, 1) := by decide +kernel
theorem dX6_sixteens_106 : decode cX6_sixteens 106 = .ok (.iadd, 1) := by decide +kernel
theorem dX6_sixteens_107 : decode cX6_sixteens 107 = .ok (.putfield 102, 3) := by decide +kernel
theorem dX6_sixteens_110 : decode cX6_sixteens 110 = .ok (.goto (-108), 3) := by decide +kernel
theorem dX6_sixteens_113 : decode cX6_sixteens 113 = .ok (.aload_n 0, 1) := by decide +kernel
theorem dX6_sixteens_114 : decode cX6_sixteens 114 = .ok (.invokevirtual 132, 3) := by decide +kernel
theorem dX6_sixteens_117 : decode cX6_sixteens 117 = .ok (.ireturn, 1) := by decide +kernel
theorem dX6_some_0 : decode cX6_some 0 = .ok (.iconst 0, 1) := by decide +kernel
theorem dX6_some_1 : decode cX6_some 1 = .ok (.istore 4, 2) := by decide +kernel
theorem dX6_some_3 : decode cX6_some 3 = .ok (.iload 4, 2) := by decide +kernel
theorem dX6_some_5 : decode cX6_some 5 = .ok (.iload_n 3, 1) := by decide +kernel
theorem dX6_some_6 : decode cX6_some 6 = .ok (.if_icmp .ge 28, 3) := by decide +kernel
theorem dX6_some_9 : decode cX6_some 9 = .ok (.aload_n 0, 1) := by decide +kernel
theorem dX6_some_10 : decode cX6_some 10 = .ok (.lload_n 1, 1) := by decide +kernel
theorem dX6_some_11 : decode cX6_some 11 = .ok (.bipush 24, 2) := by decide +kernel
theorem dX6_some_13 : decode cX6_some 13 = .ok (.bipush 8, 2) := by decide +kernel
theorem dX6_some_15 : decode cX6_some 15 = .ok (.iload 4, 2) := by decide +kernel
theorem dX6_some_17 : decode cX6_some 17 = .ok (.imul, 1) := by decide +kernel
theorem dX6_some_18 : decode cX6_some 18 = .ok (.isub, 1) := by decide +kernel
theorem dX6_some_19 : decode cX6_some 19 = .ok (.lshr, 1) := by decide +kernel
theorem dX6_some_20 : decode cX6_some 20 = .ok (.ldc2_w 141, 3) := by decide +kernel
theorem dX6_some_23 : decode cX6_some 23 = .ok (.land, 1) := by decide +kernel
theorem dX6_some_24 : decode cX6_some 24 = .ok (.l2i, 1) := by decide +kernel
theorem dX6_some_25 : decode cX6_some 25 = .ok (.invokevirtual 122, 3) := by decide +kernel
theorem dX6_some_28 : decode cX6_some 28 = .ok (.iinc 4 1, 3) := by decide +kernel
theorem dX6_some_31 : decode cX6_some 31 = .ok (.goto (-28), 3) := by decide +kernel
theorem dX6_some_34 : decode cX6_some 34 = .ok (.return_, 1) := by decide +kernel
theorem dX6_eightyFives_0 : decode cX6_eightyFives 0 = .ok (.aload_n 0, 1) := by decide +kernel
theorem dX6_eightyFives_1 : decode cX6_eightyFives 1 = .ok (.aload_n 0, 1) := by decide +kernel
theorem dX6_eightyFives_2 : decode cX6_eightyFives 2 = .ok (.getfield 102, 3) := by decide +kernel
theorem dX6_eightyFives_5 : decode cX6_eightyFives 5 = .ok (.iconst 2, 1) := by decide +kernel
theorem dX6_eightyFives_6 : decode cX6_eightyFives 6 = .ok (.iadd, 1) := by decide +kernel
theorem dX6_eightyFives_7 : decode cX6_eightyFives 7 = .ok (.putfield 102, 3) := by decide +kernel
theorem dX6_eightyFives_10 : decode cX6_eightyFives 10 = .ok (.lconst 0, 1) := by decide +kernel
theorem dX6_eightyFives_11 : decode cX6_eightyFives 11 = .ok (.lstore_n 1, 1) := by decide +kernel
theorem dX6_eightyFives_12 : decode cX6_eightyFives 12 = .ok (.iconst 0, 1) := by decide +kernel
theorem dX6_eightyFives_13 : decode cX6_eightyFives 13 = .ok (.istore_n 3, 1) := by decide +kernel
theorem dX6_eightyFives_14 : decode cX6_eightyFives 14 = .ok (.aload_n 0, 1) := by decide +kernel
theorem dX6_eightyFives_15 : decode cX6_eightyFives 15 = .ok (.getfield 102, 3) := by decide +kernel
theorem dX6_eightyFives_18 : decode cX6_eightyFives 18 = .ok (.aload_n 0, 1) := by decide +kernel
theorem dX6_eightyFives_19 : decode cX6_eightyFives 19 = .ok (.getfield 40, 3) := by decide +kernel
theorem dX6_eightyFives_22 : decode cX6_eightyFives 22 = .ok (.if_icmp .ge 261, 3) := by decide +kernel
theorem dX6_eightyFives_25 : decode cX6_eightyFives 25 = .ok (.aload_n 0, 1) := by decide +kernel
theorem dX6_eightyFives_26 : decode cX6_eightyFives 26 = .ok (.aload_n 0, 1) := by decide +kernel
theorem dX6_eightyFives_27 : decode cX6_eightyFives 27 = .ok (.getfield 102, 3) := by decide +kernel
theorem dX6_eightyFives_30 : decode cX6_eightyFives 30 = .ok (.invokevirtual 63, 3) := by decide +kernel
theorem dX6_eightyFives_33 : decode cX6_eightyFives 33 = .ok (.istore 4, 2) := by decide +kernel
theorem dX6_eightyFives_35 : decode cX6_eightyFives 35 = .ok (.iload 4, 2) := by decide +kernel
theorem dX6_eightyFives_37 : decode cX6_eightyFives 37 = .ok (.bipush 126, 2) := by decide +kernel
theorem dX6_eightyFives_39 : decode cX6_eightyFives 39 = .ok (.if_icmp .ne 134, 3) := by decide +kernel
theorem dX6_eightyFives_42 : decode cX6_eightyFives 42 = .ok (.lload_n 1, 1) := by decide +kernel
theorem dX6_eightyFives_43 : decode cX6_eightyFives 43 = .ok (.lstore 5, 2) := by decide +kernel
theorem dX6_eightyFives_45 : decode cX6_eightyFives 45 = .ok (.iload_n 3, 1) := by decide +kernel
theorem dX6_eightyFives_46 : decode cX6_eightyFives 46 = .ok (.istore 7, 2) := by decide +kernel
theorem dX6_eightyFives_48 : decode cX6_eightyFives 48 = .ok (.iload 7, 2) := by decide +kernel
theorem dX6_eightyFives_50 : decode cX6_eightyFives 50 = .ok (.iconst 5, 1) := by decide +kernel
theorem dX6_eightyFives_51 : decode cX6_eightyFives 51 = .ok (.if_icmp .ge 25, 3) := by decide +kernel
theorem dX6_eightyFives_54 : decode cX6_eightyFives 54 = .ok (.iload_n 3, 1) := by decide +kernel
theorem dX6_eightyFives_55 : decode cX6_eightyFives 55 = .ok (.ifCond .le 21, 3) := by decide +kernel
theorem dX6_eightyFives_58 : decode cX6_eightyFives 58 = .ok (.ldc2_w 143, 3) := by decide +kernel
theorem dX6_eightyFives_61 : decode cX6_eightyFives 61 = .ok (.lload 5, 2) := by decide +kernel
theorem dX6_eightyFives_63 : decode cX6_eightyFives 63 = .ok (.lmul, 1) := by decide +kernel
theorem dX6_eightyFives_64 : decode cX6_eightyFives 64 = .ok (.ldc2_w 145, 3) := by decide +kernel
theorem dX6_eightyFives_67 : decode cX6_eightyFives 67 = .ok (.ladd, 1) := by decide +kernel
theorem dX6_eightyFives_68 : decode cX6_eightyFives 68 = .ok (.lstore 5, 2) := by decide +kernel
theorem dX6_eightyFives_70 : decode cX6_eightyFives 70 = .ok (.iinc 7 1, 3) := by decide +kernel
theorem dX6_eightyFives_73 : decode cX6_eightyFives 73 = .ok (.goto (-25), 3) := by decide +kernel
theorem dX6_eightyFives_76 : decode cX6_eightyFives 76 = .ok (.iload_n 3, 1) := by decide +kernel
theorem dX6_eightyFives_77 : decode cX6_eightyFives 77 = .ok (.iconst 1, 1) := by decide +kernel
theorem dX6_eightyFives_78 : decode cX6_eightyFives 78 = .ok (.if_icmp .eq 16, 3) := by decide +kernel
theorem dX6_eightyFives_81 : decode cX6_eightyFives 81 = .ok (.iload_n 3, 1) := by decide +kernel
theorem dX6_eightyFives_82 : decode cX6_eightyFives 82 = .ok (.ifCond .le 18, 3) := by decide +kernel
theorem dX6_eightyFives_85 : decode cX6_eightyFives 85 = .ok (.lload 5, 2) := by decide +kernel
theorem dX6_eightyFives_87 : decode cX6_eightyFives 87 = .ok (.ldc2_w 71, 3) := by decide +kernel
theorem dX6_eightyFives_90 : decode cX6_eightyFives 90 = .ok (.lcmp, 1) := by decide +kernel
theorem dX6_eightyFives_91 : decode cX6_eightyFives 91 = .ok (.ifCond .lt 9, 3) := by decide +kernel
theorem dX6_eightyFives_94 : decode cX6_eightyFives 94 = .ok (.aload_n 0, 1) := by decide +kernel
theorem dX6_eightyFives_95 : decode cX6_eightyFives 95 = .ok (.iconst 2, 1) := by decide +kernel
theorem dX6_eightyFives_96 : decode cX6_eightyFives 96 = .ok (.invokevirtual 138, 3) := by decide +kernel
theorem dX6_eightyFives_99 : decode cX6_eightyFives 99 = .ok (.ireturn, 1) := by decide +kernel
theorem dX6_eightyFives_100 : decode cX6_eightyFives 100 = .ok (.aload_n 0, 1) := by decide +kernel
theorem dX6_eightyFives_101 : decode cX6_eightyFives 101 = .ok (.dup, 1) := by decide +kernel
theorem dX6_eightyFives_102 : decode cX6_eightyFives 102 = .ok (.getfield 102, 3) := by decide +kernel
theorem dX6_eightyFives_105 : decode cX6_eightyFives 105 = .ok (.iconst 1, 1) := by decide +kernel
theorem dX6_eightyFives_106 : decode cX6_eightyFives 106 = .ok (.iadd, 1) := by decide +kernel
theorem dX6_eightyFives_107 : decode cX6_eightyFives 107 = .ok (.putfield 102, 3) := by decide +kernel
theorem dX6_eightyFives_110 : decode cX6_eightyFives 110 = .ok (.aload_n 0, 1) := by decide +kernel
theorem dX6_eightyFives_111 : decode cX6_eightyFives 111 = .ok (.getfield 102, 3) := by decide +kernel
theorem dX6_eightyFives_114 : decode cX6_eightyFives 114 = .ok (.aload_n 0, 1) := by decide +kernel
theorem dX6_eightyFives_115 : decode cX6_eightyFives 115 = .ok (.getfield 40, 3) := by decide +kernel
theorem dX6_eightyFives_118 : decode cX6_eightyFives 118 = .ok (.if_icmp .ne 8, 3) := by decide +kernel
theorem dX6_eightyFives_121 : decode cX6_eightyFives 121 = .ok (.aload_n 0, 1) := by decide +kernel
theorem dX6_eightyFives_122 : decode cX6_eightyFives 122 = .ok (.invokevirtual 132, 3) := by decide +kernel
theorem dX6_eightyFives_125 : decode cX6_eightyFives 125 = .ok (.ireturn, 1) := by decide +kernel
theorem dX6_eightyFives_126 : decode cX6_eightyFives 126 = .ok (.aload_n 0, 1) := by decide +kernel
theorem dX6_eightyFives_127 : decode cX6_eightyFives 127 = .ok (.aload_n 0, 1) := by decide +kernel
theorem dX6_eightyFives_128 : decode cX6_eightyFives 128 = .ok (.getfield 102, 3) := by decide +kernel
theorem dX6_eightyFives_131 : decode cX6_eightyFives 131 = .ok (.invokevirtual 63, 3) := by decide +kernel
theorem dX6_eightyFives_134 : decode cX6_eightyFives 134 = .ok (.bipush 62, 2) := by decide +kernel
theorem dX6_eightyFives_136 : decode cX6_eightyFives 136 = .ok (.if_icmp .eq 9, 3) := by decide +kernel
theorem dX6_eightyFives_139 : decode cX6_eightyFives 139 = .ok (.aload_n 0, 1) := by decide +kernel
theorem dX6_eightyFives_140 : decode cX6_eightyFives 140 = .ok (.iconst 2, 1) := by decide +kernel
theorem dX6_eightyFives_141 : decode cX6_eightyFives 141 = .ok (.invokevirtual 138, 3) := by decide +kernel
theorem dX6_eightyFives_144 : decode cX6_eightyFives 144 = .ok (.ireturn, 1) := by decide +kernel
theorem dX6_eightyFives_145 : decode cX6_eightyFives 145 = .ok (.aload_n 0, 1) := by decide +kernel
theorem dX6_eightyFives_146 : decode cX6_eightyFives 146 = .ok (.dup, 1) := by decide +kernel
theorem dX6_eightyFives_147 : decode cX6_eightyFives 147 = .ok (.getfield 102, 3) := by decide +kernel
theorem dX6_eightyFives_150 : decode cX6_eightyFives 150 = .ok (.iconst 1, 1) := by decide +kernel
theorem dX6_eightyFives_151 : decode cX6_eightyFives 151 = .ok (.iadd, 1) := by decide +kernel
theorem dX6_eightyFives_152 : decode cX6_eightyFives 152 = .ok (.putfield 102, 3) := by decide +kernel
theorem dX6_eightyFives_155 : decode cX6_eightyFives 155 = .ok (.iload_n 3, 1) := by decide +kernel
theorem dX6_eightyFives_156 : decode cX6_eightyFives 156 = .ok (.ifCond .le 12, 3) := by decide +kernel
theorem dX6_eightyFives_159 : decode cX6_eightyFives 159 = .ok (.aload_n 0, 1) := by decide +kernel
theorem dX6_eightyFives_160 : decode cX6_eightyFives 160 = .ok (.lload 5, 2) := by decide +kernel
theorem dX6_eightyFives_162 : decode cX6_eightyFives 162 = .ok (.iload_n 3, 1) := by decide +kernel
theorem dX6_eightyFives_163 : decode cX6_eightyFives 163 = .ok (.iconst 1, 1) := by decide +kernel
theorem dX6_eightyFives_164 : decode cX6_eightyFives 164 = .ok (.isub, 1) := by decide +kernel
theorem dX6_eightyFives_165 : decode cX6_eightyFives 165 = .ok (.invokevirtual 147, 3) := by decide +kernel
theorem dX6_eightyFives_168 : decode cX6_eightyFives 168 = .ok (.aload_n 0, 1) := by decide +kernel
theorem dX6_eightyFives_169 : decode cX6_eightyFives 169 = .ok (.invokevirtual 129, 3) := by decide +kernel
theorem dX6_eightyFives_172 : decode cX6_eightyFives 172 = .ok (.ireturn, 1) := by decide +kernel
theorem dX6_eightyFives_173 : decode cX6_eightyFives 173 = .ok (.iload 4, 2) := by decide +kernel
theorem dX6_eightyFives_175 : decode cX6_eightyFives 175 = .ok (.bipush 122, 2) := by decide +kernel
theorem dX6_eightyFives_177 : decode cX6_eightyFives 177 = .ok (.if_icmp .ne 16, 3) := by decide +kernel
theorem dX6_eightyFives_180 : decode cX6_eightyFives 180 = .ok (.iload_n 3, 1) := by decide +kernel
theorem dX6_eightyFives_181 : decode cX6_eightyFives 181 = .ok (.ifCond .ne 12, 3) := by decide +kernel
theorem dX6_eightyFives_184 : decode cX6_eightyFives 184 = .ok (.aload_n 0, 1) := by decide +kernel
theorem dX6_eightyFives_185 : decode cX6_eightyFives 185 = .ok (.lconst 0, 1) := by decide +kernel
theorem dX6_eightyFives_186 : decode cX6_eightyFives 186 = .ok (.iconst 4, 1) := by decide +kernel
theorem dX6_eightyFives_187 : decode cX6_eightyFives 187 = .ok (.invokevirtual 147, 3) := by decide +kernel
theorem dX6_eightyFives_190 : decode cX6_eightyFives 190 = .ok (.goto 80, 3) := by decide +kernel
theorem dX6_eightyFives_193 : decode cX6_eightyFives 193 = .ok (.iload 4, 2) := by decide +kernel
theorem dX6_eightyFives_195 : decode cX6_eightyFives 195 = .ok (.bipush 33, 2) := by decide +kernel
theorem dX6_eightyFives_197 : decode cX6_eightyFives 197 = .ok (.if_icmp .lt 59, 3) := by decide +kernel
theorem dX6_eightyFives_200 : decode cX6_eightyFives 200 = .ok (.iload 4, 2) := by decide +kernel
theorem dX6_eightyFives_202 : decode cX6_eightyFives 202 = .ok (.bipush 117, 2) := by decide +kernel
theorem dX6_eightyFives_204 : decode cX6_eightyFives 204 = .ok (.if_icmp .gt 52, 3) := by decide +kernel
theorem dX6_eightyFives_207 : decode cX6_eightyFives 207 = .ok (.ldc2_w 143, 3) := by decide +kernel
theorem dX6_eightyFives_210 : decode cX6_eightyFives 210 = .ok (.lload_n 1, 1) := by decide +kernel
theorem dX6_eightyFives_211 : decode cX6_eightyFives 211 = .ok (.lmul, 1) := by decide +kernel
theorem dX6_eightyFives_212 : decode cX6_eightyFives 212 = .ok (.iload 4, 2) := by decide +kernel
theorem dX6_eightyFives_214 : decode cX6_eightyFives 214 = .ok (.i2l, 1) := by decide +kernel
theorem dX6_eightyFives_215 : decode cX6_eightyFives 215 = .ok (.ladd, 1) := by decide +kernel
theorem dX6_eightyFives_216 : decode cX6_eightyFives 216 = .ok (.ldc2_w 151, 3) := by decide +kernel
theorem dX6_eightyFives_219 : decode cX6_eightyFives 219 = .ok (.lsub, 1) := by decide +kernel
theorem dX6_eightyFives_220 : decode cX6_eightyFives 220 = .ok (.lstore_n 1, 1) := by decide +kernel
theorem dX6_eightyFives_221 : decode cX6_eightyFives 221 = .ok (.iinc 3 1, 3) := by decide +kernel
theorem dX6_eightyFives_224 : decode cX6_eightyFives 224 = .ok (.iload_n 3, 1) := by decide +kernel
theorem dX6_eightyFives_225 : decode cX6_eightyFives 225 = .ok (.iconst 5, 1) := by decide +kernel
theorem dX6_eightyFives_226 : decode cX6_eightyFives 226 = .ok (.if_icmp .ne 44, 3) := by decide +kernel
theorem dX6_eightyFives_229 : decode cX6_eightyFives 229 = .ok (.lload_n 1, 1) := by decide +kernel
theorem dX6_eightyFives_230 : decode cX6_eightyFives 230 = .ok (.ldc2_w 71, 3) := by decide +kernel
theorem dX6_eightyFives_233 : decode cX6_eightyFives 233 = .ok (.lcmp, 1) := by decide +kernel
theorem dX6_eightyFives_234 : decode cX6_eightyFives 234 = .ok (.ifCond .lt 9, 3) := by decide +kernel
theorem dX6_eightyFives_237 : decode cX6_eightyFives 237 = .ok (.aload_n 0, 1) := by decide +kernel
theorem dX6_eightyFives_238 : decode cX6_eightyFives 238 = .ok (.iconst 2, 1) := by decide +kernel
theorem dX6_eightyFives_239 : decode cX6_eightyFives 239 = .ok (.invokevirtual 138, 3) := by decide +kernel
theorem dX6_eightyFives_242 : decode cX6_eightyFives 242 = .ok (.ireturn, 1) := by decide +kernel
theorem dX6_eightyFives_243 : decode cX6_eightyFives 243 = .ok (.aload_n 0, 1) := by decide +kernel
theorem dX6_eightyFives_244 : decode cX6_eightyFives 244 = .ok (.lload_n 1, 1) := by decide +kernel
theorem dX6_eightyFives_245 : decode cX6_eightyFives 245 = .ok (.iconst 4, 1) := by decide +kernel
theorem dX6_eightyFives_246 : decode cX6_eightyFives 246 = .ok (.invokevirtual 147, 3) := by decide +kernel
theorem dX6_eightyFives_249 : decode cX6_eightyFives 249 = .ok (.lconst 0, 1) := by decide +kernel
theorem dX6_eightyFives_250 : decode cX6_eightyFives 250 = .ok (.lstore_n 1, 1) := by decide +kernel
theorem dX6_eightyFives_251 : decode cX6_eightyFives 251 = .ok (.iconst 0, 1) := by decide +kernel
theorem dX6_eightyFives_252 : decode cX6_eightyFives 252 = .ok (.istore_n 3, 1) := by decide +kernel
theorem dX6_eightyFives_253 : decode cX6_eightyFives 253 = .ok (.goto 17, 3) := by decide +kernel
theorem dX6_eightyFives_256 : decode cX6_eightyFives 256 = .ok (.iload 4, 2) := by decide +kernel
theorem dX6_eightyFives_258 : decode cX6_eightyFives 258 = .ok (.invokestatic 46, 3) := by decide +kernel
theorem dX6_eightyFives_261 : decode cX6_eightyFives 261 = .ok (.ifCond .ne 9, 3) := by decide +kernel
theorem dX6_eightyFives_264 : decode cX6_eightyFives 264 = .ok (.aload_n 0, 1) := by decide +kernel
theorem dX6_eightyFives_265 : decode cX6_eightyFives 265 = .ok (.iconst 2, 1) := by decide +kernel
theorem dX6_eightyFives_266 : decode cX6_eightyFives 266 = .ok (.invokevirtual 138, 3) := by decide +kernel
theorem dX6_eightyFives_269 : decode cX6_eightyFives 269 = .ok (.ireturn, 1) := by decide +kernel
theorem dX6_eightyFives_270 : decode cX6_eightyFives 270 = .ok (.aload_n 0, 1) := by decide +kernel
theorem dX6_eightyFives_271 : decode cX6_eightyFives 271 = .ok (.dup, 1) := by decide +kernel
theorem dX6_eightyFives_272 : decode cX6_eightyFives 272 = .ok (.getfield 102, 3) := by decide +kernel
theorem dX6_eightyFives_275 : decode cX6_eightyFives 275 = .ok (.iconst 1, 1) := by decide +kernel
theorem dX6_eightyFives_276 : decode cX6_eightyFives 276 = .ok (.iadd, 1) := by decide +kernel
theorem dX6_eightyFives_277 : decode cX6_eightyFives 277 = .ok (.putfield 102, 3) := by decide +kernel
theorem dX6_eightyFives_280 : decode cX6_eightyFives 280 = .ok (.goto (-266), 3) := by decide +kernel
theorem dX6_eightyFives_283 : decode cX6_eightyFives 283 = .ok (.aload_n 0, 1) := by decide +kernel
theorem dX6_eightyFives_284 : decode cX6_eightyFives 284 = .ok (.invokevirtual 132, 3) := by decide +kernel
theorem dX6_eightyFives_287 : decode cX6_eightyFives 287 = .ok (.ireturn, 1) := by decide +kernel
theorem dX6_angled_0 : decode cX6_angled 0 = .ok (.aload_n 0, 1) := by decide +kernel
theorem dX6_angled_1 : decode cX6_angled 1 = .ok (.getfield 102, 3) := by decide +kernel
theorem dX6_angled_4 : decode cX6_angled 4 = .ok (.iconst 1, 1) := by decide +kernel
theorem dX6_angled_5 : decode cX6_angled 5 = .ok (.iadd, 1) := by decide +kernel
theorem dX6_angled_6 : decode cX6_angled 6 = .ok (.aload_n 0, 1) := by decide +kernel
theorem dX6_angled_7 : decode cX6_angled 7 = .ok (.getfield 40, 3) := by decide +kernel
theorem dX6_angled_10 : decode cX6_angled 10 = .ok (.if_icmp .ne 18, 3) := by decide +kernel
theorem dX6_angled_13 : decode cX6_angled 13 = .ok (.aload_n 0, 1) := by decide +kernel
theorem dX6_angled_14 : decode cX6_angled 14 = .ok (.dup, 1) := by decide +kernel
theorem dX6_angled_15 : decode cX6_angled 15 = .ok (.getfield 102, 3) := by decide +kernel
theorem dX6_angled_18 : decode cX6_angled 18 = .ok (.iconst 1, 1) := by decide +kernel
theorem dX6_angled_19 : decode cX6_angled 19 = .ok (.iadd, 1) := by decide +kernel
theorem dX6_angled_20 : decode cX6_angled 20 = .ok (.putfield 102, 3) := by decide +kernel
theorem dX6_angled_23 : decode cX6_angled 23 = .ok (.aload_n 0, 1) := by decide +kernel
theorem dX6_angled_24 : decode cX6_angled 24 = .ok (.invokevirtual 132, 3) := by decide +kernel
theorem dX6_angled_27 : decode cX6_angled 27 = .ok (.ireturn, 1) := by decide +kernel
theorem dX6_angled_28 : decode cX6_angled 28 = .ok (.aload_n 0, 1) := by decide +kernel
theorem dX6_angled_29 : decode cX6_angled 29 = .ok (.aload_n 0, 1) := by decide +kernel
theorem dX6_angled_30 : decode cX6_angled 30 = .ok (.getfield 102, 3) := by decide +kernel
theorem dX6_angled_33 : decode cX6_angled 33 = .ok (.iconst 1, 1) := by decide +kernel
theorem dX6_angled_34 : decode cX6_angled 34 = .ok (.iadd, 1) := by decide +kernel
theorem dX6_angled_35 : decode cX6_angled 35 = .ok (.invokevirtual 63, 3) := by decide +kernel
theorem dX6_angled_38 : decode cX6_angled 38 = .ok (.bipush 60, 2) := by decide +kernel
theorem dX6_angled_40 : decode cX6_angled 40 = .ok (.if_icmp .ne 16, 3) := by decide +kernel
theorem dX6_angled_43 : decode cX6_angled 43 = .ok (.aload_n 0, 1) := by decide +kernel
theorem dX6_angled_44 : decode cX6_angled 44 = .ok (.aload_n 0, 1) := by decide +kernel
theorem dX6_angled_45 : decode cX6_angled 45 = .ok (.getfield 102, 3) := by decide +kernel
theorem dX6_angled_48 : decode cX6_angled 48 = .ok (.iconst 2, 1) := by decide +kernel
theorem dX6_angled_49 : decode cX6_angled 49 = .ok (.iadd, 1) := by decide +kernel
theorem dX6_angled_50 : decode cX6_angled 50 = .ok (.putfield 102, 3) := by decide +kernel
theorem dX6_angled_53 : decode cX6_angled 53 = .ok (.bipush 11, 2) := by decide +kernel
theorem dX6_angled_55 : decode cX6_angled 55 = .ok (.ireturn, 1) := by decide +kernel
theorem dX6_angled_56 : decode cX6_angled 56 = .ok (.aload_n 0, 1) := by decide +kernel
theorem dX6_angled_57 : decode cX6_angled 57 = .ok (.aload_n 0, 1) := by decide +kernel
theorem dX6_angled_58 : decode cX6_angled 58 = .ok (.getfield 102, 3) := by decide +kernel
theorem dX6_angled_61 : decode cX6_angled 61 = .ok (.iconst 1, 1) := by decide +kernel
theorem dX6_angled_62 : decode cX6_angled 62 = .ok (.iadd, 1) := by decide +kernel
theorem dX6_angled_63 : decode cX6_angled 63 = .ok (.invokevirtual 63, 3) := by decide +kernel
theorem dX6_angled_66 : decode cX6_angled 66 = .ok (.bipush 126, 2) := by decide +kernel
theorem dX6_angled_68 : decode cX6_angled 68 = .ok (.if_icmp .ne 8, 3) := by decide +kernel
theorem dX6_angled_71 : decode cX6_angled 71 = .ok (.aload_n 0, 1) := by decide +kernel
theorem dX6_angled_72 : decode cX6_angled 72 = .ok (.invokevirtual 153, 3) := by decide +kernel
theorem dX6_angled_75 : decode cX6_angled 75 = .ok (.ireturn, 1) := by decide +kernel
theorem dX6_angled_76 : decode cX6_angled 76 = .ok (.aload_n 0, 1) := by decide +kernel
theorem dX6_angled_77 : decode cX6_angled 77 = .ok (.dup, 1) := by decide +kernel
theorem dX6_angled_78 : decode cX6_angled 78 = .ok (.getfield 102, 3) := by decide +kernel
theorem dX6_angled_81 : decode cX6_angled 81 = .ok (.iconst 1, 1) := by decide +kernel
theorem dX6_angled_82 : decode cX6_angled 82 = .ok (.iadd, 1) := by decide +kernel
theorem dX6_angled_83 : decode cX6_angled 83 = .ok (.putfield 102, 3) := by decide +kernel
theorem dX6_angled_86 : decode cX6_angled 86 = .ok (.aload_n 0, 1) := by decide +kernel
theorem dX6_angled_87 : decode cX6_angled 87 = .ok (.invokevirtual 156, 3) := by decide +kernel
theorem dX6_angled_90 : decode cX6_angled 90 = .ok (.ireturn, 1) := by decide +kernel
theorem dX6_signed_0 : decode cX6_signed 0 = .ok (.lconst 0, 1) := by decide +kernel
theorem dX6_signed_1 : decode cX6_signed 1 = .ok (.lstore 4, 2) := by decide +kernel
theorem dX6_signed_3 : decode cX6_signed 3 = .ok (.iconst 0, 1) := by decide +kernel
theorem dX6_signed_4 : decode cX6_signed 4 = .ok (.istore 6, 2) := by decide +kernel
theorem dX6_signed_6 : decode cX6_signed 6 = .ok (.iload 6, 2) := by decide +kernel
theorem dX6_signed_8 : decode cX6_signed 8 = .ok (.iload_n 2, 1) := by decide +kernel
theorem dX6_signed_9 : decode cX6_signed 9 = .ok (.if_icmp .ge 42, 3) := by decide +kernel
theorem dX6_signed_12 : decode cX6_signed 12 = .ok (.ldc2_w 159, 3) := by decide +kernel
theorem dX6_signed_15 : decode cX6_signed 15 = .ok (.lload 4, 2) := by decide +kernel
theorem dX6_signed_17 : decode cX6_signed 17 = .ok (.lmul, 1) := by decide +kernel
theorem dX6_signed_18 : decode cX6_signed 18 = .ok (.aload_n 0, 1) := by decide +kernel
theorem dX6_signed_19 : decode cX6_signed 19 = .ok (.iload_n 3, 1) := by decide +kernel
theorem dX6_signed_20 : decode cX6_signed 20 = .ok (.ifCond .eq 14, 3) := by decide +kernel
theorem dX6_signed_23 : decode cX6_signed 23 = .ok (.iload_n 1, 1) := by decide +kernel
theorem dX6_signed_24 : decode cX6_signed 24 = .ok (.iload_n 2, 1) := by decide +kernel
theorem dX6_signed_25 : decode cX6_signed 25 = .ok (.iadd, 1) := by decide +kernel
theorem dX6_signed_26 : decode cX6_signed 26 = .ok (.iconst 1, 1) := by decide +kernel
theorem dX6_signed_27 : decode cX6_signed 27 = .ok (.isub, 1) := by decide +kernel
theorem dX6_signed_28 : decode cX6_signed 28 = .ok (.iload 6, 2) := by decide +kernel
theorem dX6_signed_30 : decode cX6_signed 30 = .ok (.isub, 1) := by decide +kernel
theorem dX6_signed_31 : decode cX6_signed 31 = .ok (.goto 7, 3) := by decide +kernel
theorem dX6_signed_34 : decode cX6_signed 34 = .ok (.iload_n 1, 1) := by decide +kernel
theorem dX6_signed_35 : decode cX6_signed 35 = .ok (.iload 6, 2) := by decide +kernel
theorem dX6_signed_37 : decode cX6_signed 37 = .ok (.iadd, 1) := by decide +kernel
theorem dX6_signed_38 : decode cX6_signed 38 = .ok (.invokevirtual 63, 3) := by decide +kernel
theorem dX6_signed_41 : decode cX6_signed 41 = .ok (.i2l, 1) := by decide +kernel
theorem dX6_signed_42 : decode cX6_signed 42 = .ok (.ladd, 1) := by decide +kernel
theorem dX6_signed_43 : decode cX6_signed 43 = .ok (.lstore 4, 2) := by decide +kernel
theorem dX6_signed_45 : decode cX6_signed 45 = .ok (.iinc 6 1, 3) := by decide +kernel
theorem dX6_signed_48 : decode cX6_signed 48 = .ok (.goto (-42), 3) := by decide +kernel
theorem dX6_signed_51 : decode cX6_signed 51 = .ok (.lconst 1, 1) := by decide +kernel
theorem dX6_signed_52 : decode cX6_signed 52 = .ok (.lstore 6, 2) := by decide +kernel
theorem dX6_signed_54 : decode cX6_signed 54 = .ok (.iconst 1, 1) := by decide +kernel
theorem dX6_signed_55 : decode cX6_signed 55 = .ok (.istore 8, 2) := by decide +kernel
theorem dX6_signed_57 : decode cX6_signed 57 = .ok (.iload 8, 2) := by decide +kernel
theorem dX6_signed_59 : decode cX6_signed 59 = .ok (.bipush 8, 2) := by decide +kernel
theorem dX6_signed_61 : decode cX6_signed 61 = .ok (.iload_n 2, 1) := by decide +kernel
theorem dX6_signed_62 : decode cX6_signed 62 = .ok (.imul, 1) := by decide +kernel
theorem dX6_signed_63 : decode cX6_signed 63 = .ok (.if_icmp .ge 17, 3) := by decide +kernel
theorem dX6_signed_66 : decode cX6_signed 66 = .ok (.ldc2_w 161, 3) := by decide +kernel
theorem dX6_signed_69 : decode cX6_signed 69 = .ok (.lload 6, 2) := by decide +kernel
theorem dX6_signed_71 : decode cX6_signed 71 = .ok (.lmul, 1) := by decide +kernel
theorem dX6_signed_72 : decode cX6_signed 72 = .ok (.lstore 6, 2) := by decide +kernel
theorem dX6_signed_74 : decode cX6_signed 74 = .ok (.iinc 8 1, 3) := by decide +kernel
theorem dX6_signed_77 : decode cX6_signed 77 = .ok (.goto (-20), 3) := by decide +kernel
theorem dX6_signed_80 : decode cX6_signed 80 = .ok (.lload 4, 2) := by decide +kernel
theorem dX6_signed_82 : decode cX6_signed 82 = .ok (.lload 6, 2) := by decide +kernel
theorem dX6_signed_84 : decode cX6_signed 84 = .ok (.lcmp, 1) := by decide +kernel
theorem dX6_signed_85 : decode cX6_signed 85 = .ok (.ifCond .lt 15, 3) := by decide +kernel
theorem dX6_signed_88 : decode cX6_signed 88 = .ok (.lload 4, 2) := by decide +kernel
theorem dX6_signed_90 : decode cX6_signed 90 = .ok (.ldc2_w 161, 3) := by decide +kernel
theorem dX6_signed_93 : decode cX6_signed 93 = .ok (.lload 6, 2) := by decide +kernel
theorem dX6_signed_95 : decode cX6_signed 95 = .ok (.lmul, 1) := by decide +kernel
theorem dX6_signed_96 : decode cX6_signed 96 = .ok (.lsub, 1) := by decide +kernel
theorem dX6_signed_97 : decode cX6_signed 97 = .ok (.goto 5, 3) := by decide +kernel
theorem dX6_signed_100 : decode cX6_signed 100 = .ok (.lload 4, 2) := by decide +kernel
theorem dX6_signed_102 : decode cX6_signed 102 = .ok (.lreturn, 1) := by decide +kernel
theorem dX6_power_0 : decode cX6_power 0 = .ok (.dconst 1, 1) := by decide +kernel
theorem dX6_power_1 : decode cX6_power 1 = .ok (.dstore_n 1, 1) := by decide +kernel
theorem dX6_power_2 : decode cX6_power 2 = .ok (.iconst 0, 1) := by decide +kernel
theorem dX6_power_3 : decode cX6_power 3 = .ok (.istore_n 3, 1) := by decide +kernel
theorem dX6_power_4 : decode cX6_power 4 = .ok (.iload_n 3, 1) := by decide +kernel
theorem dX6_power_5 : decode cX6_power 5 = .ok (.iload_n 0, 1) := by decide +kernel
theorem dX6_power_6 : decode cX6_power 6 = .ok (.if_icmp .ge 15, 3) := by decide +kernel
theorem dX6_power_9 : decode cX6_power 9 = .ok (.dload_n 1, 1) := by decide +kernel
theorem dX6_power_10 : decode cX6_power 10 = .ok (.ldc2_w 163, 3) := by decide +kernel
theorem dX6_power_13 : decode cX6_power 13 = .ok (.dmul, 1) := by decide +kernel
theorem dX6_power_14 : decode cX6_power 14 = .ok (.dstore_n 1, 1) := by decide +kernel
theorem dX6_power_15 : decode cX6_power 15 = .ok (.iinc 3 1, 3) := by decide +kernel
theorem dX6_power_18 : decode cX6_power 18 = .ok (.goto (-14), 3) := by decide +kernel
theorem dX6_power_21 : decode cX6_power 21 = .ok (.iconst 0, 1) := by decide +kernel
theorem dX6_power_22 : decode cX6_power 22 = .ok (.istore_n 3, 1) := by decide +kernel
theorem dX6_power_23 : decode cX6_power 23 = .ok (.iload_n 3, 1) := by decide +kernel
theorem dX6_power_24 : decode cX6_power 24 = .ok (.iload_n 0, 1) := by decide +kernel
theorem dX6_power_25 : decode cX6_power 25 = .ok (.if_icmp .le 15, 3) := by decide +kernel
theorem dX6_power_28 : decode cX6_power 28 = .ok (.dload_n 1, 1) := by decide +kernel
theorem dX6_power_29 : decode cX6_power 29 = .ok (.ldc2_w 163, 3) := by decide +kernel
theorem dX6_power_32 : decode cX6_power 32 = .ok (.ddiv, 1) := by decide +kernel
theorem dX6_power_33 : decode cX6_power 33 = .ok (.dstore_n 1, 1) := by decide +kernel
theorem dX6_power_34 : decode cX6_power 34 = .ok (.iinc 3 (-1), 3) := by decide +kernel
theorem dX6_power_37 : decode cX6_power 37 = .ok (.goto (-14), 3) := by decide +kernel
theorem dX6_power_40 : decode cX6_power 40 = .ok (.dload_n 1, 1) := by decide +kernel
theorem dX6_power_41 : decode cX6_power 41 = .ok (.dreturn, 1) := by decide +kernel
theorem dX6_four_0 : decode cX6_four 0 = .ok (.aload_n 0, 1) := by decide +kernel
theorem dX6_four_1 : decode cX6_four 1 = .ok (.iload_n 1, 1) := by decide +kernel
theorem dX6_four_2 : decode cX6_four 2 = .ok (.iconst 4, 1) := by decide +kernel
theorem dX6_four_3 : decode cX6_four 3 = .ok (.iload_n 2, 1) := by decide +kernel
theorem dX6_four_4 : decode cX6_four 4 = .ok (.invokevirtual 165, 3) := by decide +kernel
theorem dX6_four_7 : decode cX6_four 7 = .ok (.lstore_n 3, 1) := by decide +kernel
theorem dX6_four_8 : decode cX6_four 8 = .ok (.lload_n 3, 1) := by decide +kernel
theorem dX6_four_9 : decode cX6_four 9 = .ok (.lconst 0, 1) := by decide +kernel
theorem dX6_four_10 : decode cX6_four 10 = .ok (.lcmp, 1) := by decide +kernel
theorem dX6_four_11 : decode cX6_four 11 = .ok (.ifCond .ge 7, 3) := by decide +kernel
theorem dX6_four_14 : decode cX6_four 14 = .ok (.iconst 1, 1) := by decide +kernel
theorem dX6_four_15 : decode cX6_four 15 = .ok (.goto 4, 3) := by decide +kernel
theorem dX6_four_18 : decode cX6_four 18 = .ok (.iconst 0, 1) := by decide +kernel
theorem dX6_four_19 : decode cX6_four 19 = .ok (.istore 5, 2) := by decide +kernel
theorem dX6_four_21 : decode cX6_four 21 = .ok (.lload_n 3, 1) := by decide +kernel
theorem dX6_four_22 : decode cX6_four 22 = .ok (.bipush 23, 2) := by decide +kernel
theorem dX6_four_24 : decode cX6_four 24 = .ok (.lshr, 1) := by decide +kernel
theorem dX6_four_25 : decode cX6_four 25 = .ok (.ldc2_w 141, 3) := by decide +kernel
theorem dX6_four_28 : decode cX6_four 28 = .ok (.land, 1) := by decide +kernel
theorem dX6_four_29 : decode cX6_four 29 = .ok (.l2i, 1) := by decide +kernel
theorem dX6_four_30 : decode cX6_four 30 = .ok (.istore 6, 2) := by decide +kernel
theorem dX6_four_32 : decode cX6_four 32 = .ok (.lload_n 3, 1) := by decide +kernel
theorem dX6_four_33 : decode cX6_four 33 = .ok (.ldc2_w 169, 3) := by decide +kernel
theorem dX6_four_36 : decode cX6_four 36 = .ok (.land, 1) := by decide +kernel
theorem dX6_four_37 : decode cX6_four 37 = .ok (.lstore 7, 2) := by decide +kernel
theorem dX6_four_39 : decode cX6_four 39 = .ok (.aload_n 0, 1) := by decide +kernel
theorem dX6_four_40 : decode cX6_four 40 = .ok (.aload_n 0, 1) := by decide +kernel
theorem dX6_four_41 : decode cX6_four 41 = .ok (.getfield 171, 3) := by decide +kernel
theorem dX6_four_44 : decode cX6_four 44 = .ok (.ifCond .ne 11, 3) := by decide +kernel
theorem dX6_four_47 : decode cX6_four 47 = .ok (.iload 6, 2) := by decide +kernel
theorem dX6_four_49 : decode cX6_four 49 = .ok (.sipush 255, 3) := by decide +kernel
theorem dX6_four_52 : decode cX6_four 52 = .ok (.if_icmp .ne 7, 3) := by decide +kernel
theorem dX6_four_55 : decode cX6_four 55 = .ok (.iconst 1, 1) := by decide +kernel
theorem dX6_four_56 : decode cX6_four 56 = .ok (.goto 4, 3) := by decide +kernel
theorem dX6_four_59 : decode cX6_four 59 = .ok (.iconst 0, 1) := by decide +kernel
theorem dX6_four_60 : decode cX6_four 60 = .ok (.putfield 171, 3) := by decide +kernel
theorem dX6_four_63 : decode cX6_four 63 = .ok (.iload 6, 2) := by decide +kernel
theorem dX6_four_65 : decode cX6_four 65 = .ok (.ifCond .ne 16, 3) := by decide +kernel
theorem dX6_four_68 : decode cX6_four 68 = .ok (.lload 7, 2) := by decide +kernel
theorem dX6_four_70 : decode cX6_four 70 = .ok (.l2d, 1) := by decide +kernel
theorem dX6_four_71 : decode cX6_four 71 = .ok (.sipush (-149), 3) := by decide +kernel
theorem dX6_four_74 : decode cX6_four 74 = .ok (.invokestatic 174, 3) := by decide +kernel
theorem dX6_four_77 : decode cX6_four 77 = .ok (.dmul, 1) := by decide +kernel
theorem dX6_four_78 : decode cX6_four 78 = .ok (.goto 20, 3) := by decide +kernel
theorem dX6_four_81 : decode cX6_four 81 = .ok (.ldc2_w 178, 3) := by decide +kernel
theorem dX6_four_84 : decode cX6_four 84 = .ok (.lload 7, 2) := by decide +kernel
theorem dX6_four_86 : decode cX6_four 86 = .ok (.ladd, 1) := by decide +kernel
theorem dX6_four_87 : decode cX6_four 87 = .ok (.l2d, 1) := by decide +kernel
theorem dX6_four_88 : decode cX6_four 88 = .ok (.iload 6, 2) := by decide +kernel
theorem dX6_four_90 : decode cX6_four 90 = .ok (.sipush 150, 3) := by decide +kernel
theorem dX6_four_93 : decode cX6_four 93 = .ok (.isub, 1) := by decide +kernel
theorem dX6_four_94 : decode cX6_four 94 = .ok (.invokestatic 174, 3) := by decide +kernel
theorem dX6_four_97 : decode cX6_four 97 = .ok (.dmul, 1) := by decide +kernel
theorem dX6_four_98 : decode cX6_four 98 = .ok (.dstore 9, 2) := by decide +kernel
theorem dX6_four_100 : decode cX6_four 100 = .ok (.iload 5, 2) := by decide +kernel
theorem dX6_four_102 : decode cX6_four 102 = .ok (.ifCond .eq 10, 3) := by decide +kernel
theorem dX6_four_105 : decode cX6_four 105 = .ok (.dconst 0, 1) := by decide +kernel
theorem dX6_four_106 : decode cX6_four 106 = .ok (.dload 9, 2) := by decide +kernel
theorem dX6_four_108 : decode cX6_four 108 = .ok (.dsub, 1) := by decide +kernel
theorem dX6_four_109 : decode cX6_four 109 = .ok (.goto 5, 3) := by decide +kernel
theorem dX6_four_112 : decode cX6_four 112 = .ok (.dload 9, 2) := by decide +kernel
theorem dX6_four_114 : decode cX6_four 114 = .ok (.dreturn, 1) := by decide +kernel
theorem dX6_came_0 : decode cX6_came 0 = .ok (.aload_n 0, 1) := by decide +kernel
theorem dX6_came_1 : decode cX6_came 1 = .ok (.getfield 135, 3) := by decide +kernel
theorem dX6_came_4 : decode cX6_came 4 = .ok (.iload_n 1, 1) := by decide +kernel
theorem dX6_came_5 : decode cX6_came 5 = .ok (.iadd, 1) := by decide +kernel
theorem dX6_came_6 : decode cX6_came 6 = .ok (.aload_n 0, 1) := by decide +kernel
theorem dX6_came_7 : decode cX6_came 7 = .ok (.getfield 40, 3) := by decide +kernel
theorem dX6_came_10 : decode cX6_came 10 = .ok (.if_icmp .gt 7, 3) := by decide +kernel
theorem dX6_came_13 : decode cX6_came 13 = .ok (.iconst 1, 1) := by decide +kernel
theorem dX6_came_14 : decode cX6_came 14 = .ok (.goto 4, 3) := by decide +kernel
theorem dX6_came_17 : decode cX6_came 17 = .ok (.iconst 0, 1) := by decide +kernel
theorem dX6_came_18 : decode cX6_came 18 = .ok (.ireturn, 1) := by decide +kernel
theorem dX6_number_0 : decode cX6_number 0 = .ok (.aload_n 0, 1) := by decide +kernel
theorem dX6_number_1 : decode cX6_number 1 = .ok (.iconst 1, 1) := by decide +kernel
theorem dX6_number_2 : decode cX6_number 2 = .ok (.iload_n 1, 1) := by decide +kernel
theorem dX6_number_3 : decode cX6_number 3 = .ok (.iadd, 1) := by decide +kernel
theorem dX6_number_4 : decode cX6_number 4 = .ok (.invokevirtual 180, 3) := by decide +kernel
theorem dX6_number_7 : decode cX6_number 7 = .ok (.ifCond .ne 8, 3) := by decide +kernel
theorem dX6_number_10 : decode cX6_number 10 = .ok (.aload_n 0, 1) := by decide +kernel
theorem dX6_number_11 : decode cX6_number 11 = .ok (.invokevirtual 132, 3) := by decide +kernel
theorem dX6_number_14 : decode cX6_number 14 = .ok (.ireturn, 1) := by decide +kernel
theorem dX6_number_15 : decode cX6_number 15 = .ok (.aload_n 0, 1) := by decide +kernel
theorem dX6_number_16 : decode cX6_number 16 = .ok (.aload_n 0, 1) := by decide +kernel
theorem dX6_number_17 : decode cX6_number 17 = .ok (.aload_n 0, 1) := by decide +kernel
theorem dX6_number_18 : decode cX6_number 18 = .ok (.getfield 102, 3) := by decide +kernel
theorem dX6_number_21 : decode cX6_number 21 = .ok (.iconst 1, 1) := by decide +kernel
theorem dX6_number_22 : decode cX6_number 22 = .ok (.iadd, 1) := by decide +kernel
theorem dX6_number_23 : decode cX6_number 23 = .ok (.iload_n 1, 1) := by decide +kernel
theorem dX6_number_24 : decode cX6_number 24 = .ok (.iload_n 2, 1) := by decide +kernel
theorem dX6_number_25 : decode cX6_number 25 = .ok (.invokevirtual 165, 3) := by decide +kernel
theorem dX6_number_28 : decode cX6_number 28 = .ok (.putfield 77, 3) := by decide +kernel
theorem dX6_number_31 : decode cX6_number 31 = .ok (.aload_n 0, 1) := by decide +kernel
theorem dX6_number_32 : decode cX6_number 32 = .ok (.aload_n 0, 1) := by decide +kernel
theorem dX6_number_33 : decode cX6_number 33 = .ok (.getfield 102, 3) := by decide +kernel
theorem dX6_number_36 : decode cX6_number 36 = .ok (.iconst 1, 1) := by decide +kernel
theorem dX6_number_37 : decode cX6_number 37 = .ok (.iadd, 1) := by decide +kernel
theorem dX6_number_38 : decode cX6_number 38 = .ok (.iload_n 1, 1) := by decide +kernel
theorem dX6_number_39 : decode cX6_number 39 = .ok (.iadd, 1) := by decide +kernel
theorem dX6_number_40 : decode cX6_number 40 = .ok (.putfield 102, 3) := by decide +kernel
theorem dX6_number_43 : decode cX6_number 43 = .ok (.bipush (-99), 2) := by decide +kernel
theorem dX6_number_45 : decode cX6_number 45 = .ok (.ireturn, 1) := by decide +kernel
theorem dX6_fixed_0 : decode cX6_fixed 0 = .ok (.aload_n 0, 1) := by decide +kernel
theorem dX6_fixed_1 : decode cX6_fixed 1 = .ok (.iconst 2, 1) := by decide +kernel
theorem dX6_fixed_2 : decode cX6_fixed 2 = .ok (.invokevirtual 180, 3) := by decide +kernel
theorem dX6_fixed_5 : decode cX6_fixed 5 = .ok (.ifCond .ne 8, 3) := by decide +kernel
theorem dX6_fixed_8 : decode cX6_fixed 8 = .ok (.aload_n 0, 1) := by decide +kernel
theorem dX6_fixed_9 : decode cX6_fixed 9 = .ok (.invokevirtual 132, 3) := by decide +kernel
theorem dX6_fixed_12 : decode cX6_fixed 12 = .ok (.ireturn, 1) := by decide +kernel
theorem dX6_fixed_13 : decode cX6_fixed 13 = .ok (.aload_n 0, 1) := by decide +kernel
theorem dX6_fixed_14 : decode cX6_fixed 14 = .ok (.aload_n 0, 1) := by decide +kernel
theorem dX6_fixed_15 : decode cX6_fixed 15 = .ok (.getfield 102, 3) := by decide +kernel
theorem dX6_fixed_18 : decode cX6_fixed 18 = .ok (.iconst 1, 1) := by decide +kernel
theorem dX6_fixed_19 : decode cX6_fixed 19 = .ok (.iadd, 1) := by decide +kernel
theorem dX6_fixed_20 : decode cX6_fixed 20 = .ok (.invokevirtual 63, 3) := by decide +kernel
theorem dX6_fixed_23 : decode cX6_fixed 23 = .ok (.istore_n 1, 1) := by decide +kernel
theorem dX6_fixed_24 : decode cX6_fixed 24 = .ok (.iload_n 1, 1) := by decide +kernel
theorem dX6_fixed_25 : decode cX6_fixed 25 = .ok (.bipush 127, 2) := by decide +kernel
theorem dX6_fixed_27 : decode cX6_fixed 27 = .ok (.if_icmp .le 7, 3) := by decide +kernel
theorem dX6_fixed_30 : decode cX6_fixed 30 = .ok (.iconst 1, 1) := by decide +kernel
theorem dX6_fixed_31 : decode cX6_fixed 31 = .ok (.goto 4, 3) := by decide +kernel
theorem dX6_fixed_34 : decode cX6_fixed 34 = .ok (.iconst 0, 1) := by decide +kernel
theorem dX6_fixed_35 : decode cX6_fixed 35 = .ok (.istore_n 2, 1) := by decide +kernel
theorem dX6_fixed_36 : decode cX6_fixed 36 = .ok (.iload_n 2, 1) := by decide +kernel
theorem dX6_fixed_37 : decode cX6_fixed 37 = .ok (.ifCond .eq 11, 3) := by decide +kernel
theorem dX6_fixed_40 : decode cX6_fixed 40 = .ok (.iload_n 1, 1) := by decide +kernel
theorem dX6_fixed_41 : decode cX6_fixed 41 = .ok (.sipush 128, 3) := by decide +kernel
theorem dX6_fixed_44 : decode cX6_fixed 44 = .ok (.isub, 1) := by decide +kernel
theorem dX6_fixed_45 : decode cX6_fixed 45 = .ok (.goto 4, 3) := by decide +kernel
theorem dX6_fixed_48 : decode cX6_fixed 48 = .ok (.iload_n 1, 1) := by decide +kernel
theorem dX6_fixed_49 : decode cX6_fixed 49 = .ok (.istore_n 3, 1) := by decide +kernel
theorem dX6_fixed_50 : decode cX6_fixed 50 = .ok (.iload_n 3, 1) := by decide +kernel
theorem dX6_fixed_51 : decode cX6_fixed 51 = .ok (.bipush 47, 2) := by decide +kernel
theorem dX6_fixed_53 : decode cX6_fixed 53 = .ok (.if_icmp .le 19, 3) := by decide +kernel
theorem dX6_fixed_56 : decode cX6_fixed 56 = .ok (.aload_n 0, 1) := by decide +kernel
theorem dX6_fixed_57 : decode cX6_fixed 57 = .ok (.dup, 1) := by decide +kernel
theorem dX6_fixed_58 : decode cX6_fixed 58 = .ok (.getfield 102, 3) := by decide +kernel
theorem dX6_fixed_61 : decode cX6_fixed 61 = .ok (.iconst 1, 1) := by decide +kernel
theorem dX6_fixed_62 : decode cX6_fixed 62 = .ok (.iadd, 1) := by decide +kernel
theorem dX6_fixed_63 : decode cX6_fixed 63 = .ok (.putfield 102, 3) := by decide +kernel
theorem dX6_fixed_66 : decode cX6_fixed 66 = .ok (.aload_n 0, 1) := by decide +kernel
theorem dX6_fixed_67 : decode cX6_fixed 67 = .ok (.iconst 4, 1) := by decide +kernel
theorem dX6_fixed_68 : decode cX6_fixed 68 = .ok (.invokevirtual 138, 3) := by decide +kernel
theorem dX6_fixed_71 : decode cX6_fixed 71 = .ok (.ireturn, 1) := by decide +kernel
theorem dX6_fixed_72 : decode cX6_fixed 72 = .ok (.iload_n 3, 1) := by decide +kernel
theorem dX6_fixed_73 : decode cX6_fixed 73 = .ok (.bipush 32, 2) := by decide +kernel
theorem dX6_fixed_75 : decode cX6_fixed 75 = .ok (.if_icmp .ge 7, 3) := by decide +kernel
theorem dX6_fixed_78 : decode cX6_fixed 78 = .ok (.iconst 4, 1) := by decide +kernel
theorem dX6_fixed_79 : decode cX6_fixed 79 = .ok (.goto 4, 3) := by decide +kernel
theorem dX6_fixed_82 : decode cX6_fixed 82 = .ok (.iconst 2, 1) := by decide +kernel
theorem dX6_fixed_83 : decode cX6_fixed 83 = .ok (.istore 4, 2) := by decide +kernel
theorem dX6_fixed_85 : decode cX6_fixed 85 = .ok (.aload_n 0, 1) := by decide +kernel
theorem dX6_fixed_86 : decode cX6_fixed 86 = .ok (.iconst 2, 1) := by decide +kernel
theorem dX6_fixed_87 : decode cX6_fixed 87 = .ok (.iload 4, 2) := by decide +kernel
theorem dX6_fixed_89 : decode cX6_fixed 89 = .ok (.iadd, 1) := by decide +kernel
theorem dX6_fixed_90 : decode cX6_fixed 90 = .ok (.invokevirtual 180, 3) := by decide +kernel
theorem dX6_fixed_93 : decode cX6_fixed 93 = .ok (.ifCond .ne 8, 3) := by decide +kernel
theorem dX6_fixed_96 : decode cX6_fixed 96 = .ok (.aload_n 0, 1) := by decide +kernel
theorem dX6_fixed_97 : decode cX6_fixed 97 = .ok (.invokevirtual 132, 3) := by decide +kernel
theorem dX6_fixed_100 : decode cX6_fixed 100 = .ok (.ireturn, 1) := by decide +kernel
theorem dX6_fixed_101 : decode cX6_fixed 101 = .ok (.aload_n 0, 1) := by decide +kernel
theorem dX6_fixed_102 : decode cX6_fixed 102 = .ok (.aload_n 0, 1) := by decide +kernel
theorem dX6_fixed_103 : decode cX6_fixed 103 = .ok (.aload_n 0, 1) := by decide +kernel
theorem dX6_fixed_104 : decode cX6_fixed 104 = .ok (.getfield 102, 3) := by decide +kernel
theorem dX6_fixed_107 : decode cX6_fixed 107 = .ok (.iconst 2, 1) := by decide +kernel
theorem dX6_fixed_108 : decode cX6_fixed 108 = .ok (.iadd, 1) := by decide +kernel
theorem dX6_fixed_109 : decode cX6_fixed 109 = .ok (.iload 4, 2) := by decide +kernel
theorem dX6_fixed_111 : decode cX6_fixed 111 = .ok (.iload_n 2, 1) := by decide +kernel
theorem dX6_fixed_112 : decode cX6_fixed 112 = .ok (.invokevirtual 165, 3) := by decide +kernel
theorem dX6_fixed_115 : decode cX6_fixed 115 = .ok (.l2d, 1) := by decide +kernel
theorem dX6_fixed_116 : decode cX6_fixed 116 = .ok (.iload_n 3, 1) := by decide +kernel
theorem dX6_fixed_117 : decode cX6_fixed 117 = .ok (.bipush 32, 2) := by decide +kernel
theorem dX6_fixed_119 : decode cX6_fixed 119 = .ok (.if_icmp .ge 7, 3) := by decide +kernel
theorem dX6_fixed_122 : decode cX6_fixed 122 = .ok (.iload_n 3, 1) := by decide +kernel
theorem dX6_fixed_123 : decode cX6_fixed 123 = .ok (.goto 7, 3) := by decide +kernel
theorem dX6_fixed_126 : decode cX6_fixed 126 = .ok (.iload_n 3, 1) := by decide +kernel
theorem dX6_fixed_127 : decode cX6_fixed 127 = .ok (.bipush 32, 2) := by decide +kernel
theorem dX6_fixed_129 : decode cX6_fixed 129 = .ok (.isub, 1) := by decide +kernel
theorem dX6_fixed_130 : decode cX6_fixed 130 = .ok (.invokestatic 174, 3) := by decide +kernel
theorem dX6_fixed_133 : decode cX6_fixed 133 = .ok (.ddiv, 1) := by decide +kernel
theorem dX6_fixed_134 : decode cX6_fixed 134 = .ok (.putfield 93, 3) := by decide +kernel
theorem dX6_fixed_137 : decode cX6_fixed 137 = .ok (.aload_n 0, 1) := by decide +kernel
theorem dX6_fixed_138 : decode cX6_fixed 138 = .ok (.aload_n 0, 1) := by decide +kernel
theorem dX6_fixed_139 : decode cX6_fixed 139 = .ok (.getfield 102, 3) := by decide +kernel
theorem dX6_fixed_142 : decode cX6_fixed 142 = .ok (.iconst 2, 1) := by decide +kernel
theorem dX6_fixed_143 : decode cX6_fixed 143 = .ok (.iadd, 1) := by decide +kernel
theorem dX6_fixed_144 : decode cX6_fixed 144 = .ok (.iload 4, 2) := by decide +kernel
theorem dX6_fixed_146 : decode cX6_fixed 146 = .ok (.iadd, 1) := by decide +kernel
theorem dX6_fixed_147 : decode cX6_fixed 147 = .ok (.putfield 102, 3) := by decide +kernel
theorem dX6_fixed_150 : decode cX6_fixed 150 = .ok (.iconst 2, 1) := by decide +kernel
theorem dX6_fixed_151 : decode cX6_fixed 151 = .ok (.ireturn, 1) := by decide +kernel
theorem dX6_string_0 : decode cX6_string 0 = .ok (.aload_n 0, 1) := by decide +kernel
theorem dX6_string_1 : decode cX6_string 1 = .ok (.iconst 1, 1) := by decide +kernel
theorem dX6_string_2 : decode cX6_string 2 = .ok (.iload_n 1, 1) := by decide +kernel
theorem dX6_string_3 : decode cX6_string 3 = .ok (.iadd, 1) := by decide +kernel
theorem dX6_string_4 : decode cX6_string 4 = .ok (.invokevirtual 180, 3) := by decide +kernel
theorem dX6_string_7 : decode cX6_string 7 = .ok (.ifCond .ne 8, 3) := by decide +kernel
theorem dX6_string_10 : decode cX6_string 10 = .ok (.aload_n 0, 1) := by decide +kernel
theorem dX6_string_11 : decode cX6_string 11 = .ok (.invokevirtual 132, 3) := by decide +kernel
theorem dX6_string_14 : decode cX6_string 14 = .ok (.ireturn, 1) := by decide +kernel
theorem dX6_string_15 : decode cX6_string 15 = .ok (.aload_n 0, 1) := by decide +kernel
theorem dX6_string_16 : decode cX6_string 16 = .ok (.aload_n 0, 1) := by decide +kernel
theorem dX6_string_17 : decode cX6_string 17 = .ok (.getfield 102, 3) := by decide +kernel
theorem dX6_string_20 : decode cX6_string 20 = .ok (.iconst 1, 1) := by decide +kernel
theorem dX6_string_21 : decode cX6_string 21 = .ok (.iadd, 1) := by decide +kernel
theorem dX6_string_22 : decode cX6_string 22 = .ok (.invokevirtual 63, 3) := by decide +kernel
theorem dX6_string_25 : decode cX6_string 25 = .ok (.istore_n 3, 1) := by decide +kernel
theorem dX6_string_26 : decode cX6_string 26 = .ok (.iload_n 1, 1) := by decide +kernel
theorem dX6_string_27 : decode cX6_string 27 = .ok (.iconst 1, 1) := by decide +kernel
theorem dX6_string_28 : decode cX6_string 28 = .ok (.if_icmp .ne 7, 3) := by decide +kernel
theorem dX6_string_31 : decode cX6_string 31 = .ok (.iload_n 3, 1) := by decide +kernel
theorem dX6_string_32 : decode cX6_string 32 = .ok (.goto 42, 3) := by decide +kernel
theorem dX6_string_35 : decode cX6_string 35 = .ok (.iload_n 2, 1) := by decide +kernel
theorem dX6_string_36 : decode cX6_string 36 = .ok (.ifCond .eq 22, 3) := by decide +kernel
theorem dX6_string_39 : decode cX6_string 39 = .ok (.iload_n 3, 1) := by decide +kernel
theorem dX6_string_40 : decode cX6_string 40 = .ok (.sipush 256, 3) := by decide +kernel
theorem dX6_string_43 : decode cX6_string 43 = .ok (.aload_n 0, 1) := by decide +kernel
theorem dX6_string_44 : decode cX6_string 44 = .ok (.aload_n 0, 1) := by decide +kernel
theorem dX6_string_45 : decode cX6_string 45 = .ok (.getfield 102, 3) := by decide +kernel
theorem dX6_string_48 : decode cX6_string 48 = .ok (.iconst 2, 1) := by decide +kernel
theorem dX6_string_49 : decode cX6_string 49 = .ok (.iadd, 1) := by decide +kernel
theorem dX6_string_50 : decode cX6_string 50 = .ok (.invokevirtual 63, 3) := by decide +kernel
theorem dX6_string_53 : decode cX6_string 53 = .ok (.imul, 1) := by decide +kernel
theorem dX6_string_54 : decode cX6_string 54 = .ok (.iadd, 1) := by decide +kernel
theorem dX6_string_55 : decode cX6_string 55 = .ok (.goto 19, 3) := by decide +kernel
theorem dX6_string_58 : decode cX6_string 58 = .ok (.sipush 256, 3) := by decide +kernel
theorem dX6_string_61 : decode cX6_string 61 = .ok (.iload_n 3, 1) := by decide +kernel
theorem dX6_string_62 : decode cX6_string 62 = .ok (.imul, 1) := by decide +kernel
theorem dX6_string_63 : decode cX6_string 63 = .ok (.aload_n 0, 1) := by decide +kernel
theorem dX6_string_64 : decode cX6_string 64 = .ok (.aload_n 0, 1) := by decide +kernel
theorem dX6_string_65 : decode cX6_string 65 = .ok (.getfield 102, 3) := by decide +kernel
theorem dX6_string_68 : decode cX6_string 68 = .ok (.iconst 2, 1) := by decide +kernel
theorem dX6_string_69 : decode cX6_string 69 = .ok (.iadd, 1) := by decide +kernel
theorem dX6_string_70 : decode cX6_string 70 = .ok (.invokevirtual 63, 3) := by decide +kernel
theorem dX6_string_73 : decode cX6_string 73 = .ok (.iadd, 1) := by decide +kernel
theorem dX6_string_74 : decode cX6_string 74 = .ok (.istore_n 3, 1) := by decide +kernel
theorem dX6_string_75 : decode cX6_string 75 = .ok (.aload_n 0, 1) := by decide +kernel
theorem dX6_string_76 : decode cX6_string 76 = .ok (.iconst 1, 1) := by decide +kernel
theorem dX6_string_77 : decode cX6_string 77 = .ok (.iload_n 1, 1) := by decide +kernel
theorem dX6_string_78 : decode cX6_string 78 = .ok (.iadd, 1) := by decide +kernel
theorem dX6_string_79 : decode cX6_string 79 = .ok (.iload_n 3, 1) := by decide +kernel
theorem dX6_string_80 : decode cX6_string 80 = .ok (.iadd, 1) := by decide +kernel
theorem dX6_string_81 : decode cX6_string 81 = .ok (.invokevirtual 180, 3) := by decide +kernel
theorem dX6_string_84 : decode cX6_string 84 = .ok (.ifCond .ne 8, 3) := by decide +kernel
theorem dX6_string_87 : decode cX6_string 87 = .ok (.aload_n 0, 1) := by decide +kernel
theorem dX6_string_88 : decode cX6_string 88 = .ok (.invokevirtual 132, 3) := by decide +kernel
theorem dX6_string_91 : decode cX6_string 91 = .ok (.ireturn, 1) := by decide +kernel
theorem dX6_string_92 : decode cX6_string 92 = .ok (.iconst 0, 1) := by decide +kernel
theorem dX6_string_93 : decode cX6_string 93 = .ok (.istore 4, 2) := by decide +kernel
theorem dX6_string_95 : decode cX6_string 95 = .ok (.iload 4, 2) := by decide +kernel
theorem dX6_string_97 : decode cX6_string 97 = .ok (.iload_n 3, 1) := by decide +kernel
theorem dX6_string_98 : decode cX6_string 98 = .ok (.if_icmp .ge 28, 3) := by decide +kernel
theorem dX6_string_101 : decode cX6_string 101 = .ok (.aload_n 0, 1) := by decide +kernel
theorem dX6_string_102 : decode cX6_string 102 = .ok (.aload_n 0, 1) := by decide +kernel
theorem dX6_string_103 : decode cX6_string 103 = .ok (.aload_n 0, 1) := by decide +kernel
theorem dX6_string_104 : decode cX6_string 104 = .ok (.getfield 102, 3) := by decide +kernel
theorem dX6_string_107 : decode cX6_string 107 = .ok (.iconst 1, 1) := by decide +kernel
theorem dX6_string_108 : decode cX6_string 108 = .ok (.iadd, 1) := by decide +kernel
theorem dX6_string_109 : decode cX6_string 109 = .ok (.iload_n 1, 1) := by decide +kernel
theorem dX6_string_110 : decode cX6_string 110 = .ok (.iadd, 1) := by decide +kernel
theorem dX6_string_111 : decode cX6_string 111 = .ok (.iload 4, 2) := by decide +kernel
theorem dX6_string_113 : decode cX6_string 113 = .ok (.iadd, 1) := by decide +kernel
theorem dX6_string_114 : decode cX6_string 114 = .ok (.invokevirtual 63, 3) := by decide +kernel
theorem dX6_string_117 : decode cX6_string 117 = .ok (.invokevirtual 122, 3) := by decide +kernel
theorem dX6_string_120 : decode cX6_string 120 = .ok (.iinc 4 1, 3) := by decide +kernel
theorem dX6_string_123 : decode cX6_string 123 = .ok (.goto (-28), 3) := by decide +kernel
theorem dX6_string_126 : decode cX6_string 126 = .ok (.aload_n 0, 1) := by decide +kernel
theorem dX6_string_127 : decode cX6_string 127 = .ok (.aload_n 0, 1) := by decide +kernel
theorem dX6_string_128 : decode cX6_string 128 = .ok (.getfield 102, 3) := by decide +kernel
theorem dX6_string_131 : decode cX6_string 131 = .ok (.iconst 1, 1) := by decide +kernel
theorem dX6_string_132 : decode cX6_string 132 = .ok (.iadd, 1) := by decide +kernel
theorem dX6_string_133 : decode cX6_string 133 = .ok (.iload_n 1, 1) := by decide +kernel
theorem dX6_string_134 : decode cX6_string 134 = .ok (.iadd, 1) := by decide +kernel
theorem dX6_string_135 : decode cX6_string 135 = .ok (.iload_n 3, 1) := by decide +kernel
theorem dX6_string_136 : decode cX6_string 136 = .ok (.iadd, 1) := by decide +kernel
theorem dX6_string_137 : decode cX6_string 137 = .ok (.putfield 102, 3) := by decide +kernel
theorem dX6_string_140 : decode cX6_string 140 = .ok (.aload_n 0, 1) := by decide +kernel
theorem dX6_string_141 : decode cX6_string 141 = .ok (.invokevirtual 129, 3) := by decide +kernel
theorem dX6_string_144 : decode cX6_string 144 = .ok (.ireturn, 1) := by decide +kernel
theorem dX6_rows_0 : decode cX6_rows 0 = .ok (.aload_n 0, 1) := by decide +kernel
theorem dX6_rows_1 : decode cX6_rows 1 = .ok (.iconst 2, 1) := by decide +kernel
theorem dX6_rows_2 : decode cX6_rows 2 = .ok (.invokevirtual 180, 3) := by decide +kernel
theorem dX6_rows_5 : decode cX6_rows 5 = .ok (.ifCond .ne 8, 3) := by decide +kernel
theorem dX6_rows_8 : decode cX6_rows 8 = .ok (.aload_n 0, 1) := by decide +kernel
theorem dX6_rows_9 : decode cX6_rows 9 = .ok (.invokevirtual 132, 3) := by decide +kernel
theorem dX6_rows_12 : decode cX6_rows 12 = .ok (.ireturn, 1) := by decide +kernel
theorem dX6_rows_13 : decode cX6_rows 13 = .ok (.aload_n 0, 1) := by decide +kernel
theorem dX6_rows_14 : decode cX6_rows 14 = .ok (.aload_n 0, 1) := by decide +kernel
theorem dX6_rows_15 : decode cX6_rows 15 = .ok (.getfield 102, 3) := by decide +kernel
theorem dX6_rows_18 : decode cX6_rows 18 = .ok (.iconst 1, 1) := by decide +kernel
theorem dX6_rows_19 : decode cX6_rows 19 = .ok (.iadd, 1) := by decide +kernel
theorem dX6_rows_20 : decode cX6_rows 20 = .ok (.invokevirtual 63, 3) := by decide +kernel
theorem dX6_rows_23 : decode cX6_rows 23 = .ok (.istore_n 1, 1) := by decide +kernel
theorem dX6_rows_24 : decode cX6_rows 24 = .ok (.iload_n 1, 1) := by decide +kernel
theorem dX6_rows_25 : decode cX6_rows 25 = .ok (.bipush 127, 2) := by decide +kernel
theorem dX6_rows_27 : decode cX6_rows 27 = .ok (.if_icmp .le 7, 3) := by decide +kernel
theorem dX6_rows_30 : decode cX6_rows 30 = .ok (.iconst 1, 1) := by decide +kernel
theorem dX6_rows_31 : decode cX6_rows 31 = .ok (.goto 4, 3) := by decide +kernel
theorem dX6_rows_34 : decode cX6_rows 34 = .ok (.iconst 0, 1) := by decide +kernel
theorem dX6_rows_35 : decode cX6_rows 35 = .ok (.istore_n 2, 1) := by decide +kernel
theorem dX6_rows_36 : decode cX6_rows 36 = .ok (.iload_n 2, 1) := by decide +kernel
theorem dX6_rows_37 : decode cX6_rows 37 = .ok (.ifCond .eq 11, 3) := by decide +kernel
theorem dX6_rows_40 : decode cX6_rows 40 = .ok (.iload_n 1, 1) := by decide +kernel
theorem dX6_rows_41 : decode cX6_rows 41 = .ok (.sipush 128, 3) := by decide +kernel
theorem dX6_rows_44 : decode cX6_rows 44 = .ok (.isub, 1) := by decide +kernel
theorem dX6_rows_45 : decode cX6_rows 45 = .ok (.goto 4, 3) := by decide +kernel
theorem dX6_rows_48 : decode cX6_rows 48 = .ok (.iload_n 1, 1) := by decide +kernel
theorem dX6_rows_49 : decode cX6_rows 49 = .ok (.istore_n 3, 1) := by decide +kernel
theorem dX6_rows_50 : decode cX6_rows 50 = .ok (.iload_n 3, 1) := by decide +kernel
theorem dX6_rows_51 : decode cX6_rows 51 = .ok (.bipush 48, 2) := by decide +kernel
theorem dX6_rows_53 : decode cX6_rows 53 = .ok (.if_icmp .le 19, 3) := by decide +kernel
theorem dX6_rows_56 : decode cX6_rows 56 = .ok (.aload_n 0, 1) := by decide +kernel
theorem dX6_rows_57 : decode cX6_rows 57 = .ok (.dup, 1) := by decide +kernel
theorem dX6_rows_58 : decode cX6_rows 58 = .ok (.getfield 102, 3) := by decide +kernel
theorem dX6_rows_61 : decode cX6_rows 61 = .ok (.iconst 1, 1) := by decide +kernel
theorem dX6_rows_62 : decode cX6_rows 62 = .ok (.iadd, 1) := by decide +kernel
theorem dX6_rows_63 : decode cX6_rows 63 = .ok (.putfield 102, 3) := by decide +kernel
theorem dX6_rows_66 : decode cX6_rows 66 = .ok (.aload_n 0, 1) := by decide +kernel
theorem dX6_rows_67 : decode cX6_rows 67 = .ok (.iconst 4, 1) := by decide +kernel
theorem dX6_rows_68 : decode cX6_rows 68 = .ok (.invokevirtual 138, 3) := by decide +kernel
theorem dX6_rows_71 : decode cX6_rows 71 = .ok (.ireturn, 1) := by decide +kernel
theorem dX6_rows_72 : decode cX6_rows 72 = .ok (.aload_n 0, 1) := by decide +kernel
theorem dX6_rows_73 : decode cX6_rows 73 = .ok (.iconst 4, 1) := by decide +kernel
theorem dX6_rows_74 : decode cX6_rows 74 = .ok (.invokevirtual 180, 3) := by decide +kernel
theorem dX6_rows_77 : decode cX6_rows 77 = .ok (.ifCond .ne 8, 3) := by decide +kernel
theorem dX6_rows_80 : decode cX6_rows 80 = .ok (.aload_n 0, 1) := by decide +kernel
theorem dX6_rows_81 : decode cX6_rows 81 = .ok (.invokevirtual 132, 3) := by decide +kernel
theorem dX6_rows_84 : decode cX6_rows 84 = .ok (.ireturn, 1) := by decide +kernel
theorem dX6_rows_85 : decode cX6_rows 85 = .ok (.iload_n 2, 1) := by decide +kernel
theorem dX6_rows_86 : decode cX6_rows 86 = .ok (.ifCond .eq 31, 3) := by decide +kernel
theorem dX6_rows_89 : decode cX6_rows 89 = .ok (.aload_n 0, 1) := by decide +kernel
theorem dX6_rows_90 : decode cX6_rows 90 = .ok (.aload_n 0, 1) := by decide +kernel
theorem dX6_rows_91 : decode cX6_rows 91 = .ok (.getfield 102, 3) := by decide +kernel
theorem dX6_rows_94 : decode cX6_rows 94 = .ok (.iconst 2, 1) := by decide +kernel
theorem dX6_rows_95 : decode cX6_rows 95 = .ok (.iadd, 1) := by decide +kernel
theorem dX6_rows_96 : decode cX6_rows 96 = .ok (.invokevirtual 63, 3) := by decide +kernel
theorem dX6_rows_99 : decode cX6_rows 99 = .ok (.sipush 256, 3) := by decide +kernel
theorem dX6_rows_102 : decode cX6_rows 102 = .ok (.aload_n 0, 1) := by decide +kernel
theorem dX6_rows_103 : decode cX6_rows 103 = .ok (.aload_n 0, 1) := by decide +kernel
theorem dX6_rows_104 : decode cX6_rows 104 = .ok (.getfield 102, 3) := by decide +kernel
theorem dX6_rows_107 : decode cX6_rows 107 = .ok (.iconst 3, 1) := by decide +kernel
theorem dX6_rows_108 : decode cX6_rows 108 = .ok (.iadd, 1) := by decide +kernel
theorem dX6_rows_109 : decode cX6_rows 109 = .ok (.invokevirtual 63, 3) := by decide +kernel
theorem dX6_rows_112 : decode cX6_rows 112 = .ok (.imul, 1) := by decide +kernel
theorem dX6_rows_113 : decode cX6_rows 113 = .ok (.iadd, 1) := by decide +kernel
theorem dX6_rows_114 : decode cX6_rows 114 = .ok (.goto 28, 3) := by decide +kernel
theorem dX6_rows_117 : decode cX6_rows 117 = .ok (.sipush 256, 3) := by decide +kernel
theorem dX6_rows_120 : decode cX6_rows 120 = .ok (.aload_n 0, 1) := by decide +kernel
theorem dX6_rows_121 : decode cX6_rows 121 = .ok (.aload_n 0, 1) := by decide +kernel
theorem dX6_rows_122 : decode cX6_rows 122 = .ok (.getfield 102, 3) := by decide +kernel
theorem dX6_rows_125 : decode cX6_rows 125 = .ok (.iconst 2, 1) := by decide +kernel
theorem dX6_rows_126 : decode cX6_rows 126 = .ok (.iadd, 1) := by decide +kernel
theorem dX6_rows_127 : decode cX6_rows 127 = .ok (.invokevirtual 63, 3) := by decide +kernel
theorem dX6_rows_130 : decode cX6_rows 130 = .ok (.imul, 1) := by decide +kernel
theorem dX6_rows_131 : decode cX6_rows 131 = .ok (.aload_n 0, 1) := by decide +kernel
theorem dX6_rows_132 : decode cX6_rows 132 = .ok (.aload_n 0, 1) := by decide +kernel
theorem dX6_rows_133 : decode cX6_rows 133 = .ok (.getfield 102, 3) := by decide +kernel
theorem dX6_rows_136 : decode cX6_rows 136 = .ok (.iconst 3, 1) := by decide +kernel
theorem dX6_rows_137 : decode cX6_rows 137 = .ok (.iadd, 1) := by decide +kernel
theorem dX6_rows_138 : decode cX6_rows 138 = .ok (.invokevirtual 63, 3) := by decide +kernel
theorem dX6_rows_141 : decode cX6_rows 141 = .ok (.iadd, 1) := by decide +kernel
theorem dX6_rows_142 : decode cX6_rows 142 = .ok (.istore 4, 2) := by decide +kernel
theorem dX6_rows_144 : decode cX6_rows 144 = .ok (.iload_n 3, 1) := by decide +kernel
theorem dX6_rows_145 : decode cX6_rows 145 = .ok (.bipush 32, 2) := by decide +kernel
theorem dX6_rows_147 : decode cX6_rows 147 = .ok (.if_icmp .lt 9, 3) := by decide +kernel
theorem dX6_rows_150 : decode cX6_rows 150 = .ok (.iload_n 3, 1) := by decide +kernel
theorem dX6_rows_151 : decode cX6_rows 151 = .ok (.bipush 48, 2) := by decide +kernel
theorem dX6_rows_153 : decode cX6_rows 153 = .ok (.if_icmp .ne 7, 3) := by decide +kernel
theorem dX6_rows_156 : decode cX6_rows 156 = .ok (.iconst 4, 1) := by decide +kernel
theorem dX6_rows_157 : decode cX6_rows 157 = .ok (.goto 4, 3) := by decide +kernel
theorem dX6_rows_160 : decode cX6_rows 160 = .ok (.iconst 2, 1) := by decide +kernel
theorem dX6_rows_161 : decode cX6_rows 161 = .ok (.istore 5, 2) := by decide +kernel
theorem dX6_rows_163 : decode cX6_rows 163 = .ok (.aload_n 0, 1) := by decide +kernel
theorem dX6_rows_164 : decode cX6_rows 164 = .ok (.iconst 4, 1) := by decide +kernel
theorem dX6_rows_165 : decode cX6_rows 165 = .ok (.iload 5, 2) := by decide +kernel
theorem dX6_rows_167 : decode cX6_rows 167 = .ok (.iload 4, 2) := by decide +kernel
theorem dX6_rows_169 : decode cX6_rows 169 = .ok (.imul, 1) := by decide +kernel
theorem dX6_rows_170 : decode cX6_rows 170 = .ok (.iadd, 1) := by decide +kernel
theorem dX6_rows_171 : decode cX6_rows 171 = .ok (.invokevirtual 180, 3) := by decide +kernel
theorem dX6_rows_174 : decode cX6_rows 174 = .ok (.ifCond .ne 8, 3) := by decide +kernel
theorem dX6_rows_177 : decode cX6_rows 177 = .ok (.aload_n 0, 1) := by decide +kernel
theorem dX6_rows_178 : decode cX6_rows 178 = .ok (.invokevirtual 132, 3) := by decide +kernel
theorem dX6_rows_181 : decode cX6_rows 181 = .ok (.ireturn, 1) := by decide +kernel
theorem dX6_rows_182 : decode cX6_rows 182 = .ok (.aload_n 0, 1) := by decide +kernel
theorem dX6_rows_183 : decode cX6_rows 183 = .ok (.iload_n 3, 1) := by decide +kernel
theorem dX6_rows_184 : decode cX6_rows 184 = .ok (.ifCond .eq 13, 3) := by decide +kernel
theorem dX6_rows_187 : decode cX6_rows 187 = .ok (.iload_n 3, 1) := by decide +kernel
theorem dX6_rows_188 : decode cX6_rows 188 = .ok (.bipush 32, 2) := by decide +kernel
theorem dX6_rows_190 : decode cX6_rows 190 = .ok (.if_icmp .eq 7, 3) := by decide +kernel
theorem dX6_rows_193 : decode cX6_rows 193 = .ok (.iconst 1, 1) := by decide +kernel
theorem dX6_rows_194 : decode cX6_rows 194 = .ok (.goto 4, 3) := by decide +kernel
theorem dX6_rows_197 : decode cX6_rows 197 = .ok (.iconst 0, 1) := by decide +kernel
theorem dX6_rows_198 : decode cX6_rows 198 = .ok (.putfield 183, 3) := by decide +kernel
theorem dX6_rows_201 : decode cX6_rows 201 = .ok (.iconst 0, 1) := by decide +kernel
theorem dX6_rows_202 : decode cX6_rows 202 = .ok (.istore 6, 2) := by decide +kernel
theorem dX6_rows_204 : decode cX6_rows 204 = .ok (.iload 6, 2) := by decide +kernel
theorem dX6_rows_206 : decode cX6_rows 206 = .ok (.iload 4, 2) := by decide +kernel
theorem dX6_rows_208 : decode cX6_rows 208 = .ok (.if_icmp .ge 115, 3) := by decide +kernel
theorem dX6_rows_211 : decode cX6_rows 211 = .ok (.iload 6, 2) := by decide +kernel
theorem dX6_rows_213 : decode cX6_rows 213 = .ok (.bipush 60, 2) := by decide +kernel
theorem dX6_rows_215 : decode cX6_rows 215 = .ok (.if_icmp .ge 108, 3) := by decide +kernel
theorem dX6_rows_218 : decode cX6_rows 218 = .ok (.aload_n 0, 1) := by decide +kernel
theorem dX6_rows_219 : decode cX6_rows 219 = .ok (.getfield 102, 3) := by decide +kernel
theorem dX6_rows_222 : decode cX6_rows 222 = .ok (.iconst 4, 1) := by decide +kernel
theorem dX6_rows_223 : decode cX6_rows 223 = .ok (.iadd, 1) := by decide +kernel
theorem dX6_rows_224 : decode cX6_rows 224 = .ok (.iload 5, 2) := by decide +kernel
theorem dX6_rows_226 : decode cX6_rows 226 = .ok (.iload 6, 2) := by decide +kernel
theorem dX6_rows_228 : decode cX6_rows 228 = .ok (.imul, 1) := by decide +kernel
theorem dX6_rows_229 : decode cX6_rows 229 = .ok (.iadd, 1) := by decide +kernel
theorem dX6_rows_230 : decode cX6_rows 230 = .ok (.istore 7, 2) := by decide +kernel
theorem dX6_rows_232 : decode cX6_rows 232 = .ok (.iload_n 3, 1) := by decide +kernel
theorem dX6_rows_233 : decode cX6_rows 233 = .ok (.bipush 48, 2) := by decide +kernel
theorem dX6_rows_235 : decode cX6_rows 235 = .ok (.if_icmp .ne 20, 3) := by decide +kernel
theorem dX6_rows_238 : decode cX6_rows 238 = .ok (.aload_n 0, 1) := by decide +kernel
theorem dX6_rows_239 : decode cX6_rows 239 = .ok (.getfield 37, 3) := by decide +kernel
theorem dX6_rows_242 : decode cX6_rows 242 = .ok (.iload 6, 2) := by decide +kernel
theorem dX6_rows_244 : decode cX6_rows 244 = .ok (.aload_n 0, 1) := by decide +kernel
theorem dX6_rows_245 : decode cX6_rows 245 = .ok (.iload 7, 2) := by decide +kernel
theorem dX6_rows_247 : decode cX6_rows 247 = .ok (.iload_n 2, 1) := by decide +kernel
theorem dX6_rows_248 : decode cX6_rows 248 = .ok (.invokevirtual 186, 3) := by decide +kernel
theorem dX6_rows_251 : decode cX6_rows 251 = .ok (.dastore, 1) := by decide +kernel
theorem dX6_rows_252 : decode cX6_rows 252 = .ok (.goto 65, 3) := by decide +kernel
theorem dX6_rows_255 : decode cX6_rows 255 = .ok (.aload_n 0, 1) := by decide +kernel
theorem dX6_rows_256 : decode cX6_rows 256 = .ok (.getfield 183, 3) := by decide +kernel
theorem dX6_rows_259 : decode cX6_rows 259 = .ok (.ifCond .eq 41, 3) := by decide +kernel
theorem dX6_rows_262 : decode cX6_rows 262 = .ok (.aload_n 0, 1) := by decide +kernel
theorem dX6_rows_263 : decode cX6_rows 263 = .ok (.getfield 37, 3) := by decide +kernel
theorem dX6_rows_266 : decode cX6_rows 266 = .ok (.iload 6, 2) := by decide +kernel
theorem dX6_rows_268 : decode cX6_rows 268 = .ok (.aload_n 0, 1) := by decide +kernel
theorem dX6_rows_269 : decode cX6_rows 269 = .ok (.iload 7, 2) := by decide +kernel
theorem dX6_rows_271 : decode cX6_rows 271 = .ok (.iload 5, 2) := by decide +kernel
theorem dX6_rows_273 : decode cX6_rows 273 = .ok (.iload_n 2, 1) := by decide +kernel
theorem dX6_rows_274 : decode cX6_rows 274 = .ok (.invokevirtual 165, 3) := by decide +kernel
theorem dX6_rows_277 : decode cX6_rows 277 = .ok (.l2d, 1) := by decide +kernel
theorem dX6_rows_278 : decode cX6_rows 278 = .ok (.iload_n 3, 1) := by decide +kernel
theorem dX6_rows_279 : decode cX6_rows 279 = .ok (.bipush 32, 2) := by decide +kernel
theorem dX6_rows_281 : decode cX6_rows 281 = .ok (.if_icmp .ge 7, 3) := by decide +kernel
theorem dX6_rows_284 : decode cX6_rows 284 = .ok (.iload_n 3, 1) := by decide +kernel
theorem dX6_rows_285 : decode cX6_rows 285 = .ok (.goto 7, 3) := by decide +kernel
theorem dX6_rows_288 : decode cX6_rows 288 = .ok (.iload_n 3, 1) := by decide +kernel
theorem dX6_rows_289 : decode cX6_rows 289 = .ok (.bipush 32, 2) := by decide +kernel
theorem dX6_rows_291 : decode cX6_rows 291 = .ok (.isub, 1) := by decide +kernel
theorem dX6_rows_292 : decode cX6_rows 292 = .ok (.invokestatic 174, 3) := by decide +kernel
theorem dX6_rows_295 : decode cX6_rows 295 = .ok (.ddiv, 1) := by decide +kernel
theorem dX6_rows_296 : decode cX6_rows 296 = .ok (.dastore, 1) := by decide +kernel
theorem dX6_rows_297 : decode cX6_rows 297 = .ok (.goto 20, 3) := by decide +kernel
theorem dX6_rows_300 : decode cX6_rows 300 = .ok (.aload_n 0, 1) := by decide +kernel
theorem dX6_rows_301 : decode cX6_rows 301 = .ok (.getfield 34, 3) := by decide +kernel
theorem dX6_rows_304 : decode cX6_rows 304 = .ok (.iload 6, 2) := by decide +kernel
theorem dX6_rows_306 : decode cX6_rows 306 = .ok (.aload_n 0, 1) := by decide +kernel
theorem dX6_rows_307 : decode cX6_rows 307 = .ok (.iload 7, 2) := by decide +kernel
theorem dX6_rows_309 : decode cX6_rows 309 = .ok (.iload 5, 2) := by decide +kernel
theorem dX6_rows_311 : decode cX6_rows 311 = .ok (.iload_n 2, 1) := by decide +kernel
theorem dX6_rows_312 : decode cX6_rows 312 = .ok (.invokevirtual 165, 3) := by decide +kernel
theorem dX6_rows_315 : decode cX6_rows 315 = .ok (.l2i, 1) := by decide +kernel
theorem dX6_rows_316 : decode cX6_rows 316 = .ok (.iastore, 1) := by decide +kernel
theorem dX6_rows_317 : decode cX6_rows 317 = .ok (.iinc 6 1, 3) := by decide +kernel
theorem dX6_rows_320 : decode cX6_rows 320 = .ok (.goto (-116), 3) := by decide +kernel
theorem dX6_rows_323 : decode cX6_rows 323 = .ok (.aload_n 0, 1) := by decide +kernel
theorem dX6_rows_324 : decode cX6_rows 324 = .ok (.iload 4, 2) := by decide +kernel
theorem dX6_rows_326 : decode cX6_rows 326 = .ok (.putfield 190, 3) := by decide +kernel
theorem dX6_rows_329 : decode cX6_rows 329 = .ok (.aload_n 0, 1) := by decide +kernel
theorem dX6_rows_330 : decode cX6_rows 330 = .ok (.iload 4, 2) := by decide +kernel
theorem dX6_rows_332 : decode cX6_rows 332 = .ok (.i2l, 1) := by decide +kernel
theorem dX6_rows_333 : decode cX6_rows 333 = .ok (.putfield 77, 3) := by decide +kernel
theorem dX6_rows_336 : decode cX6_rows 336 = .ok (.aload_n 0, 1) := by decide +kernel
theorem dX6_rows_337 : decode cX6_rows 337 = .ok (.aload_n 0, 1) := by decide +kernel
theorem dX6_rows_338 : decode cX6_rows 338 = .ok (.getfield 102, 3) := by decide +kernel
theorem dX6_rows_341 : decode cX6_rows 341 = .ok (.iconst 4, 1) := by decide +kernel
theorem dX6_rows_342 : decode cX6_rows 342 = .ok (.iadd, 1) := by decide +kernel
theorem dX6_rows_343 : decode cX6_rows 343 = .ok (.iload 5, 2) := by decide +kernel
theorem dX6_rows_345 : decode cX6_rows 345 = .ok (.iload 4, 2) := by decide +kernel
theorem dX6_rows_347 : decode cX6_rows 347 = .ok (.imul, 1) := by decide +kernel
theorem dX6_rows_348 : decode cX6_rows 348 = .ok (.iadd, 1) := by decide +kernel
theorem dX6_rows_349 : decode cX6_rows 349 = .ok (.putfield 102, 3) := by decide +kernel
theorem dX6_rows_352 : decode cX6_rows 352 = .ok (.iload 4, 2) := by decide +kernel
theorem dX6_rows_354 : decode cX6_rows 354 = .ok (.bipush 60, 2) := by decide +kernel
theorem dX6_rows_356 : decode cX6_rows 356 = .ok (.if_icmp .le 8, 3) := by decide +kernel
theorem dX6_rows_359 : decode cX6_rows 359 = .ok (.bipush (-2), 2) := by decide +kernel
theorem dX6_rows_361 : decode cX6_rows 361 = .ok (.goto 17, 3) := by decide +kernel
theorem dX6_rows_364 : decode cX6_rows 364 = .ok (.aload_n 0, 1) := by decide +kernel
theorem dX6_rows_365 : decode cX6_rows 365 = .ok (.getfield 171, 3) := by decide +kernel
theorem dX6_rows_368 : decode cX6_rows 368 = .ok (.ifCond .eq 8, 3) := by decide +kernel
theorem dX6_rows_371 : decode cX6_rows 371 = .ok (.bipush (-6), 2) := by decide +kernel
theorem dX6_rows_373 : decode cX6_rows 373 = .ok (.goto 5, 3) := by decide +kernel
theorem dX6_rows_376 : decode cX6_rows 376 = .ok (.bipush 16, 2) := by decide +kernel
theorem dX6_rows_378 : decode cX6_rows 378 = .ok (.ireturn, 1) := by decide +kernel
theorem dX6_one_0 : decode cX6_one 0 = .ok (.aload_n 0, 1) := by decide +kernel
theorem dX6_one_1 : decode cX6_one 1 = .ok (.iconst 2, 1) := by decide +kernel
theorem dX6_one_2 : decode cX6_one 2 = .ok (.invokevirtual 180, 3) := by decide +kernel
theorem dX6_one_5 : decode cX6_one 5 = .ok (.ifCond .ne 8, 3) := by decide +kernel
theorem dX6_one_8 : decode cX6_one 8 = .ok (.aload_n 0, 1) := by decide +kernel
theorem dX6_one_9 : decode cX6_one 9 = .ok (.invokevirtual 132, 3) := by decide +kernel
theorem dX6_one_12 : decode cX6_one 12 = .ok (.ireturn, 1) := by decide +kernel
theorem dX6_one_13 : decode cX6_one 13 = .ok (.aload_n 0, 1) := by decide +kernel
theorem dX6_one_14 : decode cX6_one 14 = .ok (.aload_n 0, 1) := by decide +kernel
theorem dX6_one_15 : decode cX6_one 15 = .ok (.aload_n 0, 1) := by decide +kernel
theorem dX6_one_16 : decode cX6_one 16 = .ok (.getfield 102, 3) := by decide +kernel
theorem dX6_one_19 : decode cX6_one 19 = .ok (.iconst 1, 1) := by decide +kernel
theorem dX6_one_20 : decode cX6_one 20 = .ok (.iadd, 1) := by decide +kernel
theorem dX6_one_21 : decode cX6_one 21 = .ok (.invokevirtual 63, 3) := by decide +kernel
theorem dX6_one_24 : decode cX6_one 24 = .ok (.i2l, 1) := by decide +kernel
theorem dX6_one_25 : decode cX6_one 25 = .ok (.putfield 77, 3) := by decide +kernel
theorem dX6_one_28 : decode cX6_one 28 = .ok (.iload_n 2, 1) := by decide +kernel
theorem dX6_one_29 : decode cX6_one 29 = .ok (.ifCond .eq 28, 3) := by decide +kernel
theorem dX6_one_32 : decode cX6_one 32 = .ok (.aload_n 0, 1) := by decide +kernel
theorem dX6_one_33 : decode cX6_one 33 = .ok (.getfield 77, 3) := by decide +kernel
theorem dX6_one_36 : decode cX6_one 36 = .ok (.lconst 1, 1) := by decide +kernel
theorem dX6_one_37 : decode cX6_one 37 = .ok (.lcmp, 1) := by decide +kernel
theorem dX6_one_38 : decode cX6_one 38 = .ok (.ifCond .le 19, 3) := by decide +kernel
theorem dX6_one_41 : decode cX6_one 41 = .ok (.aload_n 0, 1) := by decide +kernel
theorem dX6_one_42 : decode cX6_one 42 = .ok (.dup, 1) := by decide +kernel
theorem dX6_one_43 : decode cX6_one 43 = .ok (.getfield 102, 3) := by decide +kernel
theorem dX6_one_46 : decode cX6_one 46 = .ok (.iconst 1, 1) := by decide +kernel
theorem dX6_one_47 : decode cX6_one 47 = .ok (.iadd, 1) := by decide +kernel
theorem dX6_one_48 : decode cX6_one 48 = .ok (.putfield 102, 3) := by decide +kernel
theorem dX6_one_51 : decode cX6_one 51 = .ok (.aload_n 0, 1) := by decide +kernel
theorem dX6_one_52 : decode cX6_one 52 = .ok (.iconst 4, 1) := by decide +kernel
theorem dX6_one_53 : decode cX6_one 53 = .ok (.invokevirtual 138, 3) := by decide +kernel
theorem dX6_one_56 : decode cX6_one 56 = .ok (.ireturn, 1) := by decide +kernel
theorem dX6_one_57 : decode cX6_one 57 = .ok (.aload_n 0, 1) := by decide +kernel
theorem dX6_one_58 : decode cX6_one 58 = .ok (.aload_n 0, 1) := by decide +kernel
theorem dX6_one_59 : decode cX6_one 59 = .ok (.getfield 102, 3) := by decide +kernel
theorem dX6_one_62 : decode cX6_one 62 = .ok (.iconst 2, 1) := by decide +kernel
theorem dX6_one_63 : decode cX6_one 63 = .ok (.iadd, 1) := by decide +kernel
theorem dX6_one_64 : decode cX6_one 64 = .ok (.putfield 102, 3) := by decide +kernel
theorem dX6_one_67 : decode cX6_one 67 = .ok (.iload_n 1, 1) := by decide +kernel
theorem dX6_one_68 : decode cX6_one 68 = .ok (.ireturn, 1) := by decide +kernel
theorem dX6_binaryToken_0 : decode cX6_binaryToken 0 = .ok (.iload_n 1, 1) := by decide +kernel
theorem dX6_binaryToken_1 : decode cX6_binaryToken 1 = .ok (.sipush 132, 3) := by decide +kernel
theorem dX6_binaryToken_4 : decode cX6_binaryToken 4 = .ok (.if_icmp .eq 10, 3) := by decide +kernel
theorem dX6_binaryToken_7 : decode cX6_binaryToken 7 = .ok (.iload_n 1, 1) := by decide +kernel
theorem dX6_binaryToken_8 : decode cX6_binaryToken 8 = .ok (.sipush 133, 3) := by decide +kernel
theorem dX6_binaryToken_11 : decode cX6_binaryToken 11 = .ok (.if_icmp .ne 24, 3) := by decide +kernel
theorem dX6_binaryToken_14 : decode cX6_binaryToken 14 = .ok (.aload_n 0, 1) := by decide +kernel
theorem dX6_binaryToken_15 : decode cX6_binaryToken 15 = .ok (.iconst 4, 1) := by decide +kernel
theorem dX6_binaryToken_16 : decode cX6_binaryToken 16 = .ok (.iload_n 1, 1) := by decide +kernel
theorem dX6_binaryToken_17 : decode cX6_binaryToken 17 = .ok (.sipush 133, 3) := by decide +kernel
theorem dX6_binaryToken_20 : decode cX6_binaryToken 20 = .ok (.if_icmp .ne 7, 3) := by decide +kernel
theorem dX6_binaryToken_23 : decode cX6_binaryToken 23 = .ok (.iconst 1, 1) := by decide +kernel
theorem dX6_binaryToken_24 : decode cX6_binaryToken 24 = .ok (.goto 4, 3) := by decide +kernel
theorem dX6_binaryToken_27 : decode cX6_binaryToken 27 = .ok (.iconst 0, 1) := by decide +kernel
theorem dX6_binaryToken_28 : decode cX6_binaryToken 28 = .ok (.invokevirtual 193, 3) := by decide +kernel
theorem dX6_binaryToken_31 : decode cX6_binaryToken 31 = .ok (.invokestatic 197, 3) := by decide +kernel
theorem dX6_binaryToken_34 : decode cX6_binaryToken 34 = .ok (.ireturn, 1) := by decide +kernel
theorem dX6_binaryToken_35 : decode cX6_binaryToken 35 = .ok (.iload_n 1, 1) := by decide +kernel
theorem dX6_binaryToken_36 : decode cX6_binaryToken 36 = .ok (.sipush 134, 3) := by decide +kernel
theorem dX6_binaryToken_39 : decode cX6_binaryToken 39 = .ok (.if_icmp .eq 10, 3) := by decide +kernel
theorem dX6_binaryToken_42 : decode cX6_binaryToken 42 = .ok (.iload_n 1, 1) := by decide +kernel
theorem dX6_binaryToken_43 : decode cX6_binaryToken 43 = .ok (.sipush 135, 3) := by decide +kernel
theorem dX6_binaryToken_46 : decode cX6_binaryToken 46 = .ok (.if_icmp .ne 24, 3) := by decide +kernel
theorem dX6_binaryToken_49 : decode cX6_binaryToken 49 = .ok (.aload_n 0, 1) := by decide +kernel
theorem dX6_binaryToken_50 : decode cX6_binaryToken 50 = .ok (.iconst 2, 1) := by decide +kernel
theorem dX6_binaryToken_51 : decode cX6_binaryToken 51 = .ok (.iload_n 1, 1) := by decide +kernel
theorem dX6_binaryToken_52 : decode cX6_binaryToken 52 = .ok (.sipush 135, 3) := by decide +kernel
theorem dX6_binaryToken_55 : decode cX6_binaryToken 55 = .ok (.if_icmp .ne 7, 3) := by decide +kernel
theorem dX6_binaryToken_58 : decode cX6_binaryToken 58 = .ok (.iconst 1, 1) := by decide +kernel
theorem dX6_binaryToken_59 : decode cX6_binaryToken 59 = .ok (.goto 4, 3) := by decide +kernel
theorem dX6_binaryToken_62 : decode cX6_binaryToken 62 = .ok (.iconst 0, 1) := by decide +kernel
theorem dX6_binaryToken_63 : decode cX6_binaryToken 63 = .ok (.invokevirtual 193, 3) := by decide +kernel
theorem dX6_binaryToken_66 : decode cX6_binaryToken 66 = .ok (.invokestatic 197, 3) := by decide +kernel
theorem dX6_binaryToken_69 : decode cX6_binaryToken 69 = .ok (.ireturn, 1) := by decide +kernel
theorem dX6_binaryToken_70 : decode cX6_binaryToken 70 = .ok (.iload_n 1, 1) := by decide +kernel
theorem dX6_binaryToken_71 : decode cX6_binaryToken 71 = .ok (.sipush 136, 3) := by decide +kernel
theorem dX6_binaryToken_74 : decode cX6_binaryToken 74 = .ok (.if_icmp .ne 13, 3) := by decide +kernel
theorem dX6_binaryToken_77 : decode cX6_binaryToken 77 = .ok (.aload_n 0, 1) := by decide +kernel
theorem dX6_binaryToken_78 : decode cX6_binaryToken 78 = .ok (.iconst 1, 1) := by decide +kernel
theorem dX6_binaryToken_79 : decode cX6_binaryToken 79 = .ok (.iconst 0, 1) := by decide +kernel
theorem dX6_binaryToken_80 : decode cX6_binaryToken 80 = .ok (.invokevirtual 193, 3) := by decide +kernel
theorem dX6_binaryToken_83 : decode cX6_binaryToken 83 = .ok (.invokestatic 197, 3) := by decide +kernel
theorem dX6_binaryToken_86 : decode cX6_binaryToken 86 = .ok (.ireturn, 1) := by decide +kernel
theorem dX6_binaryToken_87 : decode cX6_binaryToken 87 = .ok (.iload_n 1, 1) := by decide +kernel
theorem dX6_binaryToken_88 : decode cX6_binaryToken 88 = .ok (.sipush 137, 3) := by decide +kernel
theorem dX6_binaryToken_91 : decode cX6_binaryToken 91 = .ok (.if_icmp .ne 8, 3) := by decide +kernel
theorem dX6_binaryToken_94 : decode cX6_binaryToken 94 = .ok (.aload_n 0, 1) := by decide +kernel
theorem dX6_binaryToken_95 : decode cX6_binaryToken 95 = .ok (.invokevirtual 200, 3) := by decide +kernel
theorem dX6_binaryToken_98 : decode cX6_binaryToken 98 = .ok (.ireturn, 1) := by decide +kernel
theorem dX6_binaryToken_99 : decode cX6_binaryToken 99 = .ok (.iload_n 1, 1) := by decide +kernel
theorem dX6_binaryToken_100 : decode cX6_binaryToken 100 = .ok (.sipush 138, 3) := by decide +kernel
theorem dX6_binaryToken_103 : decode cX6_binaryToken 103 = .ok (.if_icmp .eq 10, 3) := by decide +kernel
theorem dX6_binaryToken_106 : decode cX6_binaryToken 106 = .ok (.iload_n 1, 1) := by decide +kernel
theorem dX6_binaryToken_107 : decode cX6_binaryToken 107 = .ok (.sipush 139, 3) := by decide +kernel
theorem dX6_binaryToken_110 : decode cX6_binaryToken 110 = .ok (.if_icmp .ne 66, 3) := by decide +kernel
theorem dX6_binaryToken_113 : decode cX6_binaryToken 113 = .ok (.aload_n 0, 1) := by decide +kernel
theorem dX6_binaryToken_114 : decode cX6_binaryToken 114 = .ok (.iconst 5, 1) := by decide +kernel
theorem dX6_binaryToken_115 : decode cX6_binaryToken 115 = .ok (.invokevirtual 180, 3) := by decide +kernel
theorem dX6_binaryToken_118 : decode cX6_binaryToken 118 = .ok (.ifCond .ne 8, 3) := by decide +kernel
theorem dX6_binaryToken_121 : decode cX6_binaryToken 121 = .ok (.aload_n 0, 1) := by decide +kernel
theorem dX6_binaryToken_122 : decode cX6_binaryToken 122 = .ok (.invokevirtual 132, 3) := by decide +kernel
theorem dX6_binaryToken_125 : decode cX6_binaryToken 125 = .ok (.ireturn, 1) := by decide +kernel
theorem dX6_binaryToken_126 : decode cX6_binaryToken 126 = .ok (.aload_n 0, 1) := by decide +kernel
theorem dX6_binaryToken_127 : decode cX6_binaryToken 127 = .ok (.aload_n 0, 1) := by decide +kernel
theorem dX6_binaryToken_128 : decode cX6_binaryToken 128 = .ok (.aload_n 0, 1) := by decide +kernel
theorem dX6_binaryToken_129 : decode cX6_binaryToken 129 = .ok (.getfield 102, 3) := by decide +kernel
theorem dX6_binaryToken_132 : decode cX6_binaryToken 132 = .ok (.iconst 1, 1) := by decide +kernel
theorem dX6_binaryToken_133 : decode cX6_binaryToken 133 = .ok (.iadd, 1) := by decide +kernel
theorem dX6_binaryToken_134 : decode cX6_binaryToken 134 = .ok (.iload_n 1, 1) := by decide +kernel
theorem dX6_binaryToken_135 : decode cX6_binaryToken 135 = .ok (.sipush 139, 3) := by decide +kernel
theorem dX6_binaryToken_138 : decode cX6_binaryToken 138 = .ok (.if_icmp .ne 7, 3) := by decide +kernel
theorem dX6_binaryToken_141 : decode cX6_binaryToken 141 = .ok (.iconst 1, 1) := by decide +kernel
theorem dX6_binaryToken_142 : decode cX6_binaryToken 142 = .ok (.goto 4, 3) := by decide +kernel
theorem dX6_binaryToken_145 : decode cX6_binaryToken 145 = .ok (.iconst 0, 1) := by decide +kernel
theorem dX6_binaryToken_146 : decode cX6_binaryToken 146 = .ok (.invokevirtual 186, 3) := by decide +kernel
theorem dX6_binaryToken_149 : decode cX6_binaryToken 149 = .ok (.putfield 93, 3) := by decide +kernel
theorem dX6_binaryToken_152 : decode cX6_binaryToken 152 = .ok (.aload_n 0, 1) := by decide +kernel
theorem dX6_binaryToken_153 : decode cX6_binaryToken 153 = .ok (.aload_n 0, 1) := by decide +kernel
theorem dX6_binaryToken_154 : decode cX6_binaryToken 154 = .ok (.getfield 102, 3) := by decide +kernel
theorem dX6_binaryToken_157 : decode cX6_binaryToken 157 = .ok (.iconst 5, 1) := by decide +kernel
theorem dX6_binaryToken_158 : decode cX6_binaryToken 158 = .ok (.iadd, 1) := by decide +kernel
theorem dX6_binaryToken_159 : decode cX6_binaryToken 159 = .ok (.putfield 102, 3) := by decide +kernel
theorem dX6_binaryToken_162 : decode cX6_binaryToken 162 = .ok (.aload_n 0, 1) := by decide +kernel
theorem dX6_binaryToken_163 : decode cX6_binaryToken 163 = .ok (.getfield 171, 3) := by decide +kernel
theorem dX6_binaryToken_166 : decode cX6_binaryToken 166 = .ok (.ifCond .eq 8, 3) := by decide +kernel
theorem dX6_binaryToken_169 : decode cX6_binaryToken 169 = .ok (.bipush (-6), 2) := by decide +kernel
theorem dX6_binaryToken_171 : decode cX6_binaryToken 171 = .ok (.goto 4, 3) := by decide +kernel
theorem dX6_binaryToken_174 : decode cX6_binaryToken 174 = .ok (.iconst 2, 1) := by decide +kernel
theorem dX6_binaryToken_175 : decode cX6_binaryToken 175 = .ok (.ireturn, 1) := by decide +kernel
theorem dX6_binaryToken_176 : decode cX6_binaryToken 176 = .ok (.iload_n 1, 1) := by decide +kernel
theorem dX6_binaryToken_177 : decode cX6_binaryToken 177 = .ok (.sipush 141, 3) := by decide +kernel
theorem dX6_binaryToken_180 : decode cX6_binaryToken 180 = .ok (.if_icmp .ne 11, 3) := by decide +kernel
theorem dX6_binaryToken_183 : decode cX6_binaryToken 183 = .ok (.aload_n 0, 1) := by decide +kernel
theorem dX6_binaryToken_184 : decode cX6_binaryToken 184 = .ok (.bipush 13, 2) := by decide +kernel
theorem dX6_binaryToken_186 : decode cX6_binaryToken 186 = .ok (.iconst 1, 1) := by decide +kernel
theorem dX6_binaryToken_187 : decode cX6_binaryToken 187 = .ok (.invokevirtual 203, 3) := by decide +kernel
theorem dX6_binaryToken_190 : decode cX6_binaryToken 190 = .ok (.ireturn, 1) := by decide +kernel
theorem dX6_binaryToken_191 : decode cX6_binaryToken 191 = .ok (.iload_n 1, 1) := by decide +kernel
theorem dX6_binaryToken_192 : decode cX6_binaryToken 192 = .ok (.sipush 142, 3) := by decide +kernel
theorem dX6_binaryToken_195 : decode cX6_binaryToken 195 = .ok (.if_icmp .ne 10, 3) := by decide +kernel
theorem dX6_binaryToken_198 : decode cX6_binaryToken 198 = .ok (.aload_n 0, 1) := by decide +kernel
theorem dX6_binaryToken_199 : decode cX6_binaryToken 199 = .ok (.iconst 1, 1) := by decide +kernel
theorem dX6_binaryToken_200 : decode cX6_binaryToken 200 = .ok (.iconst 0, 1) := by decide +kernel
theorem dX6_binaryToken_201 : decode cX6_binaryToken 201 = .ok (.invokevirtual 206, 3) := by decide +kernel
theorem dX6_binaryToken_204 : decode cX6_binaryToken 204 = .ok (.ireturn, 1) := by decide +kernel
theorem dX6_binaryToken_205 : decode cX6_binaryToken 205 = .ok (.iload_n 1, 1) := by decide +kernel
theorem dX6_binaryToken_206 : decode cX6_binaryToken 206 = .ok (.sipush 143, 3) := by decide +kernel
theorem dX6_binaryToken_209 : decode cX6_binaryToken 209 = .ok (.if_icmp .eq 10, 3) := by decide +kernel
theorem dX6_binaryToken_212 : decode cX6_binaryToken 212 = .ok (.iload_n 1, 1) := by decide +kernel
theorem dX6_binaryToken_213 : decode cX6_binaryToken 213 = .ok (.sipush 144, 3) := by decide +kernel
theorem dX6_binaryToken_216 : decode cX6_binaryToken 216 = .ok (.if_icmp .ne 21, 3) := by decide +kernel
theorem dX6_binaryToken_219 : decode cX6_binaryToken 219 = .ok (.aload_n 0, 1) := by decide +kernel
theorem dX6_binaryToken_220 : decode cX6_binaryToken 220 = .ok (.iconst 2, 1) := by decide +kernel
theorem dX6_binaryToken_221 : decode cX6_binaryToken 221 = .ok (.iload_n 1, 1) := by decide +kernel
theorem dX6_binaryToken_222 : decode cX6_binaryToken 222 = .ok (.sipush 144, 3) := by decide +kernel
theorem dX6_binaryToken_225 : decode cX6_binaryToken 225 = .ok (.if_icmp .ne 7, 3) := by decide +kernel
theorem dX6_binaryToken_228 : decode cX6_binaryToken 228 = .ok (.iconst 1, 1) := by decide +kernel
theorem dX6_binaryToken_229 : decode cX6_binaryToken 229 = .ok (.goto 4, 3) := by decide +kernel
theorem dX6_binaryToken_232 : decode cX6_binaryToken 232 = .ok (.iconst 0, 1) := by decide +kernel
theorem dX6_binaryToken_233 : decode cX6_binaryToken 233 = .ok (.invokevirtual 206, 3) := by decide +kernel
theorem dX6_binaryToken_236 : decode cX6_binaryToken 236 = .ok (.ireturn, 1) := by decide +kernel
theorem dX6_binaryToken_237 : decode cX6_binaryToken 237 = .ok (.iload_n 1, 1) := by decide +kernel
theorem dX6_binaryToken_238 : decode cX6_binaryToken 238 = .ok (.sipush 145, 3) := by decide +kernel
theorem dX6_binaryToken_241 : decode cX6_binaryToken 241 = .ok (.if_icmp .eq 10, 3) := by decide +kernel
theorem dX6_binaryToken_244 : decode cX6_binaryToken 244 = .ok (.iload_n 1, 1) := by decide +kernel
theorem dX6_binaryToken_245 : decode cX6_binaryToken 245 = .ok (.sipush 146, 3) := by decide +kernel
theorem dX6_binaryToken_248 : decode cX6_binaryToken 248 = .ok (.if_icmp .ne 14, 3) := by decide +kernel
theorem dX6_binaryToken_251 : decode cX6_binaryToken 251 = .ok (.aload_n 0, 1) := by decide +kernel
theorem dX6_binaryToken_252 : decode cX6_binaryToken 252 = .ok (.iload_n 1, 1) := by decide +kernel
theorem dX6_binaryToken_253 : decode cX6_binaryToken 253 = .ok (.sipush 131, 3) := by decide +kernel
theorem dX6_binaryToken_256 : decode cX6_binaryToken 256 = .ok (.isub, 1) := by decide +kernel
theorem dX6_binaryToken_257 : decode cX6_binaryToken 257 = .ok (.iconst 0, 1) := by decide +kernel
theorem dX6_binaryToken_258 : decode cX6_binaryToken 258 = .ok (.invokevirtual 203, 3) := by decide +kernel
theorem dX6_binaryToken_261 : decode cX6_binaryToken 261 = .ok (.ireturn, 1) := by decide +kernel
theorem dX6_binaryToken_262 : decode cX6_binaryToken 262 = .ok (.iload_n 1, 1) := by decide +kernel
theorem dX6_binaryToken_263 : decode cX6_binaryToken 263 = .ok (.sipush 149, 3) := by decide +kernel
theorem dX6_binaryToken_266 : decode cX6_binaryToken 266 = .ok (.if_icmp .ne 10, 3) := by decide +kernel
theorem dX6_binaryToken_269 : decode cX6_binaryToken 269 = .ok (.aload_n 0, 1) := by decide +kernel
theorem dX6_binaryToken_270 : decode cX6_binaryToken 270 = .ok (.invokevirtual 209, 3) := by decide +kernel
theorem dX6_binaryToken_273 : decode cX6_binaryToken 273 = .ok (.goto 8, 3) := by decide +kernel
theorem dX6_binaryToken_276 : decode cX6_binaryToken 276 = .ok (.aload_n 0, 1) := by decide +kernel
theorem dX6_binaryToken_277 : decode cX6_binaryToken 277 = .ok (.iconst 4, 1) := by decide +kernel
theorem dX6_binaryToken_278 : decode cX6_binaryToken 278 = .ok (.invokevirtual 138, 3) := by decide +kernel
theorem dX6_binaryToken_281 : decode cX6_binaryToken 281 = .ok (.ireturn, 1) := by decide +kernel
theorem dX6_asNumber_0 : decode cX6_asNumber 0 = .ok (.iload_n 0, 1) := by decide +kernel
theorem dX6_asNumber_1 : decode cX6_asNumber 1 = .ok (.bipush (-99), 2) := by decide +kernel
theorem dX6_asNumber_3 : decode cX6_asNumber 3 = .ok (.if_icmp .ne 7, 3) := by decide +kernel
theorem dX6_asNumber_6 : decode cX6_asNumber 6 = .ok (.iconst 1, 1) := by decide +kernel
theorem dX6_asNumber_7 : decode cX6_asNumber 7 = .ok (.goto 4, 3) := by decide +kernel
theorem dX6_asNumber_10 : decode cX6_asNumber 10 = .ok (.iload_n 0, 1) := by decide +kernel
theorem dX6_asNumber_11 : decode cX6_asNumber 11 = .ok (.ireturn, 1) := by decide +kernel
theorem dX6_bracket_0 : decode cX6_bracket 0 = .ok (.aload_n 0, 1) := by decide +kernel
theorem dX6_bracket_1 : decode cX6_bracket 1 = .ok (.dup, 1) := by decide +kernel
theorem dX6_bracket_2 : decode cX6_bracket 2 = .ok (.getfield 102, 3) := by decide +kernel
theorem dX6_bracket_5 : decode cX6_bracket 5 = .ok (.iconst 1, 1) := by decide +kernel
theorem dX6_bracket_6 : decode cX6_bracket 6 = .ok (.iadd, 1) := by decide +kernel
theorem dX6_bracket_7 : decode cX6_bracket 7 = .ok (.putfield 102, 3) := by decide +kernel
theorem dX6_bracket_10 : decode cX6_bracket 10 = .ok (.iload_n 1, 1) := by decide +kernel
theorem dX6_bracket_11 : decode cX6_bracket 11 = .ok (.bipush 91, 2) := by decide +kernel
theorem dX6_bracket_13 : decode cX6_bracket 13 = .ok (.if_icmp .ne 6, 3) := by decide +kernel
theorem dX6_bracket_16 : decode cX6_bracket 16 = .ok (.bipush 7, 2) := by decide +kernel
theorem dX6_bracket_18 : decode cX6_bracket 18 = .ok (.ireturn, 1) := by decide +kernel
theorem dX6_bracket_19 : decode cX6_bracket 19 = .ok (.iload_n 1, 1) := by decide +kernel
theorem dX6_bracket_20 : decode cX6_bracket 20 = .ok (.bipush 93, 2) := by decide +kernel
theorem dX6_bracket_22 : decode cX6_bracket 22 = .ok (.if_icmp .ne 6, 3) := by decide +kernel
theorem dX6_bracket_25 : decode cX6_bracket 25 = .ok (.bipush 8, 2) := by decide +kernel
theorem dX6_bracket_27 : decode cX6_bracket 27 = .ok (.ireturn, 1) := by decide +kernel
theorem dX6_bracket_28 : decode cX6_bracket 28 = .ok (.iload_n 1, 1) := by decide +kernel
theorem dX6_bracket_29 : decode cX6_bracket 29 = .ok (.bipush 123, 2) := by decide +kernel
theorem dX6_bracket_31 : decode cX6_bracket 31 = .ok (.if_icmp .ne 20, 3) := by decide +kernel
theorem dX6_bracket_34 : decode cX6_bracket 34 = .ok (.aload_n 0, 1) := by decide +kernel
theorem dX6_bracket_35 : decode cX6_bracket 35 = .ok (.getfield 212, 3) := by decide +kernel
theorem dX6_bracket_38 : decode cX6_bracket 38 = .ok (.bipush 20, 2) := by decide +kernel
theorem dX6_bracket_40 : decode cX6_bracket 40 = .ok (.if_icmp .ne 8, 3) := by decide +kernel
theorem dX6_bracket_43 : decode cX6_bracket 43 = .ok (.bipush (-2), 2) := by decide +kernel
theorem dX6_bracket_45 : decode cX6_bracket 45 = .ok (.goto 5, 3) := by decide +kernel
theorem dX6_bracket_48 : decode cX6_bracket 48 = .ok (.bipush 9, 2) := by decide +kernel
theorem dX6_bracket_50 : decode cX6_bracket 50 = .ok (.ireturn, 1) := by decide +kernel
theorem dX6_bracket_51 : decode cX6_bracket 51 = .ok (.iload_n 1, 1) := by decide +kernel
theorem dX6_bracket_52 : decode cX6_bracket 52 = .ok (.bipush 125, 2) := by decide +kernel
theorem dX6_bracket_54 : decode cX6_bracket 54 = .ok (.if_icmp .ne 18, 3) := by decide +kernel
theorem dX6_bracket_57 : decode cX6_bracket 57 = .ok (.aload_n 0, 1) := by decide +kernel
theorem dX6_bracket_58 : decode cX6_bracket 58 = .ok (.getfield 212, 3) := by decide +kernel
theorem dX6_bracket_61 : decode cX6_bracket 61 = .ok (.ifCond .ne 8, 3) := by decide +kernel
theorem dX6_bracket_64 : decode cX6_bracket 64 = .ok (.bipush (-4), 2) := by decide +kernel
theorem dX6_bracket_66 : decode cX6_bracket 66 = .ok (.goto 5, 3) := by decide +kernel
theorem dX6_bracket_69 : decode cX6_bracket 69 = .ok (.bipush 10, 2) := by decide +kernel
theorem dX6_bracket_71 : decode cX6_bracket 71 = .ok (.ireturn, 1) := by decide +kernel
theorem dX6_bracket_72 : decode cX6_bracket 72 = .ok (.iload_n 1, 1) := by decide +kernel
theorem dX6_bracket_73 : decode cX6_bracket 73 = .ok (.bipush 41, 2) := by decide +kernel
theorem dX6_bracket_75 : decode cX6_bracket 75 = .ok (.if_icmp .ne 6, 3) := by decide +kernel
theorem dX6_bracket_78 : decode cX6_bracket 78 = .ok (.bipush (-4), 2) := by decide +kernel
theorem dX6_bracket_80 : decode cX6_bracket 80 = .ok (.ireturn, 1) := by decide +kernel
theorem dX6_bracket_81 : decode cX6_bracket 81 = .ok (.aload_n 0, 1) := by decide +kernel
theorem dX6_bracket_82 : decode cX6_bracket 82 = .ok (.getfield 102, 3) := by decide +kernel
theorem dX6_bracket_85 : decode cX6_bracket 85 = .ok (.aload_n 0, 1) := by decide +kernel
theorem dX6_bracket_86 : decode cX6_bracket 86 = .ok (.getfield 40, 3) := by decide +kernel
theorem dX6_bracket_89 : decode cX6_bracket 89 = .ok (.if_icmp .ne 12, 3) := by decide +kernel
theorem dX6_bracket_92 : decode cX6_bracket 92 = .ok (.aload_n 0, 1) := by decide +kernel
theorem dX6_bracket_93 : decode cX6_bracket 93 = .ok (.getfield 53, 3) := by decide +kernel
theorem dX6_bracket_96 : decode cX6_bracket 96 = .ok (.ifCond .ne 5, 3) := by decide +kernel
theorem dX6_bracket_99 : decode cX6_bracket 99 = .ok (.iconst 0, 1) := by decide +kernel
theorem dX6_bracket_100 : decode cX6_bracket 100 = .ok (.ireturn, 1) := by decide +kernel
theorem dX6_bracket_101 : decode cX6_bracket 101 = .ok (.aload_n 0, 1) := by decide +kernel
theorem dX6_bracket_102 : decode cX6_bracket 102 = .ok (.aload_n 0, 1) := by decide +kernel
theorem dX6_bracket_103 : decode cX6_bracket 103 = .ok (.getfield 102, 3) := by decide +kernel
theorem dX6_bracket_106 : decode cX6_bracket 106 = .ok (.invokevirtual 63, 3) := by decide +kernel
theorem dX6_bracket_109 : decode cX6_bracket 109 = .ok (.bipush 62, 2) := by decide +kernel
theorem dX6_bracket_111 : decode cX6_bracket 111 = .ok (.if_icmp .eq 6, 3) := by decide +kernel
theorem dX6_bracket_114 : decode cX6_bracket 114 = .ok (.bipush (-4), 2) := by decide +kernel
theorem dX6_bracket_116 : decode cX6_bracket 116 = .ok (.ireturn, 1) := by decide +kernel
theorem dX6_bracket_117 : decode cX6_bracket 117 = .ok (.aload_n 0, 1) := by decide +kernel
theorem dX6_bracket_118 : decode cX6_bracket 118 = .ok (.dup, 1) := by decide +kernel
theorem dX6_bracket_119 : decode cX6_bracket 119 = .ok (.getfield 102, 3) := by decide +kernel
theorem dX6_bracket_122 : decode cX6_bracket 122 = .ok (.iconst 1, 1) := by decide +kernel
theorem dX6_bracket_123 : decode cX6_bracket 123 = .ok (.iadd, 1) := by decide +kernel
theorem dX6_bracket_124 : decode cX6_bracket 124 = .ok (.putfield 102, 3) := by decide +kernel
theorem dX6_bracket_127 : decode cX6_bracket 127 = .ok (.bipush 12, 2) := by decide +kernel
theorem dX6_bracket_129 : decode cX6_bracket 129 = .ok (.ireturn, 1) := by decide +kernel
theorem dX6_read_0 : decode cX6_read 0 = .ok (.iload_n 1, 1) := by decide +kernel
theorem dX6_read_1 : decode cX6_read 1 = .ok (.invokestatic 105, 3) := by decide +kernel
theorem dX6_read_4 : decode cX6_read 4 = .ok (.ifCond .eq 8, 3) := by decide +kernel
theorem dX6_read_7 : decode cX6_read 7 = .ok (.aload_n 0, 1) := by decide +kernel
theorem dX6_read_8 : decode cX6_read 8 = .ok (.invokevirtual 215, 3) := by decide +kernel
theorem dX6_read_11 : decode cX6_read 11 = .ok (.ireturn, 1) := by decide +kernel
theorem dX6_read_12 : decode cX6_read 12 = .ok (.iload_n 1, 1) := by decide +kernel
theorem dX6_read_13 : decode cX6_read 13 = .ok (.bipush 47, 2) := by decide +kernel
theorem dX6_read_15 : decode cX6_read 15 = .ok (.if_icmp .ne 8, 3) := by decide +kernel
theorem dX6_read_18 : decode cX6_read 18 = .ok (.aload_n 0, 1) := by decide +kernel
theorem dX6_read_19 : decode cX6_read 19 = .ok (.invokevirtual 218, 3) := by decide +kernel
theorem dX6_read_22 : decode cX6_read 22 = .ok (.ireturn, 1) := by decide +kernel
theorem dX6_read_23 : decode cX6_read 23 = .ok (.iload_n 1, 1) := by decide +kernel
theorem dX6_read_24 : decode cX6_read 24 = .ok (.bipush 40, 2) := by decide +kernel
theorem dX6_read_26 : decode cX6_read 26 = .ok (.if_icmp .ne 8, 3) := by decide +kernel
theorem dX6_read_29 : decode cX6_read 29 = .ok (.aload_n 0, 1) := by decide +kernel
theorem dX6_read_30 : decode cX6_read 30 = .ok (.invokevirtual 221, 3) := by decide +kernel
theorem dX6_read_33 : decode cX6_read 33 = .ok (.ireturn, 1) := by decide +kernel
theorem dX6_read_34 : decode cX6_read 34 = .ok (.iload_n 1, 1) := by decide +kernel
theorem dX6_read_35 : decode cX6_read 35 = .ok (.bipush 60, 2) := by decide +kernel
theorem dX6_read_37 : decode cX6_read 37 = .ok (.if_icmp .ne 8, 3) := by decide +kernel
theorem dX6_read_40 : decode cX6_read 40 = .ok (.aload_n 0, 1) := by decide +kernel
theorem dX6_read_41 : decode cX6_read 41 = .ok (.invokevirtual 224, 3) := by decide +kernel
theorem dX6_read_44 : decode cX6_read 44 = .ok (.ireturn, 1) := by decide +kernel
theorem dX6_read_45 : decode cX6_read 45 = .ok (.iload_n 1, 1) := by decide +kernel
theorem dX6_read_46 : decode cX6_read 46 = .ok (.bipush 127, 2) := by decide +kernel
theorem dX6_read_48 : decode cX6_read 48 = .ok (.if_icmp .le 11, 3) := by decide +kernel
theorem dX6_read_51 : decode cX6_read 51 = .ok (.aload_n 0, 1) := by decide +kernel
theorem dX6_read_52 : decode cX6_read 52 = .ok (.iload_n 1, 1) := by decide +kernel
theorem dX6_read_53 : decode cX6_read 53 = .ok (.invokevirtual 227, 3) := by decide +kernel
theorem dX6_read_56 : decode cX6_read 56 = .ok (.goto 8, 3) := by decide +kernel
theorem dX6_read_59 : decode cX6_read 59 = .ok (.aload_n 0, 1) := by decide +kernel
theorem dX6_read_60 : decode cX6_read 60 = .ok (.iload_n 1, 1) := by decide +kernel
theorem dX6_read_61 : decode cX6_read 61 = .ok (.invokevirtual 230, 3) := by decide +kernel
theorem dX6_read_64 : decode cX6_read 64 = .ok (.ireturn, 1) := by decide +kernel
theorem dX6_passBlanks_0 : decode cX6_passBlanks 0 = .ok (.aload_n 0, 1) := by decide +kernel
theorem dX6_passBlanks_1 : decode cX6_passBlanks 1 = .ok (.aload_n 0, 1) := by decide +kernel
theorem dX6_passBlanks_2 : decode cX6_passBlanks 2 = .ok (.getfield 57, 3) := by decide +kernel
theorem dX6_passBlanks_5 : decode cX6_passBlanks 5 = .ok (.putfield 102, 3) := by decide +kernel
theorem dX6_passBlanks_8 : decode cX6_passBlanks 8 = .ok (.iconst 1, 1) := by decide +kernel
theorem dX6_passBlanks_9 : decode cX6_passBlanks 9 = .ok (.istore_n 1, 1) := by decide +kernel
theorem dX6_passBlanks_10 : decode cX6_passBlanks 10 = .ok (.iload_n 1, 1) := by decide +kernel
theorem dX6_passBlanks_11 : decode cX6_passBlanks 11 = .ok (.ifCond .eq 111, 3) := by decide +kernel
theorem dX6_passBlanks_14 : decode cX6_passBlanks 14 = .ok (.aload_n 0, 1) := by decide +kernel
theorem dX6_passBlanks_15 : decode cX6_passBlanks 15 = .ok (.aload_n 0, 1) := by decide +kernel
theorem dX6_passBlanks_16 : decode cX6_passBlanks 16 = .ok (.getfield 102, 3) := by decide +kernel
theorem dX6_passBlanks_19 : decode cX6_passBlanks 19 = .ok (.invokevirtual 63, 3) := by decide +kernel
theorem dX6_passBlanks_22 : decode cX6_passBlanks 22 = .ok (.invokestatic 46, 3) := by decide +kernel
theorem dX6_passBlanks_25 : decode cX6_passBlanks 25 = .ok (.ifCond .eq 16, 3) := by decide +kernel
theorem dX6_passBlanks_28 : decode cX6_passBlanks 28 = .ok (.aload_n 0, 1) := by decide +kernel
theorem dX6_passBlanks_29 : decode cX6_passBlanks 29 = .ok (.dup, 1) := by decide +kernel
theorem dX6_passBlanks_30 : decode cX6_passBlanks 30 = .ok (.getfield 102, 3) := by decide +kernel
theorem dX6_passBlanks_33 : decode cX6_passBlanks 33 = .ok (.iconst 1, 1) := by decide +kernel
theorem dX6_passBlanks_34 : decode cX6_passBlanks 34 = .ok (.iadd, 1) := by decide +kernel
theorem dX6_passBlanks_35 : decode cX6_passBlanks 35 = .ok (.putfield 102, 3) := by decide +kernel
theorem dX6_passBlanks_38 : decode cX6_passBlanks 38 = .ok (.goto (-28), 3) := by decide +kernel
theorem dX6_passBlanks_41 : decode cX6_passBlanks 41 = .ok (.aload_n 0, 1) := by decide +kernel
theorem dX6_passBlanks_42 : decode cX6_passBlanks 42 = .ok (.aload_n 0, 1) := by decide +kernel
theorem dX6_passBlanks_43 : decode cX6_passBlanks 43 = .ok (.getfield 102, 3) := by decide +kernel
theorem dX6_passBlanks_46 : decode cX6_passBlanks 46 = .ok (.invokevirtual 63, 3) := by decide +kernel
theorem dX6_passBlanks_49 : decode cX6_passBlanks 49 = .ok (.bipush 37, 2) := by decide +kernel
theorem dX6_passBlanks_51 : decode cX6_passBlanks 51 = .ok (.if_icmp .ne 66, 3) := by decide +kernel
theorem dX6_passBlanks_54 : decode cX6_passBlanks 54 = .ok (.aload_n 0, 1) := by decide +kernel
theorem dX6_passBlanks_55 : decode cX6_passBlanks 55 = .ok (.getfield 102, 3) := by decide +kernel
theorem dX6_passBlanks_58 : decode cX6_passBlanks 58 = .ok (.aload_n 0, 1) := by decide +kernel
theorem dX6_passBlanks_59 : decode cX6_passBlanks 59 = .ok (.getfield 40, 3) := by decide +kernel
theorem dX6_passBlanks_62 : decode cX6_passBlanks 62 = .ok (.if_icmp .ge (-52), 3) := by decide +kernel
theorem dX6_passBlanks_65 : decode cX6_passBlanks 65 = .ok (.aload_n 0, 1) := by decide +kernel
theorem dX6_passBlanks_66 : decode cX6_passBlanks 66 = .ok (.aload_n 0, 1) := by decide +kernel
theorem dX6_passBlanks_67 : decode cX6_passBlanks 67 = .ok (.getfield 102, 3) := by decide +kernel
theorem dX6_passBlanks_70 : decode cX6_passBlanks 70 = .ok (.invokevirtual 63, 3) := by decide +kernel
theorem dX6_passBlanks_73 : decode cX6_passBlanks 73 = .ok (.bipush 10, 2) := by decide +kernel
theorem dX6_passBlanks_75 : decode cX6_passBlanks 75 = .ok (.if_icmp .eq (-65), 3) := by decide +kernel
theorem dX6_passBlanks_78 : decode cX6_passBlanks 78 = .ok (.aload_n 0, 1) := by decide +kernel
theorem dX6_passBlanks_79 : decode cX6_passBlanks 79 = .ok (.aload_n 0, 1) := by decide +kernel
theorem dX6_passBlanks_80 : decode cX6_passBlanks 80 = .ok (.getfield 102, 3) := by decide +kernel
theorem dX6_passBlanks_83 : decode cX6_passBlanks 83 = .ok (.invokevirtual 63, 3) := by decide +kernel
theorem dX6_passBlanks_86 : decode cX6_passBlanks 86 = .ok (.bipush 12, 2) := by decide +kernel
theorem dX6_passBlanks_88 : decode cX6_passBlanks 88 = .ok (.if_icmp .eq (-78), 3) := by decide +kernel
theorem dX6_passBlanks_91 : decode cX6_passBlanks 91 = .ok (.aload_n 0, 1) := by decide +kernel
theorem dX6_passBlanks_92 : decode cX6_passBlanks 92 = .ok (.aload_n 0, 1) := by decide +kernel
theorem dX6_passBlanks_93 : decode cX6_passBlanks 93 = .ok (.getfield 102, 3) := by decide +kernel
theorem dX6_passBlanks_96 : decode cX6_passBlanks 96 = .ok (.invokevirtual 63, 3) := by decide +kernel
theorem dX6_passBlanks_99 : decode cX6_passBlanks 99 = .ok (.bipush 13, 2) := by decide +kernel
theorem dX6_passBlanks_101 : decode cX6_passBlanks 101 = .ok (.if_icmp .eq (-91), 3) := by decide +kernel
theorem dX6_passBlanks_104 : decode cX6_passBlanks 104 = .ok (.aload_n 0, 1) := by decide +kernel
theorem dX6_passBlanks_105 : decode cX6_passBlanks 105 = .ok (.dup, 1) := by decide +kernel
theorem dX6_passBlanks_106 : decode cX6_passBlanks 106 = .ok (.getfield 102, 3) := by decide +kernel
theorem dX6_passBlanks_109 : decode cX6_passBlanks 109 = .ok (.iconst 1, 1) := by decide +kernel
theorem dX6_passBlanks_110 : decode cX6_passBlanks 110 = .ok (.iadd, 1) := by decide +kernel
theorem dX6_passBlanks_111 : decode cX6_passBlanks 111 = .ok (.putfield 102, 3) := by decide +kernel
theorem dX6_passBlanks_114 : decode cX6_passBlanks 114 = .ok (.goto (-60), 3) := by decide +kernel
theorem dX6_passBlanks_117 : decode cX6_passBlanks 117 = .ok (.iconst 0, 1) := by decide +kernel
theorem dX6_passBlanks_118 : decode cX6_passBlanks 118 = .ok (.istore_n 1, 1) := by decide +kernel
theorem dX6_passBlanks_119 : decode cX6_passBlanks 119 = .ok (.goto (-109), 3) := by decide +kernel
theorem dX6_passBlanks_122 : decode cX6_passBlanks 122 = .ok (.return_, 1) := by decide +kernel
theorem dX6_keep_0 : decode cX6_keep 0 = .ok (.aload_n 0, 1) := by decide +kernel
theorem dX6_keep_1 : decode cX6_keep 1 = .ok (.iload_n 1, 1) := by decide +kernel
theorem dX6_keep_2 : decode cX6_keep 2 = .ok (.putfield 233, 3) := by decide +kernel
theorem dX6_keep_5 : decode cX6_keep 5 = .ok (.aload_n 0, 1) := by decide +kernel
theorem dX6_keep_6 : decode cX6_keep 6 = .ok (.iload_n 1, 1) := by decide +kernel
theorem dX6_keep_7 : decode cX6_keep 7 = .ok (.iconst 2, 1) := by decide +kernel
theorem dX6_keep_8 : decode cX6_keep 8 = .ok (.if_icmp .eq 15, 3) := by decide +kernel
theorem dX6_keep_11 : decode cX6_keep 11 = .ok (.iload_n 1, 1) := by decide +kernel
theorem dX6_keep_12 : decode cX6_keep 12 = .ok (.bipush 7, 2) := by decide +kernel
theorem dX6_keep_14 : decode cX6_keep 14 = .ok (.if_icmp .lt 13, 3) := by decide +kernel
theorem dX6_keep_17 : decode cX6_keep 17 = .ok (.iload_n 1, 1) := by decide +kernel
theorem dX6_keep_18 : decode cX6_keep 18 = .ok (.bipush 12, 2) := by decide +kernel
theorem dX6_keep_20 : decode cX6_keep 20 = .ok (.if_icmp .gt 7, 3) := by decide +kernel
theorem dX6_keep_23 : decode cX6_keep 23 = .ok (.lconst 0, 1) := by decide +kernel
theorem dX6_keep_24 : decode cX6_keep 24 = .ok (.goto 7, 3) := by decide +kernel
theorem dX6_keep_27 : decode cX6_keep 27 = .ok (.aload_n 0, 1) := by decide +kernel
theorem dX6_keep_28 : decode cX6_keep 28 = .ok (.getfield 77, 3) := by decide +kernel
theorem dX6_keep_31 : decode cX6_keep 31 = .ok (.putfield 236, 3) := by decide +kernel
theorem dX6_keep_34 : decode cX6_keep 34 = .ok (.aload_n 0, 1) := by decide +kernel
theorem dX6_keep_35 : decode cX6_keep 35 = .ok (.iload_n 1, 1) := by decide +kernel
theorem dX6_keep_36 : decode cX6_keep 36 = .ok (.iconst 2, 1) := by decide +kernel
theorem dX6_keep_37 : decode cX6_keep 37 = .ok (.if_icmp .ne 10, 3) := by decide +kernel
theorem dX6_keep_40 : decode cX6_keep 40 = .ok (.aload_n 0, 1) := by decide +kernel
theorem dX6_keep_41 : decode cX6_keep 41 = .ok (.getfield 93, 3) := by decide +kernel
theorem dX6_keep_44 : decode cX6_keep 44 = .ok (.goto 4, 3) := by decide +kernel
theorem dX6_keep_47 : decode cX6_keep 47 = .ok (.dconst 0, 1) := by decide +kernel
theorem dX6_keep_48 : decode cX6_keep 48 = .ok (.putfield 239, 3) := by decide +kernel
theorem dX6_keep_51 : decode cX6_keep 51 = .ok (.aload_n 0, 1) := by decide +kernel
theorem dX6_keep_52 : decode cX6_keep 52 = .ok (.iload_n 1, 1) := by decide +kernel
theorem dX6_keep_53 : decode cX6_keep 53 = .ok (.iconst 3, 1) := by decide +kernel
theorem dX6_keep_54 : decode cX6_keep 54 = .ok (.if_icmp .lt 16, 3) := by decide +kernel
theorem dX6_keep_57 : decode cX6_keep 57 = .ok (.iload_n 1, 1) := by decide +kernel
theorem dX6_keep_58 : decode cX6_keep 58 = .ok (.bipush 6, 2) := by decide +kernel
theorem dX6_keep_60 : decode cX6_keep 60 = .ok (.if_icmp .gt 10, 3) := by decide +kernel
theorem dX6_keep_63 : decode cX6_keep 63 = .ok (.aload_n 0, 1) := by decide +kernel
theorem dX6_keep_64 : decode cX6_keep 64 = .ok (.getfield 99, 3) := by decide +kernel
theorem dX6_keep_67 : decode cX6_keep 67 = .ok (.goto 4, 3) := by decide +kernel
theorem dX6_keep_70 : decode cX6_keep 70 = .ok (.iconst 0, 1) := by decide +kernel
theorem dX6_keep_71 : decode cX6_keep 71 = .ok (.putfield 242, 3) := by decide +kernel
theorem dX6_keep_74 : decode cX6_keep 74 = .ok (.iconst 0, 1) := by decide +kernel
theorem dX6_keep_75 : decode cX6_keep 75 = .ok (.istore_n 2, 1) := by decide +kernel
theorem dX6_keep_76 : decode cX6_keep 76 = .ok (.iload_n 2, 1) := by decide +kernel
theorem dX6_keep_77 : decode cX6_keep 77 = .ok (.aload_n 0, 1) := by decide +kernel
theorem dX6_keep_78 : decode cX6_keep 78 = .ok (.getfield 242, 3) := by decide +kernel
theorem dX6_keep_81 : decode cX6_keep 81 = .ok (.if_icmp .ge 21, 3) := by decide +kernel
theorem dX6_keep_84 : decode cX6_keep 84 = .ok (.aload_n 0, 1) := by decide +kernel
theorem dX6_keep_85 : decode cX6_keep 85 = .ok (.getfield 21, 3) := by decide +kernel
theorem dX6_keep_88 : decode cX6_keep 88 = .ok (.iload_n 2, 1) := by decide +kernel
theorem dX6_keep_89 : decode cX6_keep 89 = .ok (.aload_n 0, 1) := by decide +kernel
theorem dX6_keep_90 : decode cX6_keep 90 = .ok (.getfield 31, 3) := by decide +kernel
theorem dX6_keep_93 : decode cX6_keep 93 = .ok (.iload_n 2, 1) := by decide +kernel
theorem dX6_keep_94 : decode cX6_keep 94 = .ok (.baload, 1) := by decide +kernel
theorem dX6_keep_95 : decode cX6_keep 95 = .ok (.bastore, 1) := by decide +kernel
theorem dX6_keep_96 : decode cX6_keep 96 = .ok (.iinc 2 1, 3) := by decide +kernel
theorem dX6_keep_99 : decode cX6_keep 99 = .ok (.goto (-23), 3) := by decide +kernel
theorem dX6_keep_102 : decode cX6_keep 102 = .ok (.aload_n 0, 1) := by decide +kernel
theorem dX6_keep_103 : decode cX6_keep 103 = .ok (.iload_n 1, 1) := by decide +kernel
theorem dX6_keep_104 : decode cX6_keep 104 = .ok (.bipush 16, 2) := by decide +kernel
theorem dX6_keep_106 : decode cX6_keep 106 = .ok (.if_icmp .ne 10, 3) := by decide +kernel
theorem dX6_keep_109 : decode cX6_keep 109 = .ok (.aload_n 0, 1) := by decide +kernel
theorem dX6_keep_110 : decode cX6_keep 110 = .ok (.getfield 190, 3) := by decide +kernel
theorem dX6_keep_113 : decode cX6_keep 113 = .ok (.goto 4, 3) := by decide +kernel
theorem dX6_keep_116 : decode cX6_keep 116 = .ok (.iconst 0, 1) := by decide +kernel
theorem dX6_keep_117 : decode cX6_keep 117 = .ok (.putfield 245, 3) := by decide +kernel
theorem dX6_keep_120 : decode cX6_keep 120 = .ok (.aload_n 0, 1) := by decide +kernel
theorem dX6_keep_121 : decode cX6_keep 121 = .ok (.aload_n 0, 1) := by decide +kernel
theorem dX6_keep_122 : decode cX6_keep 122 = .ok (.getfield 183, 3) := by decide +kernel
theorem dX6_keep_125 : decode cX6_keep 125 = .ok (.putfield 248, 3) := by decide +kernel
theorem dX6_keep_128 : decode cX6_keep 128 = .ok (.iconst 0, 1) := by decide +kernel
theorem dX6_keep_129 : decode cX6_keep 129 = .ok (.istore_n 2, 1) := by decide +kernel
theorem dX6_keep_130 : decode cX6_keep 130 = .ok (.iload_n 2, 1) := by decide +kernel
theorem dX6_keep_131 : decode cX6_keep 131 = .ok (.aload_n 0, 1) := by decide +kernel
theorem dX6_keep_132 : decode cX6_keep 132 = .ok (.getfield 245, 3) := by decide +kernel
theorem dX6_keep_135 : decode cX6_keep 135 = .ok (.if_icmp .ge 33, 3) := by decide +kernel
theorem dX6_keep_138 : decode cX6_keep 138 = .ok (.aload_n 0, 1) := by decide +kernel
theorem dX6_keep_139 : decode cX6_keep 139 = .ok (.getfield 24, 3) := by decide +kernel
theorem dX6_keep_142 : decode cX6_keep 142 = .ok (.iload_n 2, 1) := by decide +kernel
theorem dX6_keep_143 : decode cX6_keep 143 = .ok (.aload_n 0, 1) := by decide +kernel
theorem dX6_keep_144 : decode cX6_keep 144 = .ok (.getfield 34, 3) := by decide +kernel
theorem dX6_keep_147 : decode cX6_keep 147 = .ok (.iload_n 2, 1) := by decide +kernel
theorem dX6_keep_148 : decode cX6_keep 148 = .ok (.iaload, 1) := by decide +kernel
theorem dX6_keep_149 : decode cX6_keep 149 = .ok (.iastore, 1) := by decide +kernel
theorem dX6_keep_150 : decode cX6_keep 150 = .ok (.aload_n 0, 1) := by decide +kernel
theorem dX6_keep_151 : decode cX6_keep 151 = .ok (.getfield 27, 3) := by decide +kernel
theorem dX6_keep_154 : decode cX6_keep 154 = .ok (.iload_n 2, 1) := by decide +kernel
theorem dX6_keep_155 : decode cX6_keep 155 = .ok (.aload_n 0, 1) := by decide +kernel
theorem dX6_keep_156 : decode cX6_keep 156 = .ok (.getfield 37, 3) := by decide +kernel
theorem dX6_keep_159 : decode cX6_keep 159 = .ok (.iload_n 2, 1) := by decide +kernel
theorem dX6_keep_160 : decode cX6_keep 160 = .ok (.daload, 1) := by decide +kernel
theorem dX6_keep_161 : decode cX6_keep 161 = .ok (.dastore, 1) := by decide +kernel
theorem dX6_keep_162 : decode cX6_keep 162 = .ok (.iinc 2 1, 3) := by decide +kernel
theorem dX6_keep_165 : decode cX6_keep 165 = .ok (.goto (-35), 3) := by decide +kernel
theorem dX6_keep_168 : decode cX6_keep 168 = .ok (.aload_n 0, 1) := by decide +kernel
theorem dX6_keep_169 : decode cX6_keep 169 = .ok (.iload_n 1, 1) := by decide +kernel
theorem dX6_keep_170 : decode cX6_keep 170 = .ok (.iconst 1, 1) := by decide +kernel
theorem dX6_keep_171 : decode cX6_keep 171 = .ok (.if_icmp .ne 17, 3) := by decide +kernel
theorem dX6_keep_174 : decode cX6_keep 174 = .ok (.aload_n 0, 1) := by decide +kernel
theorem dX6_keep_175 : decode cX6_keep 175 = .ok (.getfield 81, 3) := by decide +kernel
theorem dX6_keep_178 : decode cX6_keep 178 = .ok (.ifCond .le 10, 3) := by decide +kernel
theorem dX6_keep_181 : decode cX6_keep 181 = .ok (.aload_n 0, 1) := by decide +kernel
theorem dX6_keep_182 : decode cX6_keep 182 = .ok (.getfield 81, 3) := by decide +kernel
theorem dX6_keep_185 : decode cX6_keep 185 = .ok (.goto 7, 3) := by decide +kernel
theorem dX6_keep_188 : decode cX6_keep 188 = .ok (.aload_n 0, 1) := by decide +kernel
theorem dX6_keep_189 : decode cX6_keep 189 = .ok (.getfield 17, 3) := by decide +kernel
theorem dX6_keep_192 : decode cX6_keep 192 = .ok (.putfield 17, 3) := by decide +kernel
theorem dX6_keep_195 : decode cX6_keep 195 = .ok (.iload_n 1, 1) := by decide +kernel
theorem dX6_keep_196 : decode cX6_keep 196 = .ok (.bipush 9, 2) := by decide +kernel
theorem dX6_keep_198 : decode cX6_keep 198 = .ok (.if_icmp .ne 26, 3) := by decide +kernel
theorem dX6_keep_201 : decode cX6_keep 201 = .ok (.aload_n 0, 1) := by decide +kernel
theorem dX6_keep_202 : decode cX6_keep 202 = .ok (.getfield 13, 3) := by decide +kernel
theorem dX6_keep_205 : decode cX6_keep 205 = .ok (.aload_n 0, 1) := by decide +kernel
theorem dX6_keep_206 : decode cX6_keep 206 = .ok (.getfield 212, 3) := by decide +kernel
theorem dX6_keep_209 : decode cX6_keep 209 = .ok (.aload_n 0, 1) := by decide +kernel
theorem dX6_keep_210 : decode cX6_keep 210 = .ok (.getfield 135, 3) := by decide +kernel
theorem dX6_keep_213 : decode cX6_keep 213 = .ok (.iastore, 1) := by decide +kernel
theorem dX6_keep_214 : decode cX6_keep 214 = .ok (.aload_n 0, 1) := by decide +kernel
theorem dX6_keep_215 : decode cX6_keep 215 = .ok (.dup, 1) := by decide +kernel
theorem dX6_keep_216 : decode cX6_keep 216 = .ok (.getfield 212, 3) := by decide +kernel
theorem dX6_keep_219 : decode cX6_keep 219 = .ok (.iconst 1, 1) := by decide +kernel
theorem dX6_keep_220 : decode cX6_keep 220 = .ok (.iadd, 1) := by decide +kernel
theorem dX6_keep_221 : decode cX6_keep 221 = .ok (.putfield 212, 3) := by decide +kernel
theorem dX6_keep_224 : decode cX6_keep 224 = .ok (.aload_n 0, 1) := by decide +kernel
theorem dX6_keep_225 : decode cX6_keep 225 = .ok (.iload_n 1, 1) := by decide +kernel
theorem dX6_keep_226 : decode cX6_keep 226 = .ok (.bipush 10, 2) := by decide +kernel
theorem dX6_keep_228 : decode cX6_keep 228 = .ok (.if_icmp .ne 12, 3) := by decide +kernel
theorem dX6_keep_231 : decode cX6_keep 231 = .ok (.aload_n 0, 1) := by decide +kernel
theorem dX6_keep_232 : decode cX6_keep 232 = .ok (.getfield 212, 3) := by decide +kernel
theorem dX6_keep_235 : decode cX6_keep 235 = .ok (.iconst 1, 1) := by decide +kernel
theorem dX6_keep_236 : decode cX6_keep 236 = .ok (.isub, 1) := by decide +kernel
theorem dX6_keep_237 : decode cX6_keep 237 = .ok (.goto 7, 3) := by decide +kernel
theorem dX6_keep_240 : decode cX6_keep 240 = .ok (.aload_n 0, 1) := by decide +kernel
theorem dX6_keep_241 : decode cX6_keep 241 = .ok (.getfield 212, 3) := by decide +kernel
theorem dX6_keep_244 : decode cX6_keep 244 = .ok (.putfield 212, 3) := by decide +kernel
theorem dX6_keep_247 : decode cX6_keep 247 = .ok (.return_, 1) := by decide +kernel
theorem dX6_next_0 : decode cX6_next 0 = .ok (.aload_n 0, 1) := by decide +kernel
theorem dX6_next_1 : decode cX6_next 1 = .ok (.iconst 0, 1) := by decide +kernel
theorem dX6_next_2 : decode cX6_next 2 = .ok (.putfield 43, 3) := by decide +kernel
theorem dX6_next_5 : decode cX6_next 5 = .ok (.aload_n 0, 1) := by decide +kernel
theorem dX6_next_6 : decode cX6_next 6 = .ok (.invokevirtual 251, 3) := by decide +kernel
theorem dX6_next_9 : decode cX6_next 9 = .ok (.aload_n 0, 1) := by decide +kernel
theorem dX6_next_10 : decode cX6_next 10 = .ok (.getfield 102, 3) := by decide +kernel
theorem dX6_next_13 : decode cX6_next 13 = .ok (.aload_n 0, 1) := by decide +kernel
theorem dX6_next_14 : decode cX6_next 14 = .ok (.getfield 40, 3) := by decide +kernel
theorem dX6_next_17 : decode cX6_next 17 = .ok (.if_icmp .lt 53, 3) := by decide +kernel
theorem dX6_next_20 : decode cX6_next 20 = .ok (.aload_n 0, 1) := by decide +kernel
theorem dX6_next_21 : decode cX6_next 21 = .ok (.getfield 53, 3) := by decide +kernel
theorem dX6_next_24 : decode cX6_next 24 = .ok (.ifCond .ne 5, 3) := by decide +kernel
theorem dX6_next_27 : decode cX6_next 27 = .ok (.iconst 0, 1) := by decide +kernel
theorem dX6_next_28 : decode cX6_next 28 = .ok (.ireturn, 1) := by decide +kernel
theorem dX6_next_29 : decode cX6_next 29 = .ok (.aload_n 0, 1) := by decide +kernel
theorem dX6_next_30 : decode cX6_next 30 = .ok (.aload_n 0, 1) := by decide +kernel
theorem dX6_next_31 : decode cX6_next 31 = .ok (.getfield 40, 3) := by decide +kernel
theorem dX6_next_34 : decode cX6_next 34 = .ok (.putfield 57, 3) := by decide +kernel
theorem dX6_next_37 : decode cX6_next 37 = .ok (.aload_n 0, 1) := by decide +kernel
theorem dX6_next_38 : decode cX6_next 38 = .ok (.getfield 212, 3) := by decide +kernel
theorem dX6_next_41 : decode cX6_next 41 = .ok (.ifCond .ne 6, 3) := by decide +kernel
theorem dX6_next_44 : decode cX6_next 44 = .ok (.bipush 20, 2) := by decide +kernel
theorem dX6_next_46 : decode cX6_next 46 = .ok (.ireturn, 1) := by decide +kernel
theorem dX6_next_47 : decode cX6_next 47 = .ok (.aload_n 0, 1) := by decide +kernel
theorem dX6_next_48 : decode cX6_next 48 = .ok (.aload_n 0, 1) := by decide +kernel
theorem dX6_next_49 : decode cX6_next 49 = .ok (.getfield 13, 3) := by decide +kernel
theorem dX6_next_52 : decode cX6_next 52 = .ok (.aload_n 0, 1) := by decide +kernel
theorem dX6_next_53 : decode cX6_next 53 = .ok (.getfield 212, 3) := by decide +kernel
theorem dX6_next_56 : decode cX6_next 56 = .ok (.iconst 1, 1) := by decide +kernel
theorem dX6_next_57 : decode cX6_next 57 = .ok (.isub, 1) := by decide +kernel
theorem dX6_next_58 : decode cX6_next 58 = .ok (.iaload, 1) := by decide +kernel
theorem dX6_next_59 : decode cX6_next 59 = .ok (.putfield 254, 3) := by decide +kernel
theorem dX6_next_62 : decode cX6_next 62 = .ok (.aload_n 0, 1) := by decide +kernel
theorem dX6_next_63 : decode cX6_next 63 = .ok (.iconst 0, 1) := by decide +kernel
theorem dX6_next_64 : decode cX6_next 64 = .ok (.putfield 212, 3) := by decide +kernel
theorem dX6_next_67 : decode cX6_next 67 = .ok (.bipush (-7), 2) := by decide +kernel
theorem dX6_next_69 : decode cX6_next 69 = .ok (.ireturn, 1) := by decide +kernel
theorem dX6_next_70 : decode cX6_next 70 = .ok (.aload_n 0, 1) := by decide +kernel
theorem dX6_next_71 : decode cX6_next 71 = .ok (.aload_n 0, 1) := by decide +kernel
theorem dX6_next_72 : decode cX6_next 72 = .ok (.getfield 102, 3) := by decide +kernel
theorem dX6_next_75 : decode cX6_next 75 = .ok (.putfield 135, 3) := by decide +kernel
theorem dX6_next_78 : decode cX6_next 78 = .ok (.aload_n 0, 1) := by decide +kernel
theorem dX6_next_79 : decode cX6_next 79 = .ok (.iconst 0, 1) := by decide +kernel
theorem dX6_next_80 : decode cX6_next 80 = .ok (.putfield 99, 3) := by decide +kernel
theorem dX6_next_83 : decode cX6_next 83 = .ok (.aload_n 0, 1) := by decide +kernel
theorem dX6_next_84 : decode cX6_next 84 = .ok (.iconst 0, 1) := by decide +kernel
theorem dX6_next_85 : decode cX6_next 85 = .ok (.putfield 81, 3) := by decide +kernel
theorem dX6_next_88 : decode cX6_next 88 = .ok (.aload_n 0, 1) := by decide +kernel
theorem dX6_next_89 : decode cX6_next 89 = .ok (.iconst 0, 1) := by decide +kernel
theorem dX6_next_90 : decode cX6_next 90 = .ok (.putfield 171, 3) := by decide +kernel
theorem dX6_next_93 : decode cX6_next 93 = .ok (.aload_n 0, 1) := by decide +kernel
theorem dX6_next_94 : decode cX6_next 94 = .ok (.aload_n 0, 1) := by decide +kernel
theorem dX6_next_95 : decode cX6_next 95 = .ok (.aload_n 0, 1) := by decide +kernel
theorem dX6_next_96 : decode cX6_next 96 = .ok (.getfield 102, 3) := by decide +kernel
theorem dX6_next_99 : decode cX6_next 99 = .ok (.invokevirtual 63, 3) := by decide +kernel
theorem dX6_next_102 : decode cX6_next 102 = .ok (.invokevirtual 257, 3) := by decide +kernel
theorem dX6_next_105 : decode cX6_next 105 = .ok (.istore_n 1, 1) := by decide +kernel
theorem dX6_next_106 : decode cX6_next 106 = .ok (.iload_n 1, 1) := by decide +kernel
theorem dX6_next_107 : decode cX6_next 107 = .ok (.ifCond .ne 5, 3) := by decide +kernel
theorem dX6_next_110 : decode cX6_next 110 = .ok (.iconst 0, 1) := by decide +kernel
theorem dX6_next_111 : decode cX6_next 111 = .ok (.ireturn, 1) := by decide +kernel
theorem dX6_next_112 : decode cX6_next 112 = .ok (.aload_n 0, 1) := by decide +kernel
theorem dX6_next_113 : decode cX6_next 113 = .ok (.aload_n 0, 1) := by decide +kernel
theorem dX6_next_114 : decode cX6_next 114 = .ok (.getfield 102, 3) := by decide +kernel
theorem dX6_next_117 : decode cX6_next 117 = .ok (.putfield 57, 3) := by decide +kernel
theorem dX6_next_120 : decode cX6_next 120 = .ok (.aload_n 0, 1) := by decide +kernel
theorem dX6_next_121 : decode cX6_next 121 = .ok (.aload_n 0, 1) := by decide +kernel
theorem dX6_next_122 : decode cX6_next 122 = .ok (.getfield 135, 3) := by decide +kernel
theorem dX6_next_125 : decode cX6_next 125 = .ok (.putfield 254, 3) := by decide +kernel
theorem dX6_next_128 : decode cX6_next 128 = .ok (.iload_n 1, 1) := by decide +kernel
theorem dX6_next_129 : decode cX6_next 129 = .ok (.ifCond .le 8, 3) := by decide +kernel
theorem dX6_next_132 : decode cX6_next 132 = .ok (.aload_n 0, 1) := by decide +kernel
theorem dX6_next_133 : decode cX6_next 133 = .ok (.iload_n 1, 1) := by decide +kernel
theorem dX6_next_134 : decode cX6_next 134 = .ok (.invokevirtual 260, 3) := by decide +kernel
theorem dX6_next_137 : decode cX6_next 137 = .ok (.iload_n 1, 1) := by decide +kernel
theorem dX6_next_138 : decode cX6_next 138 = .ok (.ireturn, 1) := by decide +kernel
theorem dX6_whole_0 : decode cX6_whole 0 = .ok (.aload_n 0, 1) := by decide +kernel
theorem dX6_whole_1 : decode cX6_whole 1 = .ok (.iconst 0, 1) := by decide +kernel
theorem dX6_whole_2 : decode cX6_whole 2 = .ok (.putfield 43, 3) := by decide +kernel
theorem dX6_whole_5 : decode cX6_whole 5 = .ok (.aload_n 0, 1) := by decide +kernel
theorem dX6_whole_6 : decode cX6_whole 6 = .ok (.getfield 236, 3) := by decide +kernel
theorem dX6_whole_9 : decode cX6_whole 9 = .ok (.lreturn, 1) := by decide +kernel
theorem dX6_real_0 : decode cX6_real 0 = .ok (.aload_n 0, 1) := by decide +kernel
theorem dX6_real_1 : decode cX6_real 1 = .ok (.iconst 0, 1) := by decide +kernel
theorem dX6_real_2 : decode cX6_real 2 = .ok (.putfield 43, 3) := by decide +kernel
theorem dX6_real_5 : decode cX6_real 5 = .ok (.aload_n 0, 1) := by decide +kernel
theorem dX6_real_6 : decode cX6_real 6 = .ok (.getfield 239, 3) := by decide +kernel
theorem dX6_real_9 : decode cX6_real 9 = .ok (.dreturn, 1) := by decide +kernel
theorem dX6_sign_0 : decode cX6_sign 0 = .ok (.aload_n 0, 1) := by decide +kernel
theorem dX6_sign_1 : decode cX6_sign 1 = .ok (.iconst 0, 1) := by decide +kernel
theorem dX6_sign_2 : decode cX6_sign 2 = .ok (.putfield 43, 3) := by decide +kernel
theorem dX6_sign_5 : decode cX6_sign 5 = .ok (.iload_n 1, 1) := by decide +kernel
theorem dX6_sign_6 : decode cX6_sign 6 = .ok (.ifCond .lt 24, 3) := by decide +kernel
theorem dX6_sign_9 : decode cX6_sign 9 = .ok (.iload_n 1, 1) := by decide +kernel
theorem dX6_sign_10 : decode cX6_sign 10 = .ok (.aload_n 0, 1) := by decide +kernel
theorem dX6_sign_11 : decode cX6_sign 11 = .ok (.getfield 242, 3) := by decide +kernel
theorem dX6_sign_14 : decode cX6_sign 14 = .ok (.if_icmp .ge 16, 3) := by decide +kernel
theorem dX6_sign_17 : decode cX6_sign 17 = .ok (.aload_n 0, 1) := by decide +kernel
theorem dX6_sign_18 : decode cX6_sign 18 = .ok (.getfield 21, 3) := by decide +kernel
theorem dX6_sign_21 : decode cX6_sign 21 = .ok (.iload_n 1, 1) := by decide +kernel
theorem dX6_sign_22 : decode cX6_sign 22 = .ok (.baload, 1) := by decide +kernel
theorem dX6_sign_23 : decode cX6_sign 23 = .ok (.sipush 255, 3) := by decide +kernel
theorem dX6_sign_26 : decode cX6_sign 26 = .ok (.iand, 1) := by decide +kernel
theorem dX6_sign_27 : decode cX6_sign 27 = .ok (.goto 4, 3) := by decide +kernel
theorem dX6_sign_30 : decode cX6_sign 30 = .ok (.iconst (-1), 1) := by decide +kernel
theorem dX6_sign_31 : decode cX6_sign 31 = .ok (.ireturn, 1) := by decide +kernel
theorem dX6_binary_0 : decode cX6_binary 0 = .ok (.aload_n 0, 1) := by decide +kernel
theorem dX6_binary_1 : decode cX6_binary 1 = .ok (.iload_n 1, 1) := by decide +kernel
theorem dX6_binary_2 : decode cX6_binary 2 = .ok (.ifCond .lt 24, 3) := by decide +kernel
theorem dX6_binary_5 : decode cX6_binary 5 = .ok (.iload_n 1, 1) := by decide +kernel
theorem dX6_binary_6 : decode cX6_binary 6 = .ok (.aload_n 0, 1) := by decide +kernel
theorem dX6_binary_7 : decode cX6_binary 7 = .ok (.getfield 245, 3) := by decide +kernel
theorem dX6_binary_10 : decode cX6_binary 10 = .ok (.if_icmp .ge 16, 3) := by decide +kernel
theorem dX6_binary_13 : decode cX6_binary 13 = .ok (.iload_n 2, 1) := by decide +kernel
theorem dX6_binary_14 : decode cX6_binary 14 = .ok (.ifCond .eq 8, 3) := by decide +kernel
theorem dX6_binary_17 : decode cX6_binary 17 = .ok (.iload_n 2, 1) := by decide +kernel
theorem dX6_binary_18 : decode cX6_binary 18 = .ok (.iconst 1, 1) := by decide +kernel
theorem dX6_binary_19 : decode cX6_binary 19 = .ok (.if_icmp .ne 7, 3) := by decide +kernel
theorem dX6_binary_22 : decode cX6_binary 22 = .ok (.iconst 0, 1) := by decide +kernel
theorem dX6_binary_23 : decode cX6_binary 23 = .ok (.goto 4, 3) := by decide +kernel
theorem dX6_binary_26 : decode cX6_binary 26 = .ok (.iconst 1, 1) := by decide +kernel
theorem dX6_binary_27 : decode cX6_binary 27 = .ok (.putfield 43, 3) := by decide +kernel
theorem dX6_binary_30 : decode cX6_binary 30 = .ok (.aload_n 0, 1) := by decide +kernel
theorem dX6_binary_31 : decode cX6_binary 31 = .ok (.getfield 43, 3) := by decide +kernel
theorem dX6_binary_34 : decode cX6_binary 34 = .ok (.ifCond .le 5, 3) := by decide +kernel
theorem dX6_binary_37 : decode cX6_binary 37 = .ok (.iconst 0, 1) := by decide +kernel
theorem dX6_binary_38 : decode cX6_binary 38 = .ok (.ireturn, 1) := by decide +kernel
theorem dX6_binary_39 : decode cX6_binary 39 = .ok (.iload_n 2, 1) := by decide +kernel
theorem dX6_binary_40 : decode cX6_binary 40 = .ok (.ifCond .ne 18, 3) := by decide +kernel
theorem dX6_binary_43 : decode cX6_binary 43 = .ok (.aload_n 0, 1) := by decide +kernel
theorem dX6_binary_44 : decode cX6_binary 44 = .ok (.getfield 248, 3) := by decide +kernel
theorem dX6_binary_47 : decode cX6_binary 47 = .ok (.ifCond .eq 7, 3) := by decide +kernel
theorem dX6_binary_50 : decode cX6_binary 50 = .ok (.iconst 1, 1) := by decide +kernel
theorem dX6_binary_51 : decode cX6_binary 51 = .ok (.goto 24, 3) := by decide +kernel
theorem dX6_binary_54 : decode cX6_binary 54 = .ok (.iconst 0, 1) := by decide +kernel
theorem dX6_binary_55 : decode cX6_binary 55 = .ok (.goto 20, 3) := by decide +kernel
theorem dX6_binary_58 : decode cX6_binary 58 = .ok (.aload_n 0, 1) := by decide +kernel
theorem dX6_binary_59 : decode cX6_binary 59 = .ok (.getfield 248, 3) := by decide +kernel
theorem dX6_binary_62 : decode cX6_binary 62 = .ok (.ifCond .eq 7, 3) := by decide +kernel
theorem dX6_binary_65 : decode cX6_binary 65 = .ok (.iconst 0, 1) := by decide +kernel
theorem dX6_binary_66 : decode cX6_binary 66 = .ok (.goto 9, 3) := by decide +kernel
theorem dX6_binary_69 : decode cX6_binary 69 = .ok (.aload_n 0, 1) := by decide +kernel
theorem dX6_binary_70 : decode cX6_binary 70 = .ok (.getfield 24, 3) := by decide +kernel
theorem dX6_binary_73 : decode cX6_binary 73 = .ok (.iload_n 1, 1) := by decide +kernel
theorem dX6_binary_74 : decode cX6_binary 74 = .ok (.iaload, 1) := by decide +kernel
theorem dX6_binary_75 : decode cX6_binary 75 = .ok (.ireturn, 1) := by decide +kernel
theorem dX6_binaryReal_0 : decode cX6_binaryReal 0 = .ok (.aload_n 0, 1) := by decide +kernel
theorem dX6_binaryReal_1 : decode cX6_binaryReal 1 = .ok (.iload_n 1, 1) := by decide +kernel
theorem dX6_binaryReal_2 : decode cX6_binaryReal 2 = .ok (.ifCond .lt 15, 3) := by decide +kernel
theorem dX6_binaryReal_5 : decode cX6_binaryReal 5 = .ok (.iload_n 1, 1) := by decide +kernel
theorem dX6_binaryReal_6 : decode cX6_binaryReal 6 = .ok (.aload_n 0, 1) := by decide +kernel
theorem dX6_binaryReal_7 : decode cX6_binaryReal 7 = .ok (.getfield 245, 3) := by decide +kernel
theorem dX6_binaryReal_10 : decode cX6_binaryReal 10 = .ok (.if_icmp .ge 7, 3) := by decide +kernel
theorem dX6_binaryReal_13 : decode cX6_binaryReal 13 = .ok (.iconst 0, 1) := by decide +kernel
theorem dX6_binaryReal_14 : decode cX6_binaryReal 14 = .ok (.goto 4, 3) := by decide +kernel
theorem dX6_binaryReal_17 : decode cX6_binaryReal 17 = .ok (.iconst 1, 1) := by decide +kernel
theorem dX6_binaryReal_18 : decode cX6_binaryReal 18 = .ok (.putfield 43, 3) := by decide +kernel
theorem dX6_binaryReal_21 : decode cX6_binaryReal 21 = .ok (.aload_n 0, 1) := by decide +kernel
theorem dX6_binaryReal_22 : decode cX6_binaryReal 22 = .ok (.getfield 43, 3) := by decide +kernel
theorem dX6_binaryReal_25 : decode cX6_binaryReal 25 = .ok (.ifCond .ne 19, 3) := by decide +kernel
theorem dX6_binaryReal_28 : decode cX6_binaryReal 28 = .ok (.aload_n 0, 1) := by decide +kernel
theorem dX6_binaryReal_29 : decode cX6_binaryReal 29 = .ok (.getfield 248, 3) := by decide +kernel
theorem dX6_binaryReal_32 : decode cX6_binaryReal 32 = .ok (.ifCond .eq 12, 3) := by decide +kernel
theorem dX6_binaryReal_35 : decode cX6_binaryReal 35 = .ok (.aload_n 0, 1) := by decide +kernel
theorem dX6_binaryReal_36 : decode cX6_binaryReal 36 = .ok (.getfield 27, 3) := by decide +kernel
theorem dX6_binaryReal_39 : decode cX6_binaryReal 39 = .ok (.iload_n 1, 1) := by decide +kernel
theorem dX6_binaryReal_40 : decode cX6_binaryReal 40 = .ok (.daload, 1) := by decide +kernel
theorem dX6_binaryReal_41 : decode cX6_binaryReal 41 = .ok (.goto 4, 3) := by decide +kernel
theorem dX6_binaryReal_44 : decode cX6_binaryReal 44 = .ok (.dconst 0, 1) := by decide +kernel
theorem dX6_binaryReal_45 : decode cX6_binaryReal 45 = .ok (.dreturn, 1) := by decide +kernel
theorem dX6_place_0 : decode cX6_place 0 = .ok (.aload_n 0, 1) := by decide +kernel
theorem dX6_place_1 : decode cX6_place 1 = .ok (.iconst 0, 1) := by decide +kernel
theorem dX6_place_2 : decode cX6_place 2 = .ok (.putfield 43, 3) := by decide +kernel
theorem dX6_place_5 : decode cX6_place 5 = .ok (.aload_n 0, 1) := by decide +kernel
theorem dX6_place_6 : decode cX6_place 6 = .ok (.getfield 254, 3) := by decide +kernel
theorem dX6_place_9 : decode cX6_place 9 = .ok (.ireturn, 1) := by decide +kernel
theorem dX6_base_0 : decode cX6_base 0 = .ok (.aload_n 0, 1) := by decide +kernel
theorem dX6_base_1 : decode cX6_base 1 = .ok (.iconst 0, 1) := by decide +kernel
theorem dX6_base_2 : decode cX6_base 2 = .ok (.putfield 43, 3) := by decide +kernel
theorem dX6_base_5 : decode cX6_base 5 = .ok (.aload_n 0, 1) := by decide +kernel
theorem dX6_base_6 : decode cX6_base 6 = .ok (.getfield 17, 3) := by decide +kernel
theorem dX6_base_9 : decode cX6_base 9 = .ok (.ireturn, 1) := by decide +kernel
theorem dX6_depth_0 : decode cX6_depth 0 = .ok (.aload_n 0, 1) := by decide +kernel
theorem dX6_depth_1 : decode cX6_depth 1 = .ok (.iconst 0, 1) := by decide +kernel
theorem dX6_depth_2 : decode cX6_depth 2 = .ok (.putfield 43, 3) := by decide +kernel
theorem dX6_depth_5 : decode cX6_depth 5 = .ok (.aload_n 0, 1) := by decide +kernel
theorem dX6_depth_6 : decode cX6_depth 6 = .ok (.getfield 212, 3) := by decide +kernel
theorem dX6_depth_9 : decode cX6_depth 9 = .ok (.ireturn, 1) := by decide +kernel
theorem dX6_octet_0 : decode cX6_octet 0 = .ok (.aload_n 0, 1) := by decide +kernel
theorem dX6_octet_1 : decode cX6_octet 1 = .ok (.iload_n 1, 1) := by decide +kernel
theorem dX6_octet_2 : decode cX6_octet 2 = .ok (.ifCond .lt 15, 3) := by decide +kernel
theorem dX6_octet_5 : decode cX6_octet 5 = .ok (.iload_n 1, 1) := by decide +kernel
theorem dX6_octet_6 : decode cX6_octet 6 = .ok (.aload_n 0, 1) := by decide +kernel
theorem dX6_octet_7 : decode cX6_octet 7 = .ok (.getfield 40, 3) := by decide +kernel
theorem dX6_octet_10 : decode cX6_octet 10 = .ok (.if_icmp .ge 7, 3) := by decide +kernel
theorem dX6_octet_13 : decode cX6_octet 13 = .ok (.iconst 0, 1) := by decide +kernel
theorem dX6_octet_14 : decode cX6_octet 14 = .ok (.goto 4, 3) := by decide +kernel
theorem dX6_octet_17 : decode cX6_octet 17 = .ok (.iconst 1, 1) := by decide +kernel
theorem dX6_octet_18 : decode cX6_octet 18 = .ok (.putfield 43, 3) := by decide +kernel
theorem dX6_octet_21 : decode cX6_octet 21 = .ok (.aload_n 0, 1) := by decide +kernel
theorem dX6_octet_22 : decode cX6_octet 22 = .ok (.getfield 43, 3) := by decide +kernel
theorem dX6_octet_25 : decode cX6_octet 25 = .ok (.ifCond .le 7, 3) := by decide +kernel
theorem dX6_octet_28 : decode cX6_octet 28 = .ok (.iconst 0, 1) := by decide +kernel
theorem dX6_octet_29 : decode cX6_octet 29 = .ok (.goto 9, 3) := by decide +kernel
theorem dX6_octet_32 : decode cX6_octet 32 = .ok (.aload_n 0, 1) := by decide +kernel
theorem dX6_octet_33 : decode cX6_octet 33 = .ok (.getfield 7, 3) := by decide +kernel
theorem dX6_octet_36 : decode cX6_octet 36 = .ok (.iload_n 1, 1) := by decide +kernel
theorem dX6_octet_37 : decode cX6_octet 37 = .ok (.baload, 1) := by decide +kernel
theorem dX6_octet_38 : decode cX6_octet 38 = .ok (.ireturn, 1) := by decide +kernel
theorem dX6_clear_0 : decode cX6_clear 0 = .ok (.aload_n 0, 1) := by decide +kernel
theorem dX6_clear_1 : decode cX6_clear 1 = .ok (.iconst 0, 1) := by decide +kernel
theorem dX6_clear_2 : decode cX6_clear 2 = .ok (.putfield 43, 3) := by decide +kernel
theorem dX6_clear_5 : decode cX6_clear 5 = .ok (.aload_n 0, 1) := by decide +kernel
theorem dX6_clear_6 : decode cX6_clear 6 = .ok (.iconst 0, 1) := by decide +kernel
theorem dX6_clear_7 : decode cX6_clear 7 = .ok (.putfield 40, 3) := by decide +kernel
theorem dX6_clear_10 : decode cX6_clear 10 = .ok (.aload_n 0, 1) := by decide +kernel
theorem dX6_clear_11 : decode cX6_clear 11 = .ok (.iconst 0, 1) := by decide +kernel
theorem dX6_clear_12 : decode cX6_clear 12 = .ok (.putfield 53, 3) := by decide +kernel
theorem dX6_clear_15 : decode cX6_clear 15 = .ok (.aload_n 0, 1) := by decide +kernel
theorem dX6_clear_16 : decode cX6_clear 16 = .ok (.iconst 0, 1) := by decide +kernel
theorem dX6_clear_17 : decode cX6_clear 17 = .ok (.putfield 57, 3) := by decide +kernel
theorem dX6_clear_20 : decode cX6_clear 20 = .ok (.aload_n 0, 1) := by decide +kernel
theorem dX6_clear_21 : decode cX6_clear 21 = .ok (.iconst 0, 1) := by decide +kernel
theorem dX6_clear_22 : decode cX6_clear 22 = .ok (.putfield 212, 3) := by decide +kernel
theorem dX6_clear_25 : decode cX6_clear 25 = .ok (.aload_n 0, 1) := by decide +kernel
theorem dX6_clear_26 : decode cX6_clear 26 = .ok (.iconst 0, 1) := by decide +kernel
theorem dX6_clear_27 : decode cX6_clear 27 = .ok (.putfield 233, 3) := by decide +kernel
theorem dX6_clear_30 : decode cX6_clear 30 = .ok (.aload_n 0, 1) := by decide +kernel
theorem dX6_clear_31 : decode cX6_clear 31 = .ok (.lconst 0, 1) := by decide +kernel
theorem dX6_clear_32 : decode cX6_clear 32 = .ok (.putfield 236, 3) := by decide +kernel
theorem dX6_clear_35 : decode cX6_clear 35 = .ok (.aload_n 0, 1) := by decide +kernel
theorem dX6_clear_36 : decode cX6_clear 36 = .ok (.dconst 0, 1) := by decide +kernel
theorem dX6_clear_37 : decode cX6_clear 37 = .ok (.putfield 239, 3) := by decide +kernel
theorem dX6_clear_40 : decode cX6_clear 40 = .ok (.aload_n 0, 1) := by decide +kernel
theorem dX6_clear_41 : decode cX6_clear 41 = .ok (.iconst 0, 1) := by decide +kernel
theorem dX6_clear_42 : decode cX6_clear 42 = .ok (.putfield 254, 3) := by decide +kernel
theorem dX6_clear_45 : decode cX6_clear 45 = .ok (.aload_n 0, 1) := by decide +kernel
theorem dX6_clear_46 : decode cX6_clear 46 = .ok (.bipush 10, 2) := by decide +kernel
theorem dX6_clear_48 : decode cX6_clear 48 = .ok (.putfield 17, 3) := by decide +kernel
theorem dX6_clear_51 : decode cX6_clear 51 = .ok (.aload_n 0, 1) := by decide +kernel
theorem dX6_clear_52 : decode cX6_clear 52 = .ok (.iconst 0, 1) := by decide +kernel
theorem dX6_clear_53 : decode cX6_clear 53 = .ok (.putfield 242, 3) := by decide +kernel
theorem dX6_clear_56 : decode cX6_clear 56 = .ok (.aload_n 0, 1) := by decide +kernel
theorem dX6_clear_57 : decode cX6_clear 57 = .ok (.iconst 0, 1) := by decide +kernel
theorem dX6_clear_58 : decode cX6_clear 58 = .ok (.putfield 245, 3) := by decide +kernel
theorem dX6_clear_61 : decode cX6_clear 61 = .ok (.return_, 1) := by decide +kernel
