theorem dX0_init_0 : decode cX0_init 0 = .ok (.aload_n 0, 1) := by decide +kernel
theorem dX0_init_1 : decode cX0_init 1 = .ok (.invokespecial 3, 3) := by decide +kernel
theorem dX0_init_4 : decode cX0_init 4 = .ok (.aload_n 0, 1) := by decide +kernel
theorem dX0_init_5 : decode cX0_init 5 = .ok (.aload_n 1, 1) := by decide +kernel
theorem dX0_init_6 : decode cX0_init 6 = .ok (.putfield 9, 3) := by decide +kernel
theorem dX0_init_9 : decode cX0_init 9 = .ok (.return_, 1) := by decide +kernel
theorem dX0_readBinary_0 : decode cX0_readBinary 0 = .ok (.iload_n 2, 1) := by decide +kernel
theorem dX0_readBinary_1 : decode cX0_readBinary 1 = .ok (.tableswitch 199 132 149 #[87, 95, 103, 111, 119, 127, 133, 140, 199, 147, 153, 161, 169, 177, 185, 199, 199, 193], 87) := by decide +kernel
theorem dX0_readBinary_88 : decode cX0_readBinary 88 = .ok (.aload_n 0, 1) := by decide +kernel
theorem dX0_readBinary_89 : decode cX0_readBinary 89 = .ok (.aload_n 1, 1) := by decide +kernel
theorem dX0_readBinary_90 : decode cX0_readBinary 90 = .ok (.iconst 4, 1) := by decide +kernel
theorem dX0_readBinary_91 : decode cX0_readBinary 91 = .ok (.iconst 0, 1) := by decide +kernel
theorem dX0_readBinary_92 : decode cX0_readBinary 92 = .ok (.invokevirtual 15, 3) := by decide +kernel
theorem dX0_readBinary_95 : decode cX0_readBinary 95 = .ok (.ireturn, 1) := by decide +kernel
theorem dX0_readBinary_96 : decode cX0_readBinary 96 = .ok (.aload_n 0, 1) := by decide +kernel
theorem dX0_readBinary_97 : decode cX0_readBinary 97 = .ok (.aload_n 1, 1) := by decide +kernel
theorem dX0_readBinary_98 : decode cX0_readBinary 98 = .ok (.iconst 4, 1) := by decide +kernel
theorem dX0_readBinary_99 : decode cX0_readBinary 99 = .ok (.iconst 1, 1) := by decide +kernel
theorem dX0_readBinary_100 : decode cX0_readBinary 100 = .ok (.invokevirtual 15, 3) := by decide +kernel
theorem dX0_readBinary_103 : decode cX0_readBinary 103 = .ok (.ireturn, 1) := by decide +kernel
theorem dX0_readBinary_104 : decode cX0_readBinary 104 = .ok (.aload_n 0, 1) := by decide +kernel
theorem dX0_readBinary_105 : decode cX0_readBinary 105 = .ok (.aload_n 1, 1) := by decide +kernel
theorem dX0_readBinary_106 : decode cX0_readBinary 106 = .ok (.iconst 2, 1) := by decide +kernel
theorem dX0_readBinary_107 : decode cX0_readBinary 107 = .ok (.iconst 0, 1) := by decide +kernel
theorem dX0_readBinary_108 : decode cX0_readBinary 108 = .ok (.invokevirtual 15, 3) := by decide +kernel
theorem dX0_readBinary_111 : decode cX0_readBinary 111 = .ok (.ireturn, 1) := by decide +kernel
theorem dX0_readBinary_112 : decode cX0_readBinary 112 = .ok (.aload_n 0, 1) := by decide +kernel
theorem dX0_readBinary_113 : decode cX0_readBinary 113 = .ok (.aload_n 1, 1) := by decide +kernel
theorem dX0_readBinary_114 : decode cX0_readBinary 114 = .ok (.iconst 2, 1) := by decide +kernel
theorem dX0_readBinary_115 : decode cX0_readBinary 115 = .ok (.iconst 1, 1) := by decide +kernel
theorem dX0_readBinary_116 : decode cX0_readBinary 116 = .ok (.invokevirtual 15, 3) := by decide +kernel
theorem dX0_readBinary_119 : decode cX0_readBinary 119 = .ok (.ireturn, 1) := by decide +kernel
theorem dX0_readBinary_120 : decode cX0_readBinary 120 = .ok (.aload_n 0, 1) := by decide +kernel
theorem dX0_readBinary_121 : decode cX0_readBinary 121 = .ok (.aload_n 1, 1) := by decide +kernel
theorem dX0_readBinary_122 : decode cX0_readBinary 122 = .ok (.iconst 1, 1) := by decide +kernel
theorem dX0_readBinary_123 : decode cX0_readBinary 123 = .ok (.iconst 0, 1) := by decide +kernel
theorem dX0_readBinary_124 : decode cX0_readBinary 124 = .ok (.invokevirtual 15, 3) := by decide +kernel
theorem dX0_readBinary_127 : decode cX0_readBinary 127 = .ok (.ireturn, 1) := by decide +kernel
theorem dX0_readBinary_128 : decode cX0_readBinary 128 = .ok (.aload_n 0, 1) := by decide +kernel
theorem dX0_readBinary_129 : decode cX0_readBinary 129 = .ok (.aload_n 1, 1) := by decide +kernel
theorem dX0_readBinary_130 : decode cX0_readBinary 130 = .ok (.invokevirtual 19, 3) := by decide +kernel
theorem dX0_readBinary_133 : decode cX0_readBinary 133 = .ok (.ireturn, 1) := by decide +kernel
theorem dX0_readBinary_134 : decode cX0_readBinary 134 = .ok (.aload_n 0, 1) := by decide +kernel
theorem dX0_readBinary_135 : decode cX0_readBinary 135 = .ok (.aload_n 1, 1) := by decide +kernel
theorem dX0_readBinary_136 : decode cX0_readBinary 136 = .ok (.iconst 0, 1) := by decide +kernel
theorem dX0_readBinary_137 : decode cX0_readBinary 137 = .ok (.invokevirtual 23, 3) := by decide +kernel
theorem dX0_readBinary_140 : decode cX0_readBinary 140 = .ok (.ireturn, 1) := by decide +kernel
theorem dX0_readBinary_141 : decode cX0_readBinary 141 = .ok (.aload_n 0, 1) := by decide +kernel
theorem dX0_readBinary_142 : decode cX0_readBinary 142 = .ok (.aload_n 1, 1) := by decide +kernel
theorem dX0_readBinary_143 : decode cX0_readBinary 143 = .ok (.iconst 1, 1) := by decide +kernel
theorem dX0_readBinary_144 : decode cX0_readBinary 144 = .ok (.invokevirtual 23, 3) := by decide +kernel
theorem dX0_readBinary_147 : decode cX0_readBinary 147 = .ok (.ireturn, 1) := by decide +kernel
theorem dX0_readBinary_148 : decode cX0_readBinary 148 = .ok (.aload_n 0, 1) := by decide +kernel
theorem dX0_readBinary_149 : decode cX0_readBinary 149 = .ok (.aload_n 1, 1) := by decide +kernel
theorem dX0_readBinary_150 : decode cX0_readBinary 150 = .ok (.invokevirtual 27, 3) := by decide +kernel
theorem dX0_readBinary_153 : decode cX0_readBinary 153 = .ok (.ireturn, 1) := by decide +kernel
theorem dX0_readBinary_154 : decode cX0_readBinary 154 = .ok (.aload_n 0, 1) := by decide +kernel
theorem dX0_readBinary_155 : decode cX0_readBinary 155 = .ok (.aload_n 1, 1) := by decide +kernel
theorem dX0_readBinary_156 : decode cX0_readBinary 156 = .ok (.iconst 1, 1) := by decide +kernel
theorem dX0_readBinary_157 : decode cX0_readBinary 157 = .ok (.iconst 0, 1) := by decide +kernel
theorem dX0_readBinary_158 : decode cX0_readBinary 158 = .ok (.invokevirtual 30, 3) := by decide +kernel
theorem dX0_readBinary_161 : decode cX0_readBinary 161 = .ok (.ireturn, 1) := by decide +kernel
theorem dX0_readBinary_162 : decode cX0_readBinary 162 = .ok (.aload_n 0, 1) := by decide +kernel
theorem dX0_readBinary_163 : decode cX0_readBinary 163 = .ok (.aload_n 1, 1) := by decide +kernel
theorem dX0_readBinary_164 : decode cX0_readBinary 164 = .ok (.iconst 2, 1) := by decide +kernel
theorem dX0_readBinary_165 : decode cX0_readBinary 165 = .ok (.iconst 0, 1) := by decide +kernel
theorem dX0_readBinary_166 : decode cX0_readBinary 166 = .ok (.invokevirtual 30, 3) := by decide +kernel
theorem dX0_readBinary_169 : decode cX0_readBinary 169 = .ok (.ireturn, 1) := by decide +kernel
theorem dX0_readBinary_170 : decode cX0_readBinary 170 = .ok (.aload_n 0, 1) := by decide +kernel
theorem dX0_readBinary_171 : decode cX0_readBinary 171 = .ok (.aload_n 1, 1) := by decide +kernel
theorem dX0_readBinary_172 : decode cX0_readBinary 172 = .ok (.iconst 2, 1) := by decide +kernel
theorem dX0_readBinary_173 : decode cX0_readBinary 173 = .ok (.iconst 1, 1) := by decide +kernel
theorem dX0_readBinary_174 : decode cX0_readBinary 174 = .ok (.invokevirtual 30, 3) := by decide +kernel
theorem dX0_readBinary_177 : decode cX0_readBinary 177 = .ok (.ireturn, 1) := by decide +kernel
theorem dX0_readBinary_178 : decode cX0_readBinary 178 = .ok (.aload_n 0, 1) := by decide +kernel
theorem dX0_readBinary_179 : decode cX0_readBinary 179 = .ok (.aload_n 1, 1) := by decide +kernel
theorem dX0_readBinary_180 : decode cX0_readBinary 180 = .ok (.bipush 14, 2) := by decide +kernel
theorem dX0_readBinary_182 : decode cX0_readBinary 182 = .ok (.invokevirtual 33, 3) := by decide +kernel
theorem dX0_readBinary_185 : decode cX0_readBinary 185 = .ok (.ireturn, 1) := by decide +kernel
theorem dX0_readBinary_186 : decode cX0_readBinary 186 = .ok (.aload_n 0, 1) := by decide +kernel
theorem dX0_readBinary_187 : decode cX0_readBinary 187 = .ok (.aload_n 1, 1) := by decide +kernel
theorem dX0_readBinary_188 : decode cX0_readBinary 188 = .ok (.bipush 15, 2) := by decide +kernel
theorem dX0_readBinary_190 : decode cX0_readBinary 190 = .ok (.invokevirtual 33, 3) := by decide +kernel
theorem dX0_readBinary_193 : decode cX0_readBinary 193 = .ok (.ireturn, 1) := by decide +kernel
theorem dX0_readBinary_194 : decode cX0_readBinary 194 = .ok (.aload_n 0, 1) := by decide +kernel
theorem dX0_readBinary_195 : decode cX0_readBinary 195 = .ok (.aload_n 1, 1) := by decide +kernel
theorem dX0_readBinary_196 : decode cX0_readBinary 196 = .ok (.invokevirtual 37, 3) := by decide +kernel
theorem dX0_readBinary_199 : decode cX0_readBinary 199 = .ok (.ireturn, 1) := by decide +kernel
theorem dX0_readBinary_200 : decode cX0_readBinary 200 = .ok (.bipush (-5), 2) := by decide +kernel
theorem dX0_readBinary_202 : decode cX0_readBinary 202 = .ok (.ireturn, 1) := by decide +kernel
theorem dX0_reaches_0 : decode cX0_reaches 0 = .ok (.aload_n 1, 1) := by decide +kernel
theorem dX0_reaches_1 : decode cX0_reaches 1 = .ok (.iload_n 2, 1) := by decide +kernel
theorem dX0_reaches_2 : decode cX0_reaches 2 = .ok (.putfield 40, 3) := by decide +kernel
theorem dX0_reaches_5 : decode cX0_reaches 5 = .ok (.iload_n 2, 1) := by decide +kernel
theorem dX0_reaches_6 : decode cX0_reaches 6 = .ok (.aload_n 0, 1) := by decide +kernel
theorem dX0_reaches_7 : decode cX0_reaches 7 = .ok (.getfield 9, 3) := by decide +kernel
theorem dX0_reaches_10 : decode cX0_reaches 10 = .ok (.getfield 46, 3) := by decide +kernel
theorem dX0_reaches_13 : decode cX0_reaches 13 = .ok (.if_icmp .gt 7, 3) := by decide +kernel
theorem dX0_reaches_16 : decode cX0_reaches 16 = .ok (.iconst 1, 1) := by decide +kernel
theorem dX0_reaches_17 : decode cX0_reaches 17 = .ok (.goto 4, 3) := by decide +kernel
theorem dX0_reaches_20 : decode cX0_reaches 20 = .ok (.iconst 0, 1) := by decide +kernel
theorem dX0_reaches_21 : decode cX0_reaches 21 = .ok (.ireturn, 1) := by decide +kernel
theorem dX0_readNumber_0 : decode cX0_readNumber 0 = .ok (.aload_n 1, 1) := by decide +kernel
theorem dX0_readNumber_1 : decode cX0_readNumber 1 = .ok (.getfield 51, 3) := by decide +kernel
theorem dX0_readNumber_4 : decode cX0_readNumber 4 = .ok (.iconst 1, 1) := by decide +kernel
theorem dX0_readNumber_5 : decode cX0_readNumber 5 = .ok (.iadd, 1) := by decide +kernel
theorem dX0_readNumber_6 : decode cX0_readNumber 6 = .ok (.istore 4, 2) := by decide +kernel
theorem dX0_readNumber_8 : decode cX0_readNumber 8 = .ok (.aload_n 0, 1) := by decide +kernel
theorem dX0_readNumber_9 : decode cX0_readNumber 9 = .ok (.aload_n 1, 1) := by decide +kernel
theorem dX0_readNumber_10 : decode cX0_readNumber 10 = .ok (.iload 4, 2) := by decide +kernel
theorem dX0_readNumber_12 : decode cX0_readNumber 12 = .ok (.iload_n 2, 1) := by decide +kernel
theorem dX0_readNumber_13 : decode cX0_readNumber 13 = .ok (.iadd, 1) := by decide +kernel
theorem dX0_readNumber_14 : decode cX0_readNumber 14 = .ok (.invokevirtual 54, 3) := by decide +kernel
theorem dX0_readNumber_17 : decode cX0_readNumber 17 = .ok (.ifCond .ne 12, 3) := by decide +kernel
theorem dX0_readNumber_20 : decode cX0_readNumber 20 = .ok (.aload_n 0, 1) := by decide +kernel
theorem dX0_readNumber_21 : decode cX0_readNumber 21 = .ok (.getfield 9, 3) := by decide +kernel
theorem dX0_readNumber_24 : decode cX0_readNumber 24 = .ok (.aload_n 1, 1) := by decide +kernel
theorem dX0_readNumber_25 : decode cX0_readNumber 25 = .ok (.invokevirtual 58, 3) := by decide +kernel
theorem dX0_readNumber_28 : decode cX0_readNumber 28 = .ok (.ireturn, 1) := by decide +kernel
theorem dX0_readNumber_29 : decode cX0_readNumber 29 = .ok (.aload_n 1, 1) := by decide +kernel
theorem dX0_readNumber_30 : decode cX0_readNumber 30 = .ok (.iconst 1, 1) := by decide +kernel
theorem dX0_readNumber_31 : decode cX0_readNumber 31 = .ok (.aload_n 0, 1) := by decide +kernel
theorem dX0_readNumber_32 : decode cX0_readNumber 32 = .ok (.iload 4, 2) := by decide +kernel
theorem dX0_readNumber_34 : decode cX0_readNumber 34 = .ok (.iload_n 2, 1) := by decide +kernel
theorem dX0_readNumber_35 : decode cX0_readNumber 35 = .ok (.iload_n 3, 1) := by decide +kernel
theorem dX0_readNumber_36 : decode cX0_readNumber 36 = .ok (.invokevirtual 61, 3) := by decide +kernel
theorem dX0_readNumber_39 : decode cX0_readNumber 39 = .ok (.i2l, 1) := by decide +kernel
theorem dX0_readNumber_40 : decode cX0_readNumber 40 = .ok (.invokevirtual 65, 3) := by decide +kernel
theorem dX0_readNumber_43 : decode cX0_readNumber 43 = .ok (.ireturn, 1) := by decide +kernel
theorem dX0_readFixed_0 : decode cX0_readFixed 0 = .ok (.aload_n 1, 1) := by decide +kernel
theorem dX0_readFixed_1 : decode cX0_readFixed 1 = .ok (.getfield 51, 3) := by decide +kernel
theorem dX0_readFixed_4 : decode cX0_readFixed 4 = .ok (.iconst 2, 1) := by decide +kernel
theorem dX0_readFixed_5 : decode cX0_readFixed 5 = .ok (.iadd, 1) := by decide +kernel
theorem dX0_readFixed_6 : decode cX0_readFixed 6 = .ok (.istore_n 2, 1) := by decide +kernel
theorem dX0_readFixed_7 : decode cX0_readFixed 7 = .ok (.aload_n 0, 1) := by decide +kernel
theorem dX0_readFixed_8 : decode cX0_readFixed 8 = .ok (.getfield 9, 3) := by decide +kernel
theorem dX0_readFixed_11 : decode cX0_readFixed 11 = .ok (.iload_n 2, 1) := by decide +kernel
theorem dX0_readFixed_12 : decode cX0_readFixed 12 = .ok (.iconst 1, 1) := by decide +kernel
theorem dX0_readFixed_13 : decode cX0_readFixed 13 = .ok (.isub, 1) := by decide +kernel
theorem dX0_readFixed_14 : decode cX0_readFixed 14 = .ok (.invokevirtual 69, 3) := by decide +kernel
theorem dX0_readFixed_17 : decode cX0_readFixed 17 = .ok (.istore_n 3, 1) := by decide +kernel
theorem dX0_readFixed_18 : decode cX0_readFixed 18 = .ok (.iload_n 3, 1) := by decide +kernel
theorem dX0_readFixed_19 : decode cX0_readFixed 19 = .ok (.iconst (-1), 1) := by decide +kernel
theorem dX0_readFixed_20 : decode cX0_readFixed 20 = .ok (.if_icmp .ne 12, 3) := by decide +kernel
theorem dX0_readFixed_23 : decode cX0_readFixed 23 = .ok (.aload_n 0, 1) := by decide +kernel
theorem dX0_readFixed_24 : decode cX0_readFixed 24 = .ok (.getfield 9, 3) := by decide +kernel
theorem dX0_readFixed_27 : decode cX0_readFixed 27 = .ok (.aload_n 1, 1) := by decide +kernel
theorem dX0_readFixed_28 : decode cX0_readFixed 28 = .ok (.invokevirtual 58, 3) := by decide +kernel
theorem dX0_readFixed_31 : decode cX0_readFixed 31 = .ok (.ireturn, 1) := by decide +kernel
theorem dX0_readFixed_32 : decode cX0_readFixed 32 = .ok (.iload_n 3, 1) := by decide +kernel
theorem dX0_readFixed_33 : decode cX0_readFixed 33 = .ok (.bipush 127, 2) := by decide +kernel
theorem dX0_readFixed_35 : decode cX0_readFixed 35 = .ok (.iand, 1) := by decide +kernel
theorem dX0_readFixed_36 : decode cX0_readFixed 36 = .ok (.bipush 48, 2) := by decide +kernel
theorem dX0_readFixed_38 : decode cX0_readFixed 38 = .ok (.if_icmp .lt 13, 3) := by decide +kernel
theorem dX0_readFixed_41 : decode cX0_readFixed 41 = .ok (.aload_n 1, 1) := by decide +kernel
theorem dX0_readFixed_42 : decode cX0_readFixed 42 = .ok (.bipush (-5), 2) := by decide +kernel
theorem dX0_readFixed_44 : decode cX0_readFixed 44 = .ok (.iload_n 2, 1) := by decide +kernel
theorem dX0_readFixed_45 : decode cX0_readFixed 45 = .ok (.iconst 1, 1) := by decide +kernel
theorem dX0_readFixed_46 : decode cX0_readFixed 46 = .ok (.isub, 1) := by decide +kernel
theorem dX0_readFixed_47 : decode cX0_readFixed 47 = .ok (.invokevirtual 73, 3) := by decide +kernel
theorem dX0_readFixed_50 : decode cX0_readFixed 50 = .ok (.ireturn, 1) := by decide +kernel
theorem dX0_readFixed_51 : decode cX0_readFixed 51 = .ok (.iload_n 3, 1) := by decide +kernel
theorem dX0_readFixed_52 : decode cX0_readFixed 52 = .ok (.invokestatic 77, 3) := by decide +kernel
theorem dX0_readFixed_55 : decode cX0_readFixed 55 = .ok (.istore 4, 2) := by decide +kernel
theorem dX0_readFixed_57 : decode cX0_readFixed 57 = .ok (.aload_n 0, 1) := by decide +kernel
theorem dX0_readFixed_58 : decode cX0_readFixed 58 = .ok (.aload_n 1, 1) := by decide +kernel
theorem dX0_readFixed_59 : decode cX0_readFixed 59 = .ok (.iload_n 2, 1) := by decide +kernel
theorem dX0_readFixed_60 : decode cX0_readFixed 60 = .ok (.iload 4, 2) := by decide +kernel
theorem dX0_readFixed_62 : decode cX0_readFixed 62 = .ok (.iadd, 1) := by decide +kernel
theorem dX0_readFixed_63 : decode cX0_readFixed 63 = .ok (.invokevirtual 54, 3) := by decide +kernel
theorem dX0_readFixed_66 : decode cX0_readFixed 66 = .ok (.ifCond .ne 12, 3) := by decide +kernel
theorem dX0_readFixed_69 : decode cX0_readFixed 69 = .ok (.aload_n 0, 1) := by decide +kernel
theorem dX0_readFixed_70 : decode cX0_readFixed 70 = .ok (.getfield 9, 3) := by decide +kernel
theorem dX0_readFixed_73 : decode cX0_readFixed 73 = .ok (.aload_n 1, 1) := by decide +kernel
theorem dX0_readFixed_74 : decode cX0_readFixed 74 = .ok (.invokevirtual 58, 3) := by decide +kernel
theorem dX0_readFixed_77 : decode cX0_readFixed 77 = .ok (.ireturn, 1) := by decide +kernel
theorem dX0_readFixed_78 : decode cX0_readFixed 78 = .ok (.aload_n 1, 1) := by decide +kernel
theorem dX0_readFixed_79 : decode cX0_readFixed 79 = .ok (.aload_n 0, 1) := by decide +kernel
theorem dX0_readFixed_80 : decode cX0_readFixed 80 = .ok (.iload_n 2, 1) := by decide +kernel
theorem dX0_readFixed_81 : decode cX0_readFixed 81 = .ok (.iload 4, 2) := by decide +kernel
theorem dX0_readFixed_83 : decode cX0_readFixed 83 = .ok (.iload_n 3, 1) := by decide +kernel
theorem dX0_readFixed_84 : decode cX0_readFixed 84 = .ok (.sipush 128, 3) := by decide +kernel
theorem dX0_readFixed_87 : decode cX0_readFixed 87 = .ok (.if_icmp .lt 7, 3) := by decide +kernel
theorem dX0_readFixed_90 : decode cX0_readFixed 90 = .ok (.iconst 1, 1) := by decide +kernel
theorem dX0_readFixed_91 : decode cX0_readFixed 91 = .ok (.goto 4, 3) := by decide +kernel
theorem dX0_readFixed_94 : decode cX0_readFixed 94 = .ok (.iconst 0, 1) := by decide +kernel
theorem dX0_readFixed_95 : decode cX0_readFixed 95 = .ok (.invokevirtual 61, 3) := by decide +kernel
theorem dX0_readFixed_98 : decode cX0_readFixed 98 = .ok (.iload_n 3, 1) := by decide +kernel
theorem dX0_readFixed_99 : decode cX0_readFixed 99 = .ok (.invokestatic 80, 3) := by decide +kernel
theorem dX0_readFixed_102 : decode cX0_readFixed 102 = .ok (.invokevirtual 84, 3) := by decide +kernel
theorem dX0_readFixed_105 : decode cX0_readFixed 105 = .ok (.ireturn, 1) := by decide +kernel
theorem dX0_readFloat_0 : decode cX0_readFloat 0 = .ok (.aload_n 1, 1) := by decide +kernel
theorem dX0_readFloat_1 : decode cX0_readFloat 1 = .ok (.getfield 51, 3) := by decide +kernel
theorem dX0_readFloat_4 : decode cX0_readFloat 4 = .ok (.iconst 1, 1) := by decide +kernel
theorem dX0_readFloat_5 : decode cX0_readFloat 5 = .ok (.iadd, 1) := by decide +kernel
theorem dX0_readFloat_6 : decode cX0_readFloat 6 = .ok (.istore_n 3, 1) := by decide +kernel
theorem dX0_readFloat_7 : decode cX0_readFloat 7 = .ok (.aload_n 0, 1) := by decide +kernel
theorem dX0_readFloat_8 : decode cX0_readFloat 8 = .ok (.aload_n 1, 1) := by decide +kernel
theorem dX0_readFloat_9 : decode cX0_readFloat 9 = .ok (.iload_n 3, 1) := by decide +kernel
theorem dX0_readFloat_10 : decode cX0_readFloat 10 = .ok (.iconst 4, 1) := by decide +kernel
theorem dX0_readFloat_11 : decode cX0_readFloat 11 = .ok (.iadd, 1) := by decide +kernel
theorem dX0_readFloat_12 : decode cX0_readFloat 12 = .ok (.invokevirtual 54, 3) := by decide +kernel
theorem dX0_readFloat_15 : decode cX0_readFloat 15 = .ok (.ifCond .ne 12, 3) := by decide +kernel
theorem dX0_readFloat_18 : decode cX0_readFloat 18 = .ok (.aload_n 0, 1) := by decide +kernel
theorem dX0_readFloat_19 : decode cX0_readFloat 19 = .ok (.getfield 9, 3) := by decide +kernel
theorem dX0_readFloat_22 : decode cX0_readFloat 22 = .ok (.aload_n 1, 1) := by decide +kernel
theorem dX0_readFloat_23 : decode cX0_readFloat 23 = .ok (.invokevirtual 58, 3) := by decide +kernel
theorem dX0_readFloat_26 : decode cX0_readFloat 26 = .ok (.ireturn, 1) := by decide +kernel
theorem dX0_readFloat_27 : decode cX0_readFloat 27 = .ok (.aload_n 0, 1) := by decide +kernel
theorem dX0_readFloat_28 : decode cX0_readFloat 28 = .ok (.iload_n 3, 1) := by decide +kernel
theorem dX0_readFloat_29 : decode cX0_readFloat 29 = .ok (.iconst 4, 1) := by decide +kernel
theorem dX0_readFloat_30 : decode cX0_readFloat 30 = .ok (.iload_n 2, 1) := by decide +kernel
theorem dX0_readFloat_31 : decode cX0_readFloat 31 = .ok (.invokevirtual 61, 3) := by decide +kernel
theorem dX0_readFloat_34 : decode cX0_readFloat 34 = .ok (.istore 4, 2) := by decide +kernel
theorem dX0_readFloat_36 : decode cX0_readFloat 36 = .ok (.iload 4, 2) := by decide +kernel
theorem dX0_readFloat_38 : decode cX0_readFloat 38 = .ok (.invokestatic 88, 3) := by decide +kernel
theorem dX0_readFloat_41 : decode cX0_readFloat 41 = .ok (.ifCond .eq 15, 3) := by decide +kernel
theorem dX0_readFloat_44 : decode cX0_readFloat 44 = .ok (.aload_n 1, 1) := by decide +kernel
theorem dX0_readFloat_45 : decode cX0_readFloat 45 = .ok (.iload 4, 2) := by decide +kernel
theorem dX0_readFloat_47 : decode cX0_readFloat 47 = .ok (.invokestatic 92, 3) := by decide +kernel
theorem dX0_readFloat_50 : decode cX0_readFloat 50 = .ok (.invokevirtual 84, 3) := by decide +kernel
theorem dX0_readFloat_53 : decode cX0_readFloat 53 = .ok (.goto 5, 3) := by decide +kernel
theorem dX0_readFloat_56 : decode cX0_readFloat 56 = .ok (.bipush (-6), 2) := by decide +kernel
theorem dX0_readFloat_58 : decode cX0_readFloat 58 = .ok (.ireturn, 1) := by decide +kernel
theorem dX0_readTruth_0 : decode cX0_readTruth 0 = .ok (.aload_n 1, 1) := by decide +kernel
theorem dX0_readTruth_1 : decode cX0_readTruth 1 = .ok (.getfield 51, 3) := by decide +kernel
theorem dX0_readTruth_4 : decode cX0_readTruth 4 = .ok (.iconst 1, 1) := by decide +kernel
theorem dX0_readTruth_5 : decode cX0_readTruth 5 = .ok (.iadd, 1) := by decide +kernel
theorem dX0_readTruth_6 : decode cX0_readTruth 6 = .ok (.istore_n 2, 1) := by decide +kernel
theorem dX0_readTruth_7 : decode cX0_readTruth 7 = .ok (.aload_n 0, 1) := by decide +kernel
theorem dX0_readTruth_8 : decode cX0_readTruth 8 = .ok (.getfield 9, 3) := by decide +kernel
theorem dX0_readTruth_11 : decode cX0_readTruth 11 = .ok (.iload_n 2, 1) := by decide +kernel
theorem dX0_readTruth_12 : decode cX0_readTruth 12 = .ok (.invokevirtual 69, 3) := by decide +kernel
theorem dX0_readTruth_15 : decode cX0_readTruth 15 = .ok (.istore_n 3, 1) := by decide +kernel
theorem dX0_readTruth_16 : decode cX0_readTruth 16 = .ok (.iload_n 3, 1) := by decide +kernel
theorem dX0_readTruth_17 : decode cX0_readTruth 17 = .ok (.iconst 1, 1) := by decide +kernel
theorem dX0_readTruth_18 : decode cX0_readTruth 18 = .ok (.if_icmp .le 11, 3) := by decide +kernel
theorem dX0_readTruth_21 : decode cX0_readTruth 21 = .ok (.aload_n 1, 1) := by decide +kernel
theorem dX0_readTruth_22 : decode cX0_readTruth 22 = .ok (.bipush (-5), 2) := by decide +kernel
theorem dX0_readTruth_24 : decode cX0_readTruth 24 = .ok (.iload_n 2, 1) := by decide +kernel
theorem dX0_readTruth_25 : decode cX0_readTruth 25 = .ok (.invokevirtual 73, 3) := by decide +kernel
theorem dX0_readTruth_28 : decode cX0_readTruth 28 = .ok (.ireturn, 1) := by decide +kernel
theorem dX0_readTruth_29 : decode cX0_readTruth 29 = .ok (.aload_n 0, 1) := by decide +kernel
theorem dX0_readTruth_30 : decode cX0_readTruth 30 = .ok (.aload_n 1, 1) := by decide +kernel
theorem dX0_readTruth_31 : decode cX0_readTruth 31 = .ok (.bipush 13, 2) := by decide +kernel
theorem dX0_readTruth_33 : decode cX0_readTruth 33 = .ok (.invokevirtual 33, 3) := by decide +kernel
theorem dX0_readTruth_36 : decode cX0_readTruth 36 = .ok (.ireturn, 1) := by decide +kernel
theorem dX0_readNumbered_0 : decode cX0_readNumbered 0 = .ok (.aload_n 1, 1) := by decide +kernel
theorem dX0_readNumbered_1 : decode cX0_readNumbered 1 = .ok (.getfield 51, 3) := by decide +kernel
theorem dX0_readNumbered_4 : decode cX0_readNumbered 4 = .ok (.iconst 1, 1) := by decide +kernel
theorem dX0_readNumbered_5 : decode cX0_readNumbered 5 = .ok (.iadd, 1) := by decide +kernel
theorem dX0_readNumbered_6 : decode cX0_readNumbered 6 = .ok (.istore_n 3, 1) := by decide +kernel
theorem dX0_readNumbered_7 : decode cX0_readNumbered 7 = .ok (.aload_n 0, 1) := by decide +kernel
theorem dX0_readNumbered_8 : decode cX0_readNumbered 8 = .ok (.aload_n 1, 1) := by decide +kernel
theorem dX0_readNumbered_9 : decode cX0_readNumbered 9 = .ok (.iload_n 3, 1) := by decide +kernel
theorem dX0_readNumbered_10 : decode cX0_readNumbered 10 = .ok (.iconst 1, 1) := by decide +kernel
theorem dX0_readNumbered_11 : decode cX0_readNumbered 11 = .ok (.iadd, 1) := by decide +kernel
theorem dX0_readNumbered_12 : decode cX0_readNumbered 12 = .ok (.invokevirtual 54, 3) := by decide +kernel
theorem dX0_readNumbered_15 : decode cX0_readNumbered 15 = .ok (.ifCond .ne 12, 3) := by decide +kernel
theorem dX0_readNumbered_18 : decode cX0_readNumbered 18 = .ok (.aload_n 0, 1) := by decide +kernel
theorem dX0_readNumbered_19 : decode cX0_readNumbered 19 = .ok (.getfield 9, 3) := by decide +kernel
theorem dX0_readNumbered_22 : decode cX0_readNumbered 22 = .ok (.aload_n 1, 1) := by decide +kernel
theorem dX0_readNumbered_23 : decode cX0_readNumbered 23 = .ok (.invokevirtual 58, 3) := by decide +kernel
theorem dX0_readNumbered_26 : decode cX0_readNumbered 26 = .ok (.ireturn, 1) := by decide +kernel
theorem dX0_readNumbered_27 : decode cX0_readNumbered 27 = .ok (.aload_n 1, 1) := by decide +kernel
theorem dX0_readNumbered_28 : decode cX0_readNumbered 28 = .ok (.iload_n 2, 1) := by decide +kernel
theorem dX0_readNumbered_29 : decode cX0_readNumbered 29 = .ok (.aload_n 0, 1) := by decide +kernel
theorem dX0_readNumbered_30 : decode cX0_readNumbered 30 = .ok (.getfield 9, 3) := by decide +kernel
theorem dX0_readNumbered_33 : decode cX0_readNumbered 33 = .ok (.iload_n 3, 1) := by decide +kernel
theorem dX0_readNumbered_34 : decode cX0_readNumbered 34 = .ok (.invokevirtual 69, 3) := by decide +kernel
theorem dX0_readNumbered_37 : decode cX0_readNumbered 37 = .ok (.i2l, 1) := by decide +kernel
theorem dX0_readNumbered_38 : decode cX0_readNumbered 38 = .ok (.invokevirtual 65, 3) := by decide +kernel
theorem dX0_readNumbered_41 : decode cX0_readNumbered 41 = .ok (.ireturn, 1) := by decide +kernel
theorem dX0_readString_0 : decode cX0_readString 0 = .ok (.aload_n 1, 1) := by decide +kernel
theorem dX0_readString_1 : decode cX0_readString 1 = .ok (.getfield 51, 3) := by decide +kernel
theorem dX0_readString_4 : decode cX0_readString 4 = .ok (.iconst 1, 1) := by decide +kernel
theorem dX0_readString_5 : decode cX0_readString 5 = .ok (.iadd, 1) := by decide +kernel
theorem dX0_readString_6 : decode cX0_readString 6 = .ok (.iload_n 2, 1) := by decide +kernel
theorem dX0_readString_7 : decode cX0_readString 7 = .ok (.iadd, 1) := by decide +kernel
theorem dX0_readString_8 : decode cX0_readString 8 = .ok (.istore 4, 2) := by decide +kernel
theorem dX0_readString_10 : decode cX0_readString 10 = .ok (.aload_n 0, 1) := by decide +kernel
theorem dX0_readString_11 : decode cX0_readString 11 = .ok (.aload_n 1, 1) := by decide +kernel
theorem dX0_readString_12 : decode cX0_readString 12 = .ok (.iload 4, 2) := by decide +kernel
theorem dX0_readString_14 : decode cX0_readString 14 = .ok (.invokevirtual 54, 3) := by decide +kernel
theorem dX0_readString_17 : decode cX0_readString 17 = .ok (.ifCond .ne 12, 3) := by decide +kernel
theorem dX0_readString_20 : decode cX0_readString 20 = .ok (.aload_n 0, 1) := by decide +kernel
theorem dX0_readString_21 : decode cX0_readString 21 = .ok (.getfield 9, 3) := by decide +kernel
theorem dX0_readString_24 : decode cX0_readString 24 = .ok (.aload_n 1, 1) := by decide +kernel
theorem dX0_readString_25 : decode cX0_readString 25 = .ok (.invokevirtual 58, 3) := by decide +kernel
theorem dX0_readString_28 : decode cX0_readString 28 = .ok (.ireturn, 1) := by decide +kernel
theorem dX0_readString_29 : decode cX0_readString 29 = .ok (.iload 4, 2) := by decide +kernel
theorem dX0_readString_31 : decode cX0_readString 31 = .ok (.aload_n 0, 1) := by decide +kernel
theorem dX0_readString_32 : decode cX0_readString 32 = .ok (.iload 4, 2) := by decide +kernel
theorem dX0_readString_34 : decode cX0_readString 34 = .ok (.iload_n 2, 1) := by decide +kernel
theorem dX0_readString_35 : decode cX0_readString 35 = .ok (.isub, 1) := by decide +kernel
theorem dX0_readString_36 : decode cX0_readString 36 = .ok (.iload_n 2, 1) := by decide +kernel
theorem dX0_readString_37 : decode cX0_readString 37 = .ok (.iload_n 3, 1) := by decide +kernel
theorem dX0_readString_38 : decode cX0_readString 38 = .ok (.invokevirtual 96, 3) := by decide +kernel
theorem dX0_readString_41 : decode cX0_readString 41 = .ok (.iadd, 1) := by decide +kernel
theorem dX0_readString_42 : decode cX0_readString 42 = .ok (.istore 5, 2) := by decide +kernel
theorem dX0_readString_44 : decode cX0_readString 44 = .ok (.aload_n 0, 1) := by decide +kernel
theorem dX0_readString_45 : decode cX0_readString 45 = .ok (.aload_n 1, 1) := by decide +kernel
theorem dX0_readString_46 : decode cX0_readString 46 = .ok (.iload 5, 2) := by decide +kernel
theorem dX0_readString_48 : decode cX0_readString 48 = .ok (.invokevirtual 54, 3) := by decide +kernel
theorem dX0_readString_51 : decode cX0_readString 51 = .ok (.ifCond .ne 12, 3) := by decide +kernel
theorem dX0_readString_54 : decode cX0_readString 54 = .ok (.aload_n 0, 1) := by decide +kernel
theorem dX0_readString_55 : decode cX0_readString 55 = .ok (.getfield 9, 3) := by decide +kernel
theorem dX0_readString_58 : decode cX0_readString 58 = .ok (.aload_n 1, 1) := by decide +kernel
theorem dX0_readString_59 : decode cX0_readString 59 = .ok (.invokevirtual 58, 3) := by decide +kernel
theorem dX0_readString_62 : decode cX0_readString 62 = .ok (.ireturn, 1) := by decide +kernel
theorem dX0_readString_63 : decode cX0_readString 63 = .ok (.iload 4, 2) := by decide +kernel
theorem dX0_readString_65 : decode cX0_readString 65 = .ok (.istore 6, 2) := by decide +kernel
theorem dX0_readString_67 : decode cX0_readString 67 = .ok (.iload 6, 2) := by decide +kernel
theorem dX0_readString_69 : decode cX0_readString 69 = .ok (.iload 5, 2) := by decide +kernel
theorem dX0_readString_71 : decode cX0_readString 71 = .ok (.if_icmp .ge 22, 3) := by decide +kernel
theorem dX0_readString_74 : decode cX0_readString 74 = .ok (.aload_n 1, 1) := by decide +kernel
theorem dX0_readString_75 : decode cX0_readString 75 = .ok (.aload_n 0, 1) := by decide +kernel
theorem dX0_readString_76 : decode cX0_readString 76 = .ok (.getfield 9, 3) := by decide +kernel
theorem dX0_readString_79 : decode cX0_readString 79 = .ok (.iload 6, 2) := by decide +kernel
theorem dX0_readString_81 : decode cX0_readString 81 = .ok (.invokevirtual 69, 3) := by decide +kernel
theorem dX0_readString_84 : decode cX0_readString 84 = .ok (.invokevirtual 99, 3) := by decide +kernel
theorem dX0_readString_87 : decode cX0_readString 87 = .ok (.iinc 6 1, 3) := by decide +kernel
theorem dX0_readString_90 : decode cX0_readString 90 = .ok (.goto (-23), 3) := by decide +kernel
theorem dX0_readString_93 : decode cX0_readString 93 = .ok (.aload_n 1, 1) := by decide +kernel
theorem dX0_readString_94 : decode cX0_readString 94 = .ok (.bipush 6, 2) := by decide +kernel
theorem dX0_readString_96 : decode cX0_readString 96 = .ok (.sipush 400, 3) := by decide +kernel
theorem dX0_readString_99 : decode cX0_readString 99 = .ok (.invokevirtual 103, 3) := by decide +kernel
theorem dX0_readString_102 : decode cX0_readString 102 = .ok (.ireturn, 1) := by decide +kernel
theorem dX0_readRow_0 : decode cX0_readRow 0 = .ok (.aload_n 1, 1) := by decide +kernel
theorem dX0_readRow_1 : decode cX0_readRow 1 = .ok (.getfield 51, 3) := by decide +kernel
theorem dX0_readRow_4 : decode cX0_readRow 4 = .ok (.iconst 4, 1) := by decide +kernel
theorem dX0_readRow_5 : decode cX0_readRow 5 = .ok (.iadd, 1) := by decide +kernel
theorem dX0_readRow_6 : decode cX0_readRow 6 = .ok (.istore_n 2, 1) := by decide +kernel
theorem dX0_readRow_7 : decode cX0_readRow 7 = .ok (.aload_n 0, 1) := by decide +kernel
theorem dX0_readRow_8 : decode cX0_readRow 8 = .ok (.getfield 9, 3) := by decide +kernel
theorem dX0_readRow_11 : decode cX0_readRow 11 = .ok (.aload_n 1, 1) := by decide +kernel
theorem dX0_readRow_12 : decode cX0_readRow 12 = .ok (.getfield 51, 3) := by decide +kernel
theorem dX0_readRow_15 : decode cX0_readRow 15 = .ok (.iconst 1, 1) := by decide +kernel
theorem dX0_readRow_16 : decode cX0_readRow 16 = .ok (.iadd, 1) := by decide +kernel
theorem dX0_readRow_17 : decode cX0_readRow 17 = .ok (.invokevirtual 69, 3) := by decide +kernel
theorem dX0_readRow_20 : decode cX0_readRow 20 = .ok (.istore_n 3, 1) := by decide +kernel
theorem dX0_readRow_21 : decode cX0_readRow 21 = .ok (.iload_n 3, 1) := by decide +kernel
theorem dX0_readRow_22 : decode cX0_readRow 22 = .ok (.iconst (-1), 1) := by decide +kernel
theorem dX0_readRow_23 : decode cX0_readRow 23 = .ok (.if_icmp .eq 25, 3) := by decide +kernel
theorem dX0_readRow_26 : decode cX0_readRow 26 = .ok (.iload_n 3, 1) := by decide +kernel
theorem dX0_readRow_27 : decode cX0_readRow 27 = .ok (.bipush 127, 2) := by decide +kernel
theorem dX0_readRow_29 : decode cX0_readRow 29 = .ok (.iand, 1) := by decide +kernel
theorem dX0_readRow_30 : decode cX0_readRow 30 = .ok (.bipush 48, 2) := by decide +kernel
theorem dX0_readRow_32 : decode cX0_readRow 32 = .ok (.if_icmp .le 16, 3) := by decide +kernel
theorem dX0_readRow_35 : decode cX0_readRow 35 = .ok (.aload_n 1, 1) := by decide +kernel
theorem dX0_readRow_36 : decode cX0_readRow 36 = .ok (.bipush (-5), 2) := by decide +kernel
theorem dX0_readRow_38 : decode cX0_readRow 38 = .ok (.aload_n 1, 1) := by decide +kernel
theorem dX0_readRow_39 : decode cX0_readRow 39 = .ok (.getfield 51, 3) := by decide +kernel
theorem dX0_readRow_42 : decode cX0_readRow 42 = .ok (.iconst 1, 1) := by decide +kernel
theorem dX0_readRow_43 : decode cX0_readRow 43 = .ok (.iadd, 1) := by decide +kernel
theorem dX0_readRow_44 : decode cX0_readRow 44 = .ok (.invokevirtual 73, 3) := by decide +kernel
theorem dX0_readRow_47 : decode cX0_readRow 47 = .ok (.ireturn, 1) := by decide +kernel
theorem dX0_readRow_48 : decode cX0_readRow 48 = .ok (.aload_n 0, 1) := by decide +kernel
theorem dX0_readRow_49 : decode cX0_readRow 49 = .ok (.aload_n 1, 1) := by decide +kernel
theorem dX0_readRow_50 : decode cX0_readRow 50 = .ok (.iload_n 2, 1) := by decide +kernel
theorem dX0_readRow_51 : decode cX0_readRow 51 = .ok (.invokevirtual 54, 3) := by decide +kernel
theorem dX0_readRow_54 : decode cX0_readRow 54 = .ok (.ifCond .ne 12, 3) := by decide +kernel
theorem dX0_readRow_57 : decode cX0_readRow 57 = .ok (.aload_n 0, 1) := by decide +kernel
theorem dX0_readRow_58 : decode cX0_readRow 58 = .ok (.getfield 9, 3) := by decide +kernel
theorem dX0_readRow_61 : decode cX0_readRow 61 = .ok (.aload_n 1, 1) := by decide +kernel
theorem dX0_readRow_62 : decode cX0_readRow 62 = .ok (.invokevirtual 58, 3) := by decide +kernel
theorem dX0_readRow_65 : decode cX0_readRow 65 = .ok (.ireturn, 1) := by decide +kernel
theorem dX0_readRow_66 : decode cX0_readRow 66 = .ok (.aload_n 0, 1) := by decide +kernel
theorem dX0_readRow_67 : decode cX0_readRow 67 = .ok (.iload_n 2, 1) := by decide +kernel
theorem dX0_readRow_68 : decode cX0_readRow 68 = .ok (.iconst 2, 1) := by decide +kernel
theorem dX0_readRow_69 : decode cX0_readRow 69 = .ok (.isub, 1) := by decide +kernel
theorem dX0_readRow_70 : decode cX0_readRow 70 = .ok (.iconst 2, 1) := by decide +kernel
theorem dX0_readRow_71 : decode cX0_readRow 71 = .ok (.iload_n 3, 1) := by decide +kernel
theorem dX0_readRow_72 : decode cX0_readRow 72 = .ok (.sipush 128, 3) := by decide +kernel
theorem dX0_readRow_75 : decode cX0_readRow 75 = .ok (.if_icmp .lt 7, 3) := by decide +kernel
theorem dX0_readRow_78 : decode cX0_readRow 78 = .ok (.iconst 1, 1) := by decide +kernel
theorem dX0_readRow_79 : decode cX0_readRow 79 = .ok (.goto 4, 3) := by decide +kernel
theorem dX0_readRow_82 : decode cX0_readRow 82 = .ok (.iconst 0, 1) := by decide +kernel
theorem dX0_readRow_83 : decode cX0_readRow 83 = .ok (.invokevirtual 96, 3) := by decide +kernel
theorem dX0_readRow_86 : decode cX0_readRow 86 = .ok (.istore 4, 2) := by decide +kernel
theorem dX0_readRow_88 : decode cX0_readRow 88 = .ok (.aload_n 0, 1) := by decide +kernel
theorem dX0_readRow_89 : decode cX0_readRow 89 = .ok (.aload_n 1, 1) := by decide +kernel
theorem dX0_readRow_90 : decode cX0_readRow 90 = .ok (.iload_n 2, 1) := by decide +kernel
theorem dX0_readRow_91 : decode cX0_readRow 91 = .ok (.iload 4, 2) := by decide +kernel
theorem dX0_readRow_93 : decode cX0_readRow 93 = .ok (.iload_n 3, 1) := by decide +kernel
theorem dX0_readRow_94 : decode cX0_readRow 94 = .ok (.invokestatic 77, 3) := by decide +kernel
theorem dX0_readRow_97 : decode cX0_readRow 97 = .ok (.imul, 1) := by decide +kernel
theorem dX0_readRow_98 : decode cX0_readRow 98 = .ok (.iadd, 1) := by decide +kernel
theorem dX0_readRow_99 : decode cX0_readRow 99 = .ok (.invokevirtual 54, 3) := by decide +kernel
theorem dX0_readRow_102 : decode cX0_readRow 102 = .ok (.ifCond .ne 12, 3) := by decide +kernel
theorem dX0_readRow_105 : decode cX0_readRow 105 = .ok (.aload_n 0, 1) := by decide +kernel
theorem dX0_readRow_106 : decode cX0_readRow 106 = .ok (.getfield 9, 3) := by decide +kernel
theorem dX0_readRow_109 : decode cX0_readRow 109 = .ok (.aload_n 1, 1) := by decide +kernel
theorem dX0_readRow_110 : decode cX0_readRow 110 = .ok (.invokevirtual 58, 3) := by decide +kernel
theorem dX0_readRow_113 : decode cX0_readRow 113 = .ok (.ireturn, 1) := by decide +kernel
theorem dX0_readRow_114 : decode cX0_readRow 114 = .ok (.iload 4, 2) := by decide +kernel
theorem dX0_readRow_116 : decode cX0_readRow 116 = .ok (.bipush 60, 2) := by decide +kernel
theorem dX0_readRow_118 : decode cX0_readRow 118 = .ok (.if_icmp .le 8, 3) := by decide +kernel
theorem dX0_readRow_121 : decode cX0_readRow 121 = .ok (.bipush (-2), 2) := by decide +kernel
theorem dX0_readRow_123 : decode cX0_readRow 123 = .ok (.goto 12, 3) := by decide +kernel
theorem dX0_readRow_126 : decode cX0_readRow 126 = .ok (.aload_n 0, 1) := by decide +kernel
theorem dX0_readRow_127 : decode cX0_readRow 127 = .ok (.aload_n 1, 1) := by decide +kernel
theorem dX0_readRow_128 : decode cX0_readRow 128 = .ok (.iload_n 2, 1) := by decide +kernel
theorem dX0_readRow_129 : decode cX0_readRow 129 = .ok (.iload 4, 2) := by decide +kernel
theorem dX0_readRow_131 : decode cX0_readRow 131 = .ok (.iload_n 3, 1) := by decide +kernel
theorem dX0_readRow_132 : decode cX0_readRow 132 = .ok (.invokevirtual 106, 3) := by decide +kernel
theorem dX0_readRow_135 : decode cX0_readRow 135 = .ok (.ireturn, 1) := by decide +kernel
theorem dX0_fillRow_0 : decode cX0_fillRow 0 = .ok (.iload 4, 2) := by decide +kernel
theorem dX0_fillRow_2 : decode cX0_fillRow 2 = .ok (.invokestatic 77, 3) := by decide +kernel
theorem dX0_fillRow_5 : decode cX0_fillRow 5 = .ok (.istore 5, 2) := by decide +kernel
theorem dX0_fillRow_7 : decode cX0_fillRow 7 = .ok (.iload 4, 2) := by decide +kernel
theorem dX0_fillRow_9 : decode cX0_fillRow 9 = .ok (.bipush 127, 2) := by decide +kernel
theorem dX0_fillRow_11 : decode cX0_fillRow 11 = .ok (.iand, 1) := by decide +kernel
theorem dX0_fillRow_12 : decode cX0_fillRow 12 = .ok (.bipush 48, 2) := by decide +kernel
theorem dX0_fillRow_14 : decode cX0_fillRow 14 = .ok (.if_icmp .ne 7, 3) := by decide +kernel
theorem dX0_fillRow_17 : decode cX0_fillRow 17 = .ok (.iconst 1, 1) := by decide +kernel
theorem dX0_fillRow_18 : decode cX0_fillRow 18 = .ok (.goto 4, 3) := by decide +kernel
theorem dX0_fillRow_21 : decode cX0_fillRow 21 = .ok (.iconst 0, 1) := by decide +kernel
theorem dX0_fillRow_22 : decode cX0_fillRow 22 = .ok (.istore 6, 2) := by decide +kernel
theorem dX0_fillRow_24 : decode cX0_fillRow 24 = .ok (.iload 6, 2) := by decide +kernel
theorem dX0_fillRow_26 : decode cX0_fillRow 26 = .ok (.ifCond .ne 11, 3) := by decide +kernel
theorem dX0_fillRow_29 : decode cX0_fillRow 29 = .ok (.iload 4, 2) := by decide +kernel
theorem dX0_fillRow_31 : decode cX0_fillRow 31 = .ok (.bipush 31, 2) := by decide +kernel
theorem dX0_fillRow_33 : decode cX0_fillRow 33 = .ok (.iand, 1) := by decide +kernel
theorem dX0_fillRow_34 : decode cX0_fillRow 34 = .ok (.ifCond .eq 7, 3) := by decide +kernel
theorem dX0_fillRow_37 : decode cX0_fillRow 37 = .ok (.iconst 1, 1) := by decide +kernel
theorem dX0_fillRow_38 : decode cX0_fillRow 38 = .ok (.goto 4, 3) := by decide +kernel
theorem dX0_fillRow_41 : decode cX0_fillRow 41 = .ok (.iconst 0, 1) := by decide +kernel
theorem dX0_fillRow_42 : decode cX0_fillRow 42 = .ok (.istore 7, 2) := by decide +kernel
theorem dX0_fillRow_44 : decode cX0_fillRow 44 = .ok (.aload_n 1, 1) := by decide +kernel
theorem dX0_fillRow_45 : decode cX0_fillRow 45 = .ok (.iload 7, 2) := by decide +kernel
theorem dX0_fillRow_47 : decode cX0_fillRow 47 = .ok (.putfield 110, 3) := by decide +kernel
theorem dX0_fillRow_50 : decode cX0_fillRow 50 = .ok (.iconst 0, 1) := by decide +kernel
theorem dX0_fillRow_51 : decode cX0_fillRow 51 = .ok (.istore 8, 2) := by decide +kernel
theorem dX0_fillRow_53 : decode cX0_fillRow 53 = .ok (.iload 8, 2) := by decide +kernel
theorem dX0_fillRow_55 : decode cX0_fillRow 55 = .ok (.iload_n 3, 1) := by decide +kernel
theorem dX0_fillRow_56 : decode cX0_fillRow 56 = .ok (.if_icmp .ge 93, 3) := by decide +kernel
theorem dX0_fillRow_59 : decode cX0_fillRow 59 = .ok (.aload_n 0, 1) := by decide +kernel
theorem dX0_fillRow_60 : decode cX0_fillRow 60 = .ok (.iload_n 2, 1) := by decide +kernel
theorem dX0_fillRow_61 : decode cX0_fillRow 61 = .ok (.iload 8, 2) := by decide +kernel
theorem dX0_fillRow_63 : decode cX0_fillRow 63 = .ok (.iload 5, 2) := by decide +kernel
theorem dX0_fillRow_65 : decode cX0_fillRow 65 = .ok (.imul, 1) := by decide +kernel
theorem dX0_fillRow_66 : decode cX0_fillRow 66 = .ok (.iadd, 1) := by decide +kernel
theorem dX0_fillRow_67 : decode cX0_fillRow 67 = .ok (.iload 5, 2) := by decide +kernel
theorem dX0_fillRow_69 : decode cX0_fillRow 69 = .ok (.iload 4, 2) := by decide +kernel
theorem dX0_fillRow_71 : decode cX0_fillRow 71 = .ok (.sipush 128, 3) := by decide +kernel
theorem dX0_fillRow_74 : decode cX0_fillRow 74 = .ok (.if_icmp .lt 7, 3) := by decide +kernel
theorem dX0_fillRow_77 : decode cX0_fillRow 77 = .ok (.iconst 1, 1) := by decide +kernel
theorem dX0_fillRow_78 : decode cX0_fillRow 78 = .ok (.goto 4, 3) := by decide +kernel
theorem dX0_fillRow_81 : decode cX0_fillRow 81 = .ok (.iconst 0, 1) := by decide +kernel
theorem dX0_fillRow_82 : decode cX0_fillRow 82 = .ok (.invokevirtual 61, 3) := by decide +kernel
theorem dX0_fillRow_85 : decode cX0_fillRow 85 = .ok (.istore 9, 2) := by decide +kernel
theorem dX0_fillRow_87 : decode cX0_fillRow 87 = .ok (.iload 6, 2) := by decide +kernel
theorem dX0_fillRow_89 : decode cX0_fillRow 89 = .ok (.ifCond .eq 14, 3) := by decide +kernel
theorem dX0_fillRow_92 : decode cX0_fillRow 92 = .ok (.iload 9, 2) := by decide +kernel
theorem dX0_fillRow_94 : decode cX0_fillRow 94 = .ok (.invokestatic 88, 3) := by decide +kernel
theorem dX0_fillRow_97 : decode cX0_fillRow 97 = .ok (.ifCond .ne 6, 3) := by decide +kernel
theorem dX0_fillRow_100 : decode cX0_fillRow 100 = .ok (.bipush (-6), 2) := by decide +kernel
theorem dX0_fillRow_102 : decode cX0_fillRow 102 = .ok (.ireturn, 1) := by decide +kernel
theorem dX0_fillRow_103 : decode cX0_fillRow 103 = .ok (.iload 7, 2) := by decide +kernel
theorem dX0_fillRow_105 : decode cX0_fillRow 105 = .ok (.ifCond .eq 31, 3) := by decide +kernel
theorem dX0_fillRow_108 : decode cX0_fillRow 108 = .ok (.aload_n 1, 1) := by decide +kernel
theorem dX0_fillRow_109 : decode cX0_fillRow 109 = .ok (.iconst 0, 1) := by decide +kernel
theorem dX0_fillRow_110 : decode cX0_fillRow 110 = .ok (.iload 6, 2) := by decide +kernel
theorem dX0_fillRow_112 : decode cX0_fillRow 112 = .ok (.ifCond .eq 11, 3) := by decide +kernel
theorem dX0_fillRow_115 : decode cX0_fillRow 115 = .ok (.iload 9, 2) := by decide +kernel
theorem dX0_fillRow_117 : decode cX0_fillRow 117 = .ok (.invokestatic 92, 3) := by decide +kernel
theorem dX0_fillRow_120 : decode cX0_fillRow 120 = .ok (.goto 10, 3) := by decide +kernel
theorem dX0_fillRow_123 : decode cX0_fillRow 123 = .ok (.iload 9, 2) := by decide +kernel
theorem dX0_fillRow_125 : decode cX0_fillRow 125 = .ok (.iload 4, 2) := by decide +kernel
theorem dX0_fillRow_127 : decode cX0_fillRow 127 = .ok (.invokestatic 80, 3) := by decide +kernel
theorem dX0_fillRow_130 : decode cX0_fillRow 130 = .ok (.invokevirtual 114, 3) := by decide +kernel
theorem dX0_fillRow_133 : decode cX0_fillRow 133 = .ok (.goto 10, 3) := by decide +kernel
theorem dX0_fillRow_136 : decode cX0_fillRow 136 = .ok (.aload_n 1, 1) := by decide +kernel
theorem dX0_fillRow_137 : decode cX0_fillRow 137 = .ok (.iload 9, 2) := by decide +kernel
theorem dX0_fillRow_139 : decode cX0_fillRow 139 = .ok (.dconst 0, 1) := by decide +kernel
theorem dX0_fillRow_140 : decode cX0_fillRow 140 = .ok (.invokevirtual 114, 3) := by decide +kernel
theorem dX0_fillRow_143 : decode cX0_fillRow 143 = .ok (.iinc 8 1, 3) := by decide +kernel
theorem dX0_fillRow_146 : decode cX0_fillRow 146 = .ok (.goto (-93), 3) := by decide +kernel
theorem dX0_fillRow_149 : decode cX0_fillRow 149 = .ok (.aload_n 1, 1) := by decide +kernel
theorem dX0_fillRow_150 : decode cX0_fillRow 150 = .ok (.bipush 16, 2) := by decide +kernel
theorem dX0_fillRow_152 : decode cX0_fillRow 152 = .ok (.iload_n 3, 1) := by decide +kernel
theorem dX0_fillRow_153 : decode cX0_fillRow 153 = .ok (.i2l, 1) := by decide +kernel
theorem dX0_fillRow_154 : decode cX0_fillRow 154 = .ok (.invokevirtual 65, 3) := by decide +kernel
theorem dX0_fillRow_157 : decode cX0_fillRow 157 = .ok (.ireturn, 1) := by decide +kernel
theorem dX0_widthOf_0 : decode cX0_widthOf 0 = .ok (.iload_n 0, 1) := by decide +kernel
theorem dX0_widthOf_1 : decode cX0_widthOf 1 = .ok (.bipush 127, 2) := by decide +kernel
theorem dX0_widthOf_3 : decode cX0_widthOf 3 = .ok (.iand, 1) := by decide +kernel
theorem dX0_widthOf_4 : decode cX0_widthOf 4 = .ok (.istore_n 1, 1) := by decide +kernel
theorem dX0_widthOf_5 : decode cX0_widthOf 5 = .ok (.iload_n 1, 1) := by decide +kernel
theorem dX0_widthOf_6 : decode cX0_widthOf 6 = .ok (.bipush 32, 2) := by decide +kernel
theorem dX0_widthOf_8 : decode cX0_widthOf 8 = .ok (.if_icmp .lt 13, 3) := by decide +kernel
theorem dX0_widthOf_11 : decode cX0_widthOf 11 = .ok (.iload_n 1, 1) := by decide +kernel
theorem dX0_widthOf_12 : decode cX0_widthOf 12 = .ok (.bipush 48, 2) := by decide +kernel
theorem dX0_widthOf_14 : decode cX0_widthOf 14 = .ok (.if_icmp .ge 7, 3) := by decide +kernel
theorem dX0_widthOf_17 : decode cX0_widthOf 17 = .ok (.iconst 2, 1) := by decide +kernel
theorem dX0_widthOf_18 : decode cX0_widthOf 18 = .ok (.goto 4, 3) := by decide +kernel
theorem dX0_widthOf_21 : decode cX0_widthOf 21 = .ok (.iconst 4, 1) := by decide +kernel
theorem dX0_widthOf_22 : decode cX0_widthOf 22 = .ok (.ireturn, 1) := by decide +kernel
theorem dX0_fixedValue_0 : decode cX0_fixedValue 0 = .ok (.iload_n 0, 1) := by decide +kernel
theorem dX0_fixedValue_1 : decode cX0_fixedValue 1 = .ok (.i2d, 1) := by decide +kernel
theorem dX0_fixedValue_2 : decode cX0_fixedValue 2 = .ok (.ldc2_w 118, 3) := by decide +kernel
theorem dX0_fixedValue_5 : decode cX0_fixedValue 5 = .ok (.iload_n 1, 1) := by decide +kernel
theorem dX0_fixedValue_6 : decode cX0_fixedValue 6 = .ok (.bipush 31, 2) := by decide +kernel
theorem dX0_fixedValue_8 : decode cX0_fixedValue 8 = .ok (.iand, 1) := by decide +kernel
theorem dX0_fixedValue_9 : decode cX0_fixedValue 9 = .ok (.ineg, 1) := by decide +kernel
theorem dX0_fixedValue_10 : decode cX0_fixedValue 10 = .ok (.invokestatic 120, 3) := by decide +kernel
theorem dX0_fixedValue_13 : decode cX0_fixedValue 13 = .ok (.dreturn, 1) := by decide +kernel
theorem dX0_isFinite_0 : decode cX0_isFinite 0 = .ok (.iload_n 0, 1) := by decide +kernel
theorem dX0_isFinite_1 : decode cX0_isFinite 1 = .ok (.bipush 23, 2) := by decide +kernel
theorem dX0_isFinite_3 : decode cX0_isFinite 3 = .ok (.iushr, 1) := by decide +kernel
theorem dX0_isFinite_4 : decode cX0_isFinite 4 = .ok (.sipush 255, 3) := by decide +kernel
theorem dX0_isFinite_7 : decode cX0_isFinite 7 = .ok (.iand, 1) := by decide +kernel
theorem dX0_isFinite_8 : decode cX0_isFinite 8 = .ok (.sipush 255, 3) := by decide +kernel
theorem dX0_isFinite_11 : decode cX0_isFinite 11 = .ok (.if_icmp .eq 7, 3) := by decide +kernel
theorem dX0_isFinite_14 : decode cX0_isFinite 14 = .ok (.iconst 1, 1) := by decide +kernel
theorem dX0_isFinite_15 : decode cX0_isFinite 15 = .ok (.goto 4, 3) := by decide +kernel
theorem dX0_isFinite_18 : decode cX0_isFinite 18 = .ok (.iconst 0, 1) := by decide +kernel
theorem dX0_isFinite_19 : decode cX0_isFinite 19 = .ok (.ireturn, 1) := by decide +kernel
theorem dX0_floatValue_0 : decode cX0_floatValue 0 = .ok (.iload_n 0, 1) := by decide +kernel
theorem dX0_floatValue_1 : decode cX0_floatValue 1 = .ok (.bipush 23, 2) := by decide +kernel
theorem dX0_floatValue_3 : decode cX0_floatValue 3 = .ok (.iushr, 1) := by decide +kernel
theorem dX0_floatValue_4 : decode cX0_floatValue 4 = .ok (.sipush 255, 3) := by decide +kernel
theorem dX0_floatValue_7 : decode cX0_floatValue 7 = .ok (.iand, 1) := by decide +kernel
theorem dX0_floatValue_8 : decode cX0_floatValue 8 = .ok (.istore_n 1, 1) := by decide +kernel
theorem dX0_floatValue_9 : decode cX0_floatValue 9 = .ok (.iload_n 0, 1) := by decide +kernel
theorem dX0_floatValue_10 : decode cX0_floatValue 10 = .ok (.ldc 124, 2) := by decide +kernel
theorem dX0_floatValue_12 : decode cX0_floatValue 12 = .ok (.iand, 1) := by decide +kernel
theorem dX0_floatValue_13 : decode cX0_floatValue 13 = .ok (.istore_n 2, 1) := by decide +kernel
theorem dX0_floatValue_14 : decode cX0_floatValue 14 = .ok (.iload_n 1, 1) := by decide +kernel
theorem dX0_floatValue_15 : decode cX0_floatValue 15 = .ok (.ifCond .ne 17, 3) := by decide +kernel
theorem dX0_floatValue_18 : decode cX0_floatValue 18 = .ok (.iload_n 2, 1) := by decide +kernel
theorem dX0_floatValue_19 : decode cX0_floatValue 19 = .ok (.i2d, 1) := by decide +kernel
theorem dX0_floatValue_20 : decode cX0_floatValue 20 = .ok (.ldc2_w 118, 3) := by decide +kernel
theorem dX0_floatValue_23 : decode cX0_floatValue 23 = .ok (.sipush (-149), 3) := by decide +kernel
theorem dX0_floatValue_26 : decode cX0_floatValue 26 = .ok (.invokestatic 120, 3) := by decide +kernel
theorem dX0_floatValue_29 : decode cX0_floatValue 29 = .ok (.goto 19, 3) := by decide +kernel
theorem dX0_floatValue_32 : decode cX0_floatValue 32 = .ok (.ldc 125, 2) := by decide +kernel
theorem dX0_floatValue_34 : decode cX0_floatValue 34 = .ok (.iload_n 2, 1) := by decide +kernel
theorem dX0_floatValue_35 : decode cX0_floatValue 35 = .ok (.iadd, 1) := by decide +kernel
theorem dX0_floatValue_36 : decode cX0_floatValue 36 = .ok (.i2d, 1) := by decide +kernel
theorem dX0_floatValue_37 : decode cX0_floatValue 37 = .ok (.ldc2_w 118, 3) := by decide +kernel
theorem dX0_floatValue_40 : decode cX0_floatValue 40 = .ok (.iload_n 1, 1) := by decide +kernel
theorem dX0_floatValue_41 : decode cX0_floatValue 41 = .ok (.sipush 150, 3) := by decide +kernel
theorem dX0_floatValue_44 : decode cX0_floatValue 44 = .ok (.isub, 1) := by decide +kernel
theorem dX0_floatValue_45 : decode cX0_floatValue 45 = .ok (.invokestatic 120, 3) := by decide +kernel
theorem dX0_floatValue_48 : decode cX0_floatValue 48 = .ok (.dstore_n 3, 1) := by decide +kernel
theorem dX0_floatValue_49 : decode cX0_floatValue 49 = .ok (.iload_n 0, 1) := by decide +kernel
theorem dX0_floatValue_50 : decode cX0_floatValue 50 = .ok (.ifCond .ge 9, 3) := by decide +kernel
theorem dX0_floatValue_53 : decode cX0_floatValue 53 = .ok (.dconst 0, 1) := by decide +kernel
theorem dX0_floatValue_54 : decode cX0_floatValue 54 = .ok (.dload_n 3, 1) := by decide +kernel
theorem dX0_floatValue_55 : decode cX0_floatValue 55 = .ok (.dsub, 1) := by decide +kernel
theorem dX0_floatValue_56 : decode cX0_floatValue 56 = .ok (.goto 4, 3) := by decide +kernel
theorem dX0_floatValue_59 : decode cX0_floatValue 59 = .ok (.dload_n 3, 1) := by decide +kernel
theorem dX0_floatValue_60 : decode cX0_floatValue 60 = .ok (.dreturn, 1) := by decide +kernel
theorem dX0_countAt_0 : decode cX0_countAt 0 = .ok (.aload_n 0, 1) := by decide +kernel
theorem dX0_countAt_1 : decode cX0_countAt 1 = .ok (.iload_n 1, 1) := by decide +kernel
theorem dX0_countAt_2 : decode cX0_countAt 2 = .ok (.iload_n 2, 1) := by decide +kernel
theorem dX0_countAt_3 : decode cX0_countAt 3 = .ok (.iload_n 3, 1) := by decide +kernel
theorem dX0_countAt_4 : decode cX0_countAt 4 = .ok (.invokevirtual 61, 3) := by decide +kernel
theorem dX0_countAt_7 : decode cX0_countAt 7 = .ok (.iload_n 2, 1) := by decide +kernel
theorem dX0_countAt_8 : decode cX0_countAt 8 = .ok (.iconst 1, 1) := by decide +kernel
theorem dX0_countAt_9 : decode cX0_countAt 9 = .ok (.if_icmp .ne 9, 3) := by decide +kernel
theorem dX0_countAt_12 : decode cX0_countAt 12 = .ok (.sipush 255, 3) := by decide +kernel
theorem dX0_countAt_15 : decode cX0_countAt 15 = .ok (.goto 5, 3) := by decide +kernel
theorem dX0_countAt_18 : decode cX0_countAt 18 = .ok (.ldc 126, 2) := by decide +kernel
theorem dX0_countAt_20 : decode cX0_countAt 20 = .ok (.iand, 1) := by decide +kernel
theorem dX0_countAt_21 : decode cX0_countAt 21 = .ok (.ireturn, 1) := by decide +kernel
theorem dX0_signedAt_0 : decode cX0_signedAt 0 = .ok (.iconst 0, 1) := by decide +kernel
theorem dX0_signedAt_1 : decode cX0_signedAt 1 = .ok (.istore 4, 2) := by decide +kernel
theorem dX0_signedAt_3 : decode cX0_signedAt 3 = .ok (.iconst 0, 1) := by decide +kernel
theorem dX0_signedAt_4 : decode cX0_signedAt 4 = .ok (.istore 5, 2) := by decide +kernel
theorem dX0_signedAt_6 : decode cX0_signedAt 6 = .ok (.iload 5, 2) := by decide +kernel
theorem dX0_signedAt_8 : decode cX0_signedAt 8 = .ok (.iload_n 2, 1) := by decide +kernel
theorem dX0_signedAt_9 : decode cX0_signedAt 9 = .ok (.if_icmp .ge 43, 3) := by decide +kernel
theorem dX0_signedAt_12 : decode cX0_signedAt 12 = .ok (.iload 4, 2) := by decide +kernel
theorem dX0_signedAt_14 : decode cX0_signedAt 14 = .ok (.bipush 8, 2) := by decide +kernel
theorem dX0_signedAt_16 : decode cX0_signedAt 16 = .ok (.ishl, 1) := by decide +kernel
theorem dX0_signedAt_17 : decode cX0_signedAt 17 = .ok (.aload_n 0, 1) := by decide +kernel
theorem dX0_signedAt_18 : decode cX0_signedAt 18 = .ok (.getfield 9, 3) := by decide +kernel
theorem dX0_signedAt_21 : decode cX0_signedAt 21 = .ok (.iload_n 3, 1) := by decide +kernel
theorem dX0_signedAt_22 : decode cX0_signedAt 22 = .ok (.ifCond .eq 14, 3) := by decide +kernel
theorem dX0_signedAt_25 : decode cX0_signedAt 25 = .ok (.iload_n 1, 1) := by decide +kernel
theorem dX0_signedAt_26 : decode cX0_signedAt 26 = .ok (.iload_n 2, 1) := by decide +kernel
theorem dX0_signedAt_27 : decode cX0_signedAt 27 = .ok (.iadd, 1) := by decide +kernel
theorem dX0_signedAt_28 : decode cX0_signedAt 28 = .ok (.iconst 1, 1) := by decide +kernel
theorem dX0_signedAt_29 : decode cX0_signedAt 29 = .ok (.isub, 1) := by decide +kernel
theorem dX0_signedAt_30 : decode cX0_signedAt 30 = .ok (.iload 5, 2) := by decide +kernel
theorem dX0_signedAt_32 : decode cX0_signedAt 32 = .ok (.isub, 1) := by decide +kernel
theorem dX0_signedAt_33 : decode cX0_signedAt 33 = .ok (.goto 7, 3) := by decide +kernel
theorem dX0_signedAt_36 : decode cX0_signedAt 36 = .ok (.iload_n 1, 1) := by decide +kernel
theorem dX0_signedAt_37 : decode cX0_signedAt 37 = .ok (.iload 5, 2) := by decide +kernel
theorem dX0_signedAt_39 : decode cX0_signedAt 39 = .ok (.iadd, 1) := by decide +kernel
theorem dX0_signedAt_40 : decode cX0_signedAt 40 = .ok (.invokevirtual 69, 3) := by decide +kernel
theorem dX0_signedAt_43 : decode cX0_signedAt 43 = .ok (.ior, 1) := by decide +kernel
theorem dX0_signedAt_44 : decode cX0_signedAt 44 = .ok (.istore 4, 2) := by decide +kernel
theorem dX0_signedAt_46 : decode cX0_signedAt 46 = .ok (.iinc 5 1, 3) := by decide +kernel
theorem dX0_signedAt_49 : decode cX0_signedAt 49 = .ok (.goto (-43), 3) := by decide +kernel
theorem dX0_signedAt_52 : decode cX0_signedAt 52 = .ok (.bipush 32, 2) := by decide +kernel
theorem dX0_signedAt_54 : decode cX0_signedAt 54 = .ok (.bipush 8, 2) := by decide +kernel
theorem dX0_signedAt_56 : decode cX0_signedAt 56 = .ok (.iload_n 2, 1) := by decide +kernel
theorem dX0_signedAt_57 : decode cX0_signedAt 57 = .ok (.imul, 1) := by decide +kernel
theorem dX0_signedAt_58 : decode cX0_signedAt 58 = .ok (.isub, 1) := by decide +kernel
theorem dX0_signedAt_59 : decode cX0_signedAt 59 = .ok (.istore 5, 2) := by decide +kernel
theorem dX0_signedAt_61 : decode cX0_signedAt 61 = .ok (.iload 4, 2) := by decide +kernel
theorem dX0_signedAt_63 : decode cX0_signedAt 63 = .ok (.iload 5, 2) := by decide +kernel
theorem dX0_signedAt_65 : decode cX0_signedAt 65 = .ok (.ishl, 1) := by decide +kernel
theorem dX0_signedAt_66 : decode cX0_signedAt 66 = .ok (.iload 5, 2) := by decide +kernel
theorem dX0_signedAt_68 : decode cX0_signedAt 68 = .ok (.ishr, 1) := by decide +kernel
theorem dX0_signedAt_69 : decode cX0_signedAt 69 = .ok (.ireturn, 1) := by decide +kernel
theorem dX1_init_0 : decode cX1_init 0 = .ok (.aload_n 0, 1) := by decide +kernel
theorem dX1_init_1 : decode cX1_init 1 = .ok (.invokespecial 3, 3) := by decide +kernel
theorem dX1_init_4 : decode cX1_init 4 = .ok (.aload_n 0, 1) := by decide +kernel
theorem dX1_init_5 : decode cX1_init 5 = .ok (.sipush 3000, 3) := by decide +kernel
theorem dX1_init_8 : decode cX1_init 8 = .ok (.newarray .byte, 2) := by decide +kernel
theorem dX1_init_10 : decode cX1_init 10 = .ok (.putfield 9, 3) := by decide +kernel
theorem dX1_init_13 : decode cX1_init 13 = .ok (.return_, 1) := by decide +kernel
theorem dX1_append_0 : decode cX1_append 0 = .ok (.aload_n 0, 1) := by decide +kernel
theorem dX1_append_1 : decode cX1_append 1 = .ok (.getfield 15, 3) := by decide +kernel
theorem dX1_append_4 : decode cX1_append 4 = .ok (.aload_n 0, 1) := by decide +kernel
theorem dX1_append_5 : decode cX1_append 5 = .ok (.getfield 9, 3) := by decide +kernel
theorem dX1_append_8 : decode cX1_append 8 = .ok (.arraylength, 1) := by decide +kernel
theorem dX1_append_9 : decode cX1_append 9 = .ok (.if_icmp .lt 5, 3) := by decide +kernel
theorem dX1_append_12 : decode cX1_append 12 = .ok (.iconst 0, 1) := by decide +kernel
theorem dX1_append_13 : decode cX1_append 13 = .ok (.ireturn, 1) := by decide +kernel
theorem dX1_append_14 : decode cX1_append 14 = .ok (.aload_n 0, 1) := by decide +kernel
theorem dX1_append_15 : decode cX1_append 15 = .ok (.getfield 9, 3) := by decide +kernel
theorem dX1_append_18 : decode cX1_append 18 = .ok (.aload_n 0, 1) := by decide +kernel
theorem dX1_append_19 : decode cX1_append 19 = .ok (.getfield 15, 3) := by decide +kernel
theorem dX1_append_22 : decode cX1_append 22 = .ok (.iload_n 1, 1) := by decide +kernel
theorem dX1_append_23 : decode cX1_append 23 = .ok (.bastore, 1) := by decide +kernel
theorem dX1_append_24 : decode cX1_append 24 = .ok (.aload_n 0, 1) := by decide +kernel
theorem dX1_append_25 : decode cX1_append 25 = .ok (.dup, 1) := by decide +kernel
theorem dX1_append_26 : decode cX1_append 26 = .ok (.getfield 15, 3) := by decide +kernel
theorem dX1_append_29 : decode cX1_append 29 = .ok (.iconst 1, 1) := by decide +kernel
theorem dX1_append_30 : decode cX1_append 30 = .ok (.iadd, 1) := by decide +kernel
theorem dX1_append_31 : decode cX1_append 31 = .ok (.putfield 15, 3) := by decide +kernel
theorem dX1_append_34 : decode cX1_append 34 = .ok (.iconst 1, 1) := by decide +kernel
theorem dX1_append_35 : decode cX1_append 35 = .ok (.ireturn, 1) := by decide +kernel
theorem dX1_forget_0 : decode cX1_forget 0 = .ok (.aload_n 0, 1) := by decide +kernel
theorem dX1_forget_1 : decode cX1_forget 1 = .ok (.iconst 0, 1) := by decide +kernel
theorem dX1_forget_2 : decode cX1_forget 2 = .ok (.putfield 15, 3) := by decide +kernel
theorem dX1_forget_5 : decode cX1_forget 5 = .ok (.aload_n 0, 1) := by decide +kernel
theorem dX1_forget_6 : decode cX1_forget 6 = .ok (.iconst 0, 1) := by decide +kernel
theorem dX1_forget_7 : decode cX1_forget 7 = .ok (.putfield 19, 3) := by decide +kernel
theorem dX1_forget_10 : decode cX1_forget 10 = .ok (.aload_n 0, 1) := by decide +kernel
theorem dX1_forget_11 : decode cX1_forget 11 = .ok (.iconst 0, 1) := by decide +kernel
theorem dX1_forget_12 : decode cX1_forget 12 = .ok (.putfield 22, 3) := by decide +kernel
theorem dX1_forget_15 : decode cX1_forget 15 = .ok (.return_, 1) := by decide +kernel
theorem dX1_has_0 : decode cX1_has 0 = .ok (.iload_n 1, 1) := by decide +kernel
theorem dX1_has_1 : decode cX1_has 1 = .ok (.ifCond .lt 15, 3) := by decide +kernel
theorem dX1_has_4 : decode cX1_has 4 = .ok (.iload_n 1, 1) := by decide +kernel
theorem dX1_has_5 : decode cX1_has 5 = .ok (.aload_n 0, 1) := by decide +kernel
theorem dX1_has_6 : decode cX1_has 6 = .ok (.getfield 15, 3) := by decide +kernel
theorem dX1_has_9 : decode cX1_has 9 = .ok (.if_icmp .ge 7, 3) := by decide +kernel
theorem dX1_has_12 : decode cX1_has 12 = .ok (.iconst 1, 1) := by decide +kernel
theorem dX1_has_13 : decode cX1_has 13 = .ok (.goto 4, 3) := by decide +kernel
theorem dX1_has_16 : decode cX1_has 16 = .ok (.iconst 0, 1) := by decide +kernel
theorem dX1_has_17 : decode cX1_has 17 = .ok (.ireturn, 1) := by decide +kernel
theorem dX1_at_0 : decode cX1_at 0 = .ok (.aload_n 0, 1) := by decide +kernel
theorem dX1_at_1 : decode cX1_at 1 = .ok (.iload_n 1, 1) := by decide +kernel
theorem dX1_at_2 : decode cX1_at 2 = .ok (.invokevirtual 26, 3) := by decide +kernel
theorem dX1_at_5 : decode cX1_at 5 = .ok (.ifCond .eq 16, 3) := by decide +kernel
theorem dX1_at_8 : decode cX1_at 8 = .ok (.aload_n 0, 1) := by decide +kernel
theorem dX1_at_9 : decode cX1_at 9 = .ok (.getfield 9, 3) := by decide +kernel
theorem dX1_at_12 : decode cX1_at 12 = .ok (.iload_n 1, 1) := by decide +kernel
theorem dX1_at_13 : decode cX1_at 13 = .ok (.baload, 1) := by decide +kernel
theorem dX1_at_14 : decode cX1_at 14 = .ok (.sipush 255, 3) := by decide +kernel
theorem dX1_at_17 : decode cX1_at 17 = .ok (.iand, 1) := by decide +kernel
theorem dX1_at_18 : decode cX1_at 18 = .ok (.goto 4, 3) := by decide +kernel
theorem dX1_at_21 : decode cX1_at 21 = .ok (.iconst (-1), 1) := by decide +kernel
theorem dX1_at_22 : decode cX1_at 22 = .ok (.ireturn, 1) := by decide +kernel
theorem dX1_firstNotWhite_0 : decode cX1_firstNotWhite 0 = .ok (.iconst 0, 1) := by decide +kernel
theorem dX1_firstNotWhite_1 : decode cX1_firstNotWhite 1 = .ok (.istore_n 1, 1) := by decide +kernel
theorem dX1_firstNotWhite_2 : decode cX1_firstNotWhite 2 = .ok (.aload_n 0, 1) := by decide +kernel
theorem dX1_firstNotWhite_3 : decode cX1_firstNotWhite 3 = .ok (.getfield 19, 3) := by decide +kernel
theorem dX1_firstNotWhite_6 : decode cX1_firstNotWhite 6 = .ok (.istore_n 2, 1) := by decide +kernel
theorem dX1_firstNotWhite_7 : decode cX1_firstNotWhite 7 = .ok (.iload_n 2, 1) := by decide +kernel
theorem dX1_firstNotWhite_8 : decode cX1_firstNotWhite 8 = .ok (.aload_n 0, 1) := by decide +kernel
theorem dX1_firstNotWhite_9 : decode cX1_firstNotWhite 9 = .ok (.getfield 15, 3) := by decide +kernel
theorem dX1_firstNotWhite_12 : decode cX1_firstNotWhite 12 = .ok (.if_icmp .ge 70, 3) := by decide +kernel
theorem dX1_firstNotWhite_15 : decode cX1_firstNotWhite 15 = .ok (.aload_n 0, 1) := by decide +kernel
theorem dX1_firstNotWhite_16 : decode cX1_firstNotWhite 16 = .ok (.iload_n 2, 1) := by decide +kernel
theorem dX1_firstNotWhite_17 : decode cX1_firstNotWhite 17 = .ok (.invokevirtual 30, 3) := by decide +kernel
theorem dX1_firstNotWhite_20 : decode cX1_firstNotWhite 20 = .ok (.istore_n 3, 1) := by decide +kernel
theorem dX1_firstNotWhite_21 : decode cX1_firstNotWhite 21 = .ok (.iload_n 1, 1) := by decide +kernel
theorem dX1_firstNotWhite_22 : decode cX1_firstNotWhite 22 = .ok (.ifCond .eq 29, 3) := by decide +kernel
theorem dX1_firstNotWhite_25 : decode cX1_firstNotWhite 25 = .ok (.iload_n 3, 1) := by decide +kernel
theorem dX1_firstNotWhite_26 : decode cX1_firstNotWhite 26 = .ok (.bipush 10, 2) := by decide +kernel
theorem dX1_firstNotWhite_28 : decode cX1_firstNotWhite 28 = .ok (.if_icmp .eq 19, 3) := by decide +kernel
theorem dX1_firstNotWhite_31 : decode cX1_firstNotWhite 31 = .ok (.iload_n 3, 1) := by decide +kernel
theorem dX1_firstNotWhite_32 : decode cX1_firstNotWhite 32 = .ok (.bipush 12, 2) := by decide +kernel
theorem dX1_firstNotWhite_34 : decode cX1_firstNotWhite 34 = .ok (.if_icmp .eq 13, 3) := by decide +kernel
theorem dX1_firstNotWhite_37 : decode cX1_firstNotWhite 37 = .ok (.iload_n 3, 1) := by decide +kernel
theorem dX1_firstNotWhite_38 : decode cX1_firstNotWhite 38 = .ok (.bipush 13, 2) := by decide +kernel
theorem dX1_firstNotWhite_40 : decode cX1_firstNotWhite 40 = .ok (.if_icmp .eq 7, 3) := by decide +kernel
theorem dX1_firstNotWhite_43 : decode cX1_firstNotWhite 43 = .ok (.iconst 1, 1) := by decide +kernel
theorem dX1_firstNotWhite_44 : decode cX1_firstNotWhite 44 = .ok (.goto 18, 3) := by decide +kernel
theorem dX1_firstNotWhite_47 : decode cX1_firstNotWhite 47 = .ok (.iconst 0, 1) := by decide +kernel
theorem dX1_firstNotWhite_48 : decode cX1_firstNotWhite 48 = .ok (.goto 14, 3) := by decide +kernel
theorem dX1_firstNotWhite_51 : decode cX1_firstNotWhite 51 = .ok (.iload_n 3, 1) := by decide +kernel
theorem dX1_firstNotWhite_52 : decode cX1_firstNotWhite 52 = .ok (.bipush 37, 2) := by decide +kernel
theorem dX1_firstNotWhite_54 : decode cX1_firstNotWhite 54 = .ok (.if_icmp .ne 7, 3) := by decide +kernel
theorem dX1_firstNotWhite_57 : decode cX1_firstNotWhite 57 = .ok (.iconst 1, 1) := by decide +kernel
theorem dX1_firstNotWhite_58 : decode cX1_firstNotWhite 58 = .ok (.goto 4, 3) := by decide +kernel
theorem dX1_firstNotWhite_61 : decode cX1_firstNotWhite 61 = .ok (.iconst 0, 1) := by decide +kernel
theorem dX1_firstNotWhite_62 : decode cX1_firstNotWhite 62 = .ok (.istore_n 1, 1) := by decide +kernel
theorem dX1_firstNotWhite_63 : decode cX1_firstNotWhite 63 = .ok (.iload_n 1, 1) := by decide +kernel
theorem dX1_firstNotWhite_64 : decode cX1_firstNotWhite 64 = .ok (.ifCond .ne 12, 3) := by decide +kernel
theorem dX1_firstNotWhite_67 : decode cX1_firstNotWhite 67 = .ok (.iload_n 3, 1) := by decide +kernel
theorem dX1_firstNotWhite_68 : decode cX1_firstNotWhite 68 = .ok (.invokestatic 34, 3) := by decide +kernel
theorem dX1_firstNotWhite_71 : decode cX1_firstNotWhite 71 = .ok (.ifCond .ne 5, 3) := by decide +kernel
theorem dX1_firstNotWhite_74 : decode cX1_firstNotWhite 74 = .ok (.iload_n 2, 1) := by decide +kernel
theorem dX1_firstNotWhite_75 : decode cX1_firstNotWhite 75 = .ok (.ireturn, 1) := by decide +kernel
theorem dX1_firstNotWhite_76 : decode cX1_firstNotWhite 76 = .ok (.iinc 2 1, 3) := by decide +kernel
theorem dX1_firstNotWhite_79 : decode cX1_firstNotWhite 79 = .ok (.goto (-72), 3) := by decide +kernel
theorem dX1_firstNotWhite_82 : decode cX1_firstNotWhite 82 = .ok (.aload_n 0, 1) := by decide +kernel
theorem dX1_firstNotWhite_83 : decode cX1_firstNotWhite 83 = .ok (.getfield 15, 3) := by decide +kernel
theorem dX1_firstNotWhite_86 : decode cX1_firstNotWhite 86 = .ok (.ireturn, 1) := by decide +kernel
theorem dX1_wordEnd_0 : decode cX1_wordEnd 0 = .ok (.iload_n 1, 1) := by decide +kernel
theorem dX1_wordEnd_1 : decode cX1_wordEnd 1 = .ok (.istore_n 2, 1) := by decide +kernel
theorem dX1_wordEnd_2 : decode cX1_wordEnd 2 = .ok (.iload_n 2, 1) := by decide +kernel
theorem dX1_wordEnd_3 : decode cX1_wordEnd 3 = .ok (.aload_n 0, 1) := by decide +kernel
theorem dX1_wordEnd_4 : decode cX1_wordEnd 4 = .ok (.getfield 15, 3) := by decide +kernel
theorem dX1_wordEnd_7 : decode cX1_wordEnd 7 = .ok (.if_icmp .ge 22, 3) := by decide +kernel
theorem dX1_wordEnd_10 : decode cX1_wordEnd 10 = .ok (.aload_n 0, 1) := by decide +kernel
theorem dX1_wordEnd_11 : decode cX1_wordEnd 11 = .ok (.iload_n 2, 1) := by decide +kernel
theorem dX1_wordEnd_12 : decode cX1_wordEnd 12 = .ok (.invokevirtual 30, 3) := by decide +kernel
theorem dX1_wordEnd_15 : decode cX1_wordEnd 15 = .ok (.invokestatic 37, 3) := by decide +kernel
theorem dX1_wordEnd_18 : decode cX1_wordEnd 18 = .ok (.ifCond .ne 5, 3) := by decide +kernel
theorem dX1_wordEnd_21 : decode cX1_wordEnd 21 = .ok (.iload_n 2, 1) := by decide +kernel
theorem dX1_wordEnd_22 : decode cX1_wordEnd 22 = .ok (.ireturn, 1) := by decide +kernel
theorem dX1_wordEnd_23 : decode cX1_wordEnd 23 = .ok (.iinc 2 1, 3) := by decide +kernel
theorem dX1_wordEnd_26 : decode cX1_wordEnd 26 = .ok (.goto (-24), 3) := by decide +kernel
theorem dX1_wordEnd_29 : decode cX1_wordEnd 29 = .ok (.aload_n 0, 1) := by decide +kernel
theorem dX1_wordEnd_30 : decode cX1_wordEnd 30 = .ok (.getfield 15, 3) := by decide +kernel
theorem dX1_wordEnd_33 : decode cX1_wordEnd 33 = .ok (.ireturn, 1) := by decide +kernel
theorem dX1_lacking_0 : decode cX1_lacking 0 = .ok (.aload_n 0, 1) := by decide +kernel
theorem dX1_lacking_1 : decode cX1_lacking 1 = .ok (.getfield 22, 3) := by decide +kernel
theorem dX1_lacking_4 : decode cX1_lacking 4 = .ok (.ifCond .ne 5, 3) := by decide +kernel
theorem dX1_lacking_7 : decode cX1_lacking 7 = .ok (.iconst 0, 1) := by decide +kernel
theorem dX1_lacking_8 : decode cX1_lacking 8 = .ok (.ireturn, 1) := by decide +kernel
theorem dX1_lacking_9 : decode cX1_lacking 9 = .ok (.aload_n 1, 1) := by decide +kernel
theorem dX1_lacking_10 : decode cX1_lacking 10 = .ok (.aload_n 0, 1) := by decide +kernel
theorem dX1_lacking_11 : decode cX1_lacking 11 = .ok (.getfield 15, 3) := by decide +kernel
theorem dX1_lacking_14 : decode cX1_lacking 14 = .ok (.putfield 40, 3) := by decide +kernel
theorem dX1_lacking_17 : decode cX1_lacking 17 = .ok (.bipush (-7), 2) := by decide +kernel
theorem dX1_lacking_19 : decode cX1_lacking 19 = .ok (.ireturn, 1) := by decide +kernel
theorem dX1_isWhite_0 : decode cX1_isWhite 0 = .ok (.iload_n 0, 1) := by decide +kernel
theorem dX1_isWhite_1 : decode cX1_isWhite 1 = .ok (.ifCond .eq 33, 3) := by decide +kernel
theorem dX1_isWhite_4 : decode cX1_isWhite 4 = .ok (.iload_n 0, 1) := by decide +kernel
theorem dX1_isWhite_5 : decode cX1_isWhite 5 = .ok (.bipush 9, 2) := by decide +kernel
theorem dX1_isWhite_7 : decode cX1_isWhite 7 = .ok (.if_icmp .eq 27, 3) := by decide +kernel
theorem dX1_isWhite_10 : decode cX1_isWhite 10 = .ok (.iload_n 0, 1) := by decide +kernel
theorem dX1_isWhite_11 : decode cX1_isWhite 11 = .ok (.bipush 10, 2) := by decide +kernel
theorem dX1_isWhite_13 : decode cX1_isWhite 13 = .ok (.if_icmp .eq 21, 3) := by decide +kernel
theorem dX1_isWhite_16 : decode cX1_isWhite 16 = .ok (.iload_n 0, 1) := by decide +kernel
theorem dX1_isWhite_17 : decode cX1_isWhite 17 = .ok (.bipush 12, 2) := by decide +kernel
theorem dX1_isWhite_19 : decode cX1_isWhite 19 = .ok (.if_icmp .eq 15, 3) := by decide +kernel
theorem dX1_isWhite_22 : decode cX1_isWhite 22 = .ok (.iload_n 0, 1) := by decide +kernel
theorem dX1_isWhite_23 : decode cX1_isWhite 23 = .ok (.bipush 13, 2) := by decide +kernel
theorem dX1_isWhite_25 : decode cX1_isWhite 25 = .ok (.if_icmp .eq 9, 3) := by decide +kernel
theorem dX1_isWhite_28 : decode cX1_isWhite 28 = .ok (.iload_n 0, 1) := by decide +kernel
theorem dX1_isWhite_29 : decode cX1_isWhite 29 = .ok (.bipush 32, 2) := by decide +kernel
theorem dX1_isWhite_31 : decode cX1_isWhite 31 = .ok (.if_icmp .ne 7, 3) := by decide +kernel
theorem dX1_isWhite_34 : decode cX1_isWhite 34 = .ok (.iconst 1, 1) := by decide +kernel
theorem dX1_isWhite_35 : decode cX1_isWhite 35 = .ok (.goto 4, 3) := by decide +kernel
theorem dX1_isWhite_38 : decode cX1_isWhite 38 = .ok (.iconst 0, 1) := by decide +kernel
theorem dX1_isWhite_39 : decode cX1_isWhite 39 = .ok (.ireturn, 1) := by decide +kernel
theorem dX1_isOwn_0 : decode cX1_isOwn 0 = .ok (.iload_n 0, 1) := by decide +kernel
theorem dX1_isOwn_1 : decode cX1_isOwn 1 = .ok (.lookupswitch 93 #[(37, 91), (40, 91), (41, 91), (47, 91), (60, 91), (62, 91), (91, 91), (93, 91), (123, 91), (125, 91)], 91) := by decide +kernel
theorem dX1_isOwn_92 : decode cX1_isOwn 92 = .ok (.iconst 1, 1) := by decide +kernel
theorem dX1_isOwn_93 : decode cX1_isOwn 93 = .ok (.ireturn, 1) := by decide +kernel
theorem dX1_isOwn_94 : decode cX1_isOwn 94 = .ok (.iconst 0, 1) := by decide +kernel
theorem dX1_isOwn_95 : decode cX1_isOwn 95 = .ok (.ireturn, 1) := by decide +kernel
theorem dX1_isPlain_0 : decode cX1_isPlain 0 = .ok (.iload_n 0, 1) := by decide +kernel
theorem dX1_isPlain_1 : decode cX1_isPlain 1 = .ok (.sipush 159, 3) := by decide +kernel
theorem dX1_isPlain_4 : decode cX1_isPlain 4 = .ok (.if_icmp .gt 24, 3) := by decide +kernel
theorem dX1_isPlain_7 : decode cX1_isPlain 7 = .ok (.iload_n 0, 1) := by decide +kernel
theorem dX1_isPlain_8 : decode cX1_isPlain 8 = .ok (.sipush 128, 3) := by decide +kernel
theorem dX1_isPlain_11 : decode cX1_isPlain 11 = .ok (.if_icmp .ge 21, 3) := by decide +kernel
theorem dX1_isPlain_14 : decode cX1_isPlain 14 = .ok (.iload_n 0, 1) := by decide +kernel
theorem dX1_isPlain_15 : decode cX1_isPlain 15 = .ok (.invokestatic 34, 3) := by decide +kernel
theorem dX1_isPlain_18 : decode cX1_isPlain 18 = .ok (.ifCond .ne 14, 3) := by decide +kernel
theorem dX1_isPlain_21 : decode cX1_isPlain 21 = .ok (.iload_n 0, 1) := by decide +kernel
theorem dX1_isPlain_22 : decode cX1_isPlain 22 = .ok (.invokestatic 45, 3) := by decide +kernel
theorem dX1_isPlain_25 : decode cX1_isPlain 25 = .ok (.ifCond .ne 7, 3) := by decide +kernel
theorem dX1_isPlain_28 : decode cX1_isPlain 28 = .ok (.iconst 1, 1) := by decide +kernel
theorem dX1_isPlain_29 : decode cX1_isPlain 29 = .ok (.goto 4, 3) := by decide +kernel
theorem dX1_isPlain_32 : decode cX1_isPlain 32 = .ok (.iconst 0, 1) := by decide +kernel
theorem dX1_isPlain_33 : decode cX1_isPlain 33 = .ok (.ireturn, 1) := by decide +kernel
theorem dX2_init_0 : decode cX2_init 0 = .ok (.aload_n 0, 1) := by decide +kernel
theorem dX2_init_1 : decode cX2_init 1 = .ok (.invokespecial 3, 3) := by decide +kernel
theorem dX2_init_4 : decode cX2_init 4 = .ok (.aload_n 0, 1) := by decide +kernel
theorem dX2_init_5 : decode cX2_init 5 = .ok (.aload_n 1, 1) := by decide +kernel
theorem dX2_init_6 : decode cX2_init 6 = .ok (.putfield 9, 3) := by decide +kernel
theorem dX2_init_9 : decode cX2_init 9 = .ok (.return_, 1) := by decide +kernel
theorem dX2_readRound_0 : decode cX2_readRound 0 = .ok (.iconst 1, 1) := by decide +kernel
theorem dX2_readRound_1 : decode cX2_readRound 1 = .ok (.istore_n 2, 1) := by decide +kernel
theorem dX2_readRound_2 : decode cX2_readRound 2 = .ok (.aload_n 1, 1) := by decide +kernel
theorem dX2_readRound_3 : decode cX2_readRound 3 = .ok (.getfield 15, 3) := by decide +kernel
theorem dX2_readRound_6 : decode cX2_readRound 6 = .ok (.iconst 1, 1) := by decide +kernel
theorem dX2_readRound_7 : decode cX2_readRound 7 = .ok (.iadd, 1) := by decide +kernel
theorem dX2_readRound_8 : decode cX2_readRound 8 = .ok (.istore_n 3, 1) := by decide +kernel
theorem dX2_readRound_9 : decode cX2_readRound 9 = .ok (.iload_n 3, 1) := by decide +kernel
theorem dX2_readRound_10 : decode cX2_readRound 10 = .ok (.aload_n 0, 1) := by decide +kernel
theorem dX2_readRound_11 : decode cX2_readRound 11 = .ok (.getfield 9, 3) := by decide +kernel
theorem dX2_readRound_14 : decode cX2_readRound 14 = .ok (.getfield 21, 3) := by decide +kernel
theorem dX2_readRound_17 : decode cX2_readRound 17 = .ok (.if_icmp .ge 63, 3) := by decide +kernel
theorem dX2_readRound_20 : decode cX2_readRound 20 = .ok (.aload_n 0, 1) := by decide +kernel
theorem dX2_readRound_21 : decode cX2_readRound 21 = .ok (.getfield 9, 3) := by decide +kernel
theorem dX2_readRound_24 : decode cX2_readRound 24 = .ok (.iload_n 3, 1) := by decide +kernel
theorem dX2_readRound_25 : decode cX2_readRound 25 = .ok (.invokevirtual 26, 3) := by decide +kernel
theorem dX2_readRound_28 : decode cX2_readRound 28 = .ok (.istore 4, 2) := by decide +kernel
theorem dX2_readRound_30 : decode cX2_readRound 30 = .ok (.iload 4, 2) := by decide +kernel
theorem dX2_readRound_32 : decode cX2_readRound 32 = .ok (.bipush 40, 2) := by decide +kernel
theorem dX2_readRound_34 : decode cX2_readRound 34 = .ok (.if_icmp .ne 6, 3) := by decide +kernel
theorem dX2_readRound_37 : decode cX2_readRound 37 = .ok (.iinc 2 1, 3) := by decide +kernel
theorem dX2_readRound_40 : decode cX2_readRound 40 = .ok (.iload 4, 2) := by decide +kernel
theorem dX2_readRound_42 : decode cX2_readRound 42 = .ok (.bipush 41, 2) := by decide +kernel
theorem dX2_readRound_44 : decode cX2_readRound 44 = .ok (.if_icmp .ne 6, 3) := by decide +kernel
theorem dX2_readRound_47 : decode cX2_readRound 47 = .ok (.iinc 2 (-1), 3) := by decide +kernel
theorem dX2_readRound_50 : decode cX2_readRound 50 = .ok (.iload_n 2, 1) := by decide +kernel
theorem dX2_readRound_51 : decode cX2_readRound 51 = .ok (.ifCond .ne 11, 3) := by decide +kernel
theorem dX2_readRound_54 : decode cX2_readRound 54 = .ok (.aload_n 1, 1) := by decide +kernel
theorem dX2_readRound_55 : decode cX2_readRound 55 = .ok (.iload_n 3, 1) := by decide +kernel
theorem dX2_readRound_56 : decode cX2_readRound 56 = .ok (.iconst 1, 1) := by decide +kernel
theorem dX2_readRound_57 : decode cX2_readRound 57 = .ok (.iadd, 1) := by decide +kernel
theorem dX2_readRound_58 : decode cX2_readRound 58 = .ok (.invokestatic 30, 3) := by decide +kernel
theorem dX2_readRound_61 : decode cX2_readRound 61 = .ok (.ireturn, 1) := by decide +kernel
theorem dX2_readRound_62 : decode cX2_readRound 62 = .ok (.iload_n 3, 1) := by decide +kernel
theorem dX2_readRound_63 : decode cX2_readRound 63 = .ok (.iconst 1, 1) := by decide +kernel
theorem dX2_readRound_64 : decode cX2_readRound 64 = .ok (.aload_n 0, 1) := by decide +kernel
theorem dX2_readRound_65 : decode cX2_readRound 65 = .ok (.aload_n 1, 1) := by decide +kernel
theorem dX2_readRound_66 : decode cX2_readRound 66 = .ok (.iload_n 3, 1) := by decide +kernel
theorem dX2_readRound_67 : decode cX2_readRound 67 = .ok (.iload 4, 2) := by decide +kernel
theorem dX2_readRound_69 : decode cX2_readRound 69 = .ok (.invokevirtual 34, 3) := by decide +kernel
theorem dX2_readRound_72 : decode cX2_readRound 72 = .ok (.invokestatic 38, 3) := by decide +kernel
theorem dX2_readRound_75 : decode cX2_readRound 75 = .ok (.iadd, 1) := by decide +kernel
theorem dX2_readRound_76 : decode cX2_readRound 76 = .ok (.istore_n 3, 1) := by decide +kernel
theorem dX2_readRound_77 : decode cX2_readRound 77 = .ok (.goto (-68), 3) := by decide +kernel
theorem dX2_readRound_80 : decode cX2_readRound 80 = .ok (.aload_n 0, 1) := by decide +kernel
theorem dX2_readRound_81 : decode cX2_readRound 81 = .ok (.getfield 9, 3) := by decide +kernel
theorem dX2_readRound_84 : decode cX2_readRound 84 = .ok (.aload_n 1, 1) := by decide +kernel
theorem dX2_readRound_85 : decode cX2_readRound 85 = .ok (.invokevirtual 44, 3) := by decide +kernel
theorem dX2_readRound_88 : decode cX2_readRound 88 = .ok (.ireturn, 1) := by decide +kernel
theorem dX2_putOne_0 : decode cX2_putOne 0 = .ok (.iload_n 3, 1) := by decide +kernel
theorem dX2_putOne_1 : decode cX2_putOne 1 = .ok (.bipush 92, 2) := by decide +kernel
theorem dX2_putOne_3 : decode cX2_putOne 3 = .ok (.if_icmp .ne 14, 3) := by decide +kernel
theorem dX2_putOne_6 : decode cX2_putOne 6 = .ok (.iconst 1, 1) := by decide +kernel
theorem dX2_putOne_7 : decode cX2_putOne 7 = .ok (.aload_n 0, 1) := by decide +kernel
theorem dX2_putOne_8 : decode cX2_putOne 8 = .ok (.aload_n 1, 1) := by decide +kernel
theorem dX2_putOne_9 : decode cX2_putOne 9 = .ok (.iload_n 2, 1) := by decide +kernel
theorem dX2_putOne_10 : decode cX2_putOne 10 = .ok (.iconst 1, 1) := by decide +kernel
theorem dX2_putOne_11 : decode cX2_putOne 11 = .ok (.iadd, 1) := by decide +kernel
theorem dX2_putOne_12 : decode cX2_putOne 12 = .ok (.invokevirtual 48, 3) := by decide +kernel
theorem dX2_putOne_15 : decode cX2_putOne 15 = .ok (.iadd, 1) := by decide +kernel
theorem dX2_putOne_16 : decode cX2_putOne 16 = .ok (.ireturn, 1) := by decide +kernel
theorem dX2_putOne_17 : decode cX2_putOne 17 = .ok (.aload_n 0, 1) := by decide +kernel
theorem dX2_putOne_18 : decode cX2_putOne 18 = .ok (.iload_n 2, 1) := by decide +kernel
theorem dX2_putOne_19 : decode cX2_putOne 19 = .ok (.invokevirtual 51, 3) := by decide +kernel
theorem dX2_putOne_22 : decode cX2_putOne 22 = .ok (.istore 4, 2) := by decide +kernel
theorem dX2_putOne_24 : decode cX2_putOne 24 = .ok (.iload 4, 2) := by decide +kernel
theorem dX2_putOne_26 : decode cX2_putOne 26 = .ok (.ifCond .le 12, 3) := by decide +kernel
theorem dX2_putOne_29 : decode cX2_putOne 29 = .ok (.aload_n 1, 1) := by decide +kernel
theorem dX2_putOne_30 : decode cX2_putOne 30 = .ok (.bipush 10, 2) := by decide +kernel
theorem dX2_putOne_32 : decode cX2_putOne 32 = .ok (.invokevirtual 54, 3) := by decide +kernel
theorem dX2_putOne_35 : decode cX2_putOne 35 = .ok (.iload 4, 2) := by decide +kernel
theorem dX2_putOne_37 : decode cX2_putOne 37 = .ok (.ireturn, 1) := by decide +kernel
theorem dX2_putOne_38 : decode cX2_putOne 38 = .ok (.aload_n 1, 1) := by decide +kernel
theorem dX2_putOne_39 : decode cX2_putOne 39 = .ok (.iload_n 3, 1) := by decide +kernel
theorem dX2_putOne_40 : decode cX2_putOne 40 = .ok (.invokevirtual 54, 3) := by decide +kernel
theorem dX2_putOne_43 : decode cX2_putOne 43 = .ok (.iconst 1, 1) := by decide +kernel
theorem dX2_putOne_44 : decode cX2_putOne 44 = .ok (.ireturn, 1) := by decide +kernel
theorem dX2_putEscaped_0 : decode cX2_putEscaped 0 = .ok (.aload_n 0, 1) := by decide +kernel
theorem dX2_putEscaped_1 : decode cX2_putEscaped 1 = .ok (.iload_n 2, 1) := by decide +kernel
theorem dX2_putEscaped_2 : decode cX2_putEscaped 2 = .ok (.invokevirtual 51, 3) := by decide +kernel
theorem dX2_putEscaped_5 : decode cX2_putEscaped 5 = .ok (.istore_n 3, 1) := by decide +kernel
theorem dX2_putEscaped_6 : decode cX2_putEscaped 6 = .ok (.iload_n 3, 1) := by decide +kernel
theorem dX2_putEscaped_7 : decode cX2_putEscaped 7 = .ok (.ifCond .le 5, 3) := by decide +kernel
theorem dX2_putEscaped_10 : decode cX2_putEscaped 10 = .ok (.iload_n 3, 1) := by decide +kernel
theorem dX2_putEscaped_11 : decode cX2_putEscaped 11 = .ok (.ireturn, 1) := by decide +kernel
theorem dX2_putEscaped_12 : decode cX2_putEscaped 12 = .ok (.aload_n 0, 1) := by decide +kernel
theorem dX2_putEscaped_13 : decode cX2_putEscaped 13 = .ok (.iload_n 2, 1) := by decide +kernel
theorem dX2_putEscaped_14 : decode cX2_putEscaped 14 = .ok (.invokevirtual 58, 3) := by decide +kernel
theorem dX2_putEscaped_17 : decode cX2_putEscaped 17 = .ok (.istore 4, 2) := by decide +kernel
theorem dX2_putEscaped_19 : decode cX2_putEscaped 19 = .ok (.iload 4, 2) := by decide +kernel
theorem dX2_putEscaped_21 : decode cX2_putEscaped 21 = .ok (.ifCond .le 17, 3) := by decide +kernel
theorem dX2_putEscaped_24 : decode cX2_putEscaped 24 = .ok (.aload_n 1, 1) := by decide +kernel
theorem dX2_putEscaped_25 : decode cX2_putEscaped 25 = .ok (.aload_n 0, 1) := by decide +kernel
theorem dX2_putEscaped_26 : decode cX2_putEscaped 26 = .ok (.iload_n 2, 1) := by decide +kernel
theorem dX2_putEscaped_27 : decode cX2_putEscaped 27 = .ok (.iload 4, 2) := by decide +kernel
theorem dX2_putEscaped_29 : decode cX2_putEscaped 29 = .ok (.invokevirtual 61, 3) := by decide +kernel
theorem dX2_putEscaped_32 : decode cX2_putEscaped 32 = .ok (.invokevirtual 54, 3) := by decide +kernel
theorem dX2_putEscaped_35 : decode cX2_putEscaped 35 = .ok (.iload 4, 2) := by decide +kernel
theorem dX2_putEscaped_37 : decode cX2_putEscaped 37 = .ok (.ireturn, 1) := by decide +kernel
theorem dX2_putEscaped_38 : decode cX2_putEscaped 38 = .ok (.aload_n 1, 1) := by decide +kernel
theorem dX2_putEscaped_39 : decode cX2_putEscaped 39 = .ok (.aload_n 0, 1) := by decide +kernel
theorem dX2_putEscaped_40 : decode cX2_putEscaped 40 = .ok (.getfield 9, 3) := by decide +kernel
theorem dX2_putEscaped_43 : decode cX2_putEscaped 43 = .ok (.iload_n 2, 1) := by decide +kernel
theorem dX2_putEscaped_44 : decode cX2_putEscaped 44 = .ok (.invokevirtual 26, 3) := by decide +kernel
theorem dX2_putEscaped_47 : decode cX2_putEscaped 47 = .ok (.invokestatic 64, 3) := by decide +kernel
theorem dX2_putEscaped_50 : decode cX2_putEscaped 50 = .ok (.invokevirtual 54, 3) := by decide +kernel
theorem dX2_putEscaped_53 : decode cX2_putEscaped 53 = .ok (.iconst 1, 1) := by decide +kernel
theorem dX2_putEscaped_54 : decode cX2_putEscaped 54 = .ok (.ireturn, 1) := by decide +kernel
theorem dX2_lineEndWidth_0 : decode cX2_lineEndWidth 0 = .ok (.aload_n 0, 1) := by decide +kernel
theorem dX2_lineEndWidth_1 : decode cX2_lineEndWidth 1 = .ok (.getfield 9, 3) := by decide +kernel
theorem dX2_lineEndWidth_4 : decode cX2_lineEndWidth 4 = .ok (.iload_n 1, 1) := by decide +kernel
theorem dX2_lineEndWidth_5 : decode cX2_lineEndWidth 5 = .ok (.invokevirtual 26, 3) := by decide +kernel
theorem dX2_lineEndWidth_8 : decode cX2_lineEndWidth 8 = .ok (.istore_n 2, 1) := by decide +kernel
theorem dX2_lineEndWidth_9 : decode cX2_lineEndWidth 9 = .ok (.iload_n 2, 1) := by decide +kernel
theorem dX2_lineEndWidth_10 : decode cX2_lineEndWidth 10 = .ok (.bipush 13, 2) := by decide +kernel
theorem dX2_lineEndWidth_12 : decode cX2_lineEndWidth 12 = .ok (.if_icmp .ne 24, 3) := by decide +kernel
theorem dX2_lineEndWidth_15 : decode cX2_lineEndWidth 15 = .ok (.aload_n 0, 1) := by decide +kernel
theorem dX2_lineEndWidth_16 : decode cX2_lineEndWidth 16 = .ok (.getfield 9, 3) := by decide +kernel
theorem dX2_lineEndWidth_19 : decode cX2_lineEndWidth 19 = .ok (.iload_n 1, 1) := by decide +kernel
theorem dX2_lineEndWidth_20 : decode cX2_lineEndWidth 20 = .ok (.iconst 1, 1) := by decide +kernel
theorem dX2_lineEndWidth_21 : decode cX2_lineEndWidth 21 = .ok (.iadd, 1) := by decide +kernel
theorem dX2_lineEndWidth_22 : decode cX2_lineEndWidth 22 = .ok (.invokevirtual 26, 3) := by decide +kernel
theorem dX2_lineEndWidth_25 : decode cX2_lineEndWidth 25 = .ok (.bipush 10, 2) := by decide +kernel
theorem dX2_lineEndWidth_27 : decode cX2_lineEndWidth 27 = .ok (.if_icmp .ne 7, 3) := by decide +kernel
theorem dX2_lineEndWidth_30 : decode cX2_lineEndWidth 30 = .ok (.iconst 2, 1) := by decide +kernel
theorem dX2_lineEndWidth_31 : decode cX2_lineEndWidth 31 = .ok (.goto 4, 3) := by decide +kernel
theorem dX2_lineEndWidth_34 : decode cX2_lineEndWidth 34 = .ok (.iconst 1, 1) := by decide +kernel
theorem dX2_lineEndWidth_35 : decode cX2_lineEndWidth 35 = .ok (.ireturn, 1) := by decide +kernel
theorem dX2_lineEndWidth_36 : decode cX2_lineEndWidth 36 = .ok (.iload_n 2, 1) := by decide +kernel
theorem dX2_lineEndWidth_37 : decode cX2_lineEndWidth 37 = .ok (.bipush 10, 2) := by decide +kernel
theorem dX2_lineEndWidth_39 : decode cX2_lineEndWidth 39 = .ok (.if_icmp .ne 7, 3) := by decide +kernel
theorem dX2_lineEndWidth_42 : decode cX2_lineEndWidth 42 = .ok (.iconst 1, 1) := by decide +kernel
theorem dX2_lineEndWidth_43 : decode cX2_lineEndWidth 43 = .ok (.goto 4, 3) := by decide +kernel
theorem dX2_lineEndWidth_46 : decode cX2_lineEndWidth 46 = .ok (.iconst 0, 1) := by decide +kernel
theorem dX2_lineEndWidth_47 : decode cX2_lineEndWidth 47 = .ok (.ireturn, 1) := by decide +kernel
theorem dX2_octalWidth_0 : decode cX2_octalWidth 0 = .ok (.iconst 0, 1) := by decide +kernel
theorem dX2_octalWidth_1 : decode cX2_octalWidth 1 = .ok (.istore_n 2, 1) := by decide +kernel
theorem dX2_octalWidth_2 : decode cX2_octalWidth 2 = .ok (.iload_n 2, 1) := by decide +kernel
theorem dX2_octalWidth_3 : decode cX2_octalWidth 3 = .ok (.iconst 3, 1) := by decide +kernel
theorem dX2_octalWidth_4 : decode cX2_octalWidth 4 = .ok (.if_icmp .ge 27, 3) := by decide +kernel
theorem dX2_octalWidth_7 : decode cX2_octalWidth 7 = .ok (.aload_n 0, 1) := by decide +kernel
theorem dX2_octalWidth_8 : decode cX2_octalWidth 8 = .ok (.getfield 9, 3) := by decide +kernel
theorem dX2_octalWidth_11 : decode cX2_octalWidth 11 = .ok (.iload_n 1, 1) := by decide +kernel
theorem dX2_octalWidth_12 : decode cX2_octalWidth 12 = .ok (.iload_n 2, 1) := by decide +kernel
theorem dX2_octalWidth_13 : decode cX2_octalWidth 13 = .ok (.iadd, 1) := by decide +kernel
theorem dX2_octalWidth_14 : decode cX2_octalWidth 14 = .ok (.invokevirtual 26, 3) := by decide +kernel
theorem dX2_octalWidth_17 : decode cX2_octalWidth 17 = .ok (.invokestatic 67, 3) := by decide +kernel
theorem dX2_octalWidth_20 : decode cX2_octalWidth 20 = .ok (.bipush 8, 2) := by decide +kernel
theorem dX2_octalWidth_22 : decode cX2_octalWidth 22 = .ok (.if_icmp .ge 9, 3) := by decide +kernel
theorem dX2_octalWidth_25 : decode cX2_octalWidth 25 = .ok (.iinc 2 1, 3) := by decide +kernel
theorem dX2_octalWidth_28 : decode cX2_octalWidth 28 = .ok (.goto (-26), 3) := by decide +kernel
theorem dX2_octalWidth_31 : decode cX2_octalWidth 31 = .ok (.iload_n 2, 1) := by decide +kernel
theorem dX2_octalWidth_32 : decode cX2_octalWidth 32 = .ok (.ireturn, 1) := by decide +kernel
theorem dX2_octalAt_0 : decode cX2_octalAt 0 = .ok (.iconst 0, 1) := by decide +kernel
theorem dX2_octalAt_1 : decode cX2_octalAt 1 = .ok (.istore_n 3, 1) := by decide +kernel
theorem dX2_octalAt_2 : decode cX2_octalAt 2 = .ok (.iconst 0, 1) := by decide +kernel
theorem dX2_octalAt_3 : decode cX2_octalAt 3 = .ok (.istore 4, 2) := by decide +kernel
theorem dX2_octalAt_5 : decode cX2_octalAt 5 = .ok (.iload 4, 2) := by decide +kernel
theorem dX2_octalAt_7 : decode cX2_octalAt 7 = .ok (.iload_n 2, 1) := by decide +kernel
theorem dX2_octalAt_8 : decode cX2_octalAt 8 = .ok (.if_icmp .ge 29, 3) := by decide +kernel
theorem dX2_octalAt_11 : decode cX2_octalAt 11 = .ok (.iload_n 3, 1) := by decide +kernel
theorem dX2_octalAt_12 : decode cX2_octalAt 12 = .ok (.bipush 8, 2) := by decide +kernel
theorem dX2_octalAt_14 : decode cX2_octalAt 14 = .ok (.imul, 1) := by decide +kernel
theorem dX2_octalAt_15 : decode cX2_octalAt 15 = .ok (.aload_n 0, 1) := by decide +kernel
theorem dX2_octalAt_16 : decode cX2_octalAt 16 = .ok (.getfield 9, 3) := by decide +kernel
theorem dX2_octalAt_19 : decode cX2_octalAt 19 = .ok (.iload_n 1, 1) := by decide +kernel
theorem dX2_octalAt_20 : decode cX2_octalAt 20 = .ok (.iload 4, 2) := by decide +kernel
theorem dX2_octalAt_22 : decode cX2_octalAt 22 = .ok (.iadd, 1) := by decide +kernel
theorem dX2_octalAt_23 : decode cX2_octalAt 23 = .ok (.invokevirtual 26, 3) := by decide +kernel
theorem dX2_octalAt_26 : decode cX2_octalAt 26 = .ok (.invokestatic 67, 3) := by decide +kernel
theorem dX2_octalAt_29 : decode cX2_octalAt 29 = .ok (.iadd, 1) := by decide +kernel
theorem dX2_octalAt_30 : decode cX2_octalAt 30 = .ok (.istore_n 3, 1) := by decide +kernel
theorem dX2_octalAt_31 : decode cX2_octalAt 31 = .ok (.iinc 4 1, 3) := by decide +kernel
theorem dX2_octalAt_34 : decode cX2_octalAt 34 = .ok (.goto (-29), 3) := by decide +kernel
theorem dX2_octalAt_37 : decode cX2_octalAt 37 = .ok (.iload_n 3, 1) := by decide +kernel
theorem dX2_octalAt_38 : decode cX2_octalAt 38 = .ok (.sipush 255, 3) := by decide +kernel
theorem dX2_octalAt_41 : decode cX2_octalAt 41 = .ok (.iand, 1) := by decide +kernel
theorem dX2_octalAt_42 : decode cX2_octalAt 42 = .ok (.ireturn, 1) := by decide +kernel
theorem dX2_escaped_0 : decode cX2_escaped 0 = .ok (.iload_n 0, 1) := by decide +kernel
theorem dX2_escaped_1 : decode cX2_escaped 1 = .ok (.lookupswitch 66 #[(98, 60), (102, 63), (110, 51), (114, 54), (116, 57)], 51) := by decide +kernel
theorem dX2_escaped_52 : decode cX2_escaped 52 = .ok (.bipush 10, 2) := by decide +kernel
theorem dX2_escaped_54 : decode cX2_escaped 54 = .ok (.ireturn, 1) := by decide +kernel
theorem dX2_escaped_55 : decode cX2_escaped 55 = .ok (.bipush 13, 2) := by decide +kernel
theorem dX2_escaped_57 : decode cX2_escaped 57 = .ok (.ireturn, 1) := by decide +kernel
theorem dX2_escaped_58 : decode cX2_escaped 58 = .ok (.bipush 9, 2) := by decide +kernel
theorem dX2_escaped_60 : decode cX2_escaped 60 = .ok (.ireturn, 1) := by decide +kernel
theorem dX2_escaped_61 : decode cX2_escaped 61 = .ok (.bipush 8, 2) := by decide +kernel
theorem dX2_escaped_63 : decode cX2_escaped 63 = .ok (.ireturn, 1) := by decide +kernel
theorem dX2_escaped_64 : decode cX2_escaped 64 = .ok (.bipush 12, 2) := by decide +kernel
theorem dX2_escaped_66 : decode cX2_escaped 66 = .ok (.ireturn, 1) := by decide +kernel
theorem dX2_escaped_67 : decode cX2_escaped 67 = .ok (.iload_n 0, 1) := by decide +kernel
theorem dX2_escaped_68 : decode cX2_escaped 68 = .ok (.ireturn, 1) := by decide +kernel
theorem dX2_readBase16_0 : decode cX2_readBase16 0 = .ok (.iconst (-1), 1) := by decide +kernel
theorem dX2_readBase16_1 : decode cX2_readBase16 1 = .ok (.istore_n 2, 1) := by decide +kernel
theorem dX2_readBase16_2 : decode cX2_readBase16 2 = .ok (.aload_n 1, 1) := by decide +kernel
theorem dX2_readBase16_3 : decode cX2_readBase16 3 = .ok (.getfield 15, 3) := by decide +kernel
theorem dX2_readBase16_6 : decode cX2_readBase16 6 = .ok (.iconst 1, 1) := by decide +kernel
theorem dX2_readBase16_7 : decode cX2_readBase16 7 = .ok (.iadd, 1) := by decide +kernel
theorem dX2_readBase16_8 : decode cX2_readBase16 8 = .ok (.istore_n 3, 1) := by decide +kernel
theorem dX2_readBase16_9 : decode cX2_readBase16 9 = .ok (.iload_n 3, 1) := by decide +kernel
theorem dX2_readBase16_10 : decode cX2_readBase16 10 = .ok (.aload_n 0, 1) := by decide +kernel
theorem dX2_readBase16_11 : decode cX2_readBase16 11 = .ok (.getfield 9, 3) := by decide +kernel
theorem dX2_readBase16_14 : decode cX2_readBase16 14 = .ok (.getfield 21, 3) := by decide +kernel
theorem dX2_readBase16_17 : decode cX2_readBase16 17 = .ok (.if_icmp .ge 96, 3) := by decide +kernel
theorem dX2_readBase16_20 : decode cX2_readBase16 20 = .ok (.aload_n 0, 1) := by decide +kernel
theorem dX2_readBase16_21 : decode cX2_readBase16 21 = .ok (.getfield 9, 3) := by decide +kernel
theorem dX2_readBase16_24 : decode cX2_readBase16 24 = .ok (.iload_n 3, 1) := by decide +kernel
theorem dX2_readBase16_25 : decode cX2_readBase16 25 = .ok (.invokevirtual 26, 3) := by decide +kernel
theorem dX2_readBase16_28 : decode cX2_readBase16 28 = .ok (.istore 4, 2) := by decide +kernel
theorem dX2_readBase16_30 : decode cX2_readBase16 30 = .ok (.iload 4, 2) := by decide +kernel
theorem dX2_readBase16_32 : decode cX2_readBase16 32 = .ok (.invokestatic 70, 3) := by decide +kernel
theorem dX2_readBase16_35 : decode cX2_readBase16 35 = .ok (.ifCond .eq 6, 3) := by decide +kernel
theorem dX2_readBase16_38 : decode cX2_readBase16 38 = .ok (.goto 69, 3) := by decide +kernel
theorem dX2_readBase16_41 : decode cX2_readBase16 41 = .ok (.iload 4, 2) := by decide +kernel
theorem dX2_readBase16_43 : decode cX2_readBase16 43 = .ok (.bipush 62, 2) := by decide +kernel
theorem dX2_readBase16_45 : decode cX2_readBase16 45 = .ok (.if_icmp .ne 16, 3) := by decide +kernel
theorem dX2_readBase16_48 : decode cX2_readBase16 48 = .ok (.aload_n 1, 1) := by decide +kernel
theorem dX2_readBase16_49 : decode cX2_readBase16 49 = .ok (.iload_n 2, 1) := by decide +kernel
theorem dX2_readBase16_50 : decode cX2_readBase16 50 = .ok (.invokestatic 74, 3) := by decide +kernel
theorem dX2_readBase16_53 : decode cX2_readBase16 53 = .ok (.aload_n 1, 1) := by decide +kernel
theorem dX2_readBase16_54 : decode cX2_readBase16 54 = .ok (.iload_n 3, 1) := by decide +kernel
theorem dX2_readBase16_55 : decode cX2_readBase16 55 = .ok (.iconst 1, 1) := by decide +kernel
theorem dX2_readBase16_56 : decode cX2_readBase16 56 = .ok (.iadd, 1) := by decide +kernel
theorem dX2_readBase16_57 : decode cX2_readBase16 57 = .ok (.invokestatic 30, 3) := by decide +kernel
theorem dX2_readBase16_60 : decode cX2_readBase16 60 = .ok (.ireturn, 1) := by decide +kernel
theorem dX2_readBase16_61 : decode cX2_readBase16 61 = .ok (.iload 4, 2) := by decide +kernel
theorem dX2_readBase16_63 : decode cX2_readBase16 63 = .ok (.invokestatic 67, 3) := by decide +kernel
theorem dX2_readBase16_66 : decode cX2_readBase16 66 = .ok (.istore 5, 2) := by decide +kernel
theorem dX2_readBase16_68 : decode cX2_readBase16 68 = .ok (.iload 5, 2) := by decide +kernel
theorem dX2_readBase16_70 : decode cX2_readBase16 70 = .ok (.bipush 16, 2) := by decide +kernel
theorem dX2_readBase16_72 : decode cX2_readBase16 72 = .ok (.if_icmp .lt 11, 3) := by decide +kernel
theorem dX2_readBase16_75 : decode cX2_readBase16 75 = .ok (.aload_n 1, 1) := by decide +kernel
theorem dX2_readBase16_76 : decode cX2_readBase16 76 = .ok (.bipush (-3), 2) := by decide +kernel
theorem dX2_readBase16_78 : decode cX2_readBase16 78 = .ok (.iload_n 3, 1) := by decide +kernel
theorem dX2_readBase16_79 : decode cX2_readBase16 79 = .ok (.invokevirtual 78, 3) := by decide +kernel
theorem dX2_readBase16_82 : decode cX2_readBase16 82 = .ok (.ireturn, 1) := by decide +kernel
theorem dX2_readBase16_83 : decode cX2_readBase16 83 = .ok (.iload_n 2, 1) := by decide +kernel
theorem dX2_readBase16_84 : decode cX2_readBase16 84 = .ok (.iconst (-1), 1) := by decide +kernel
theorem dX2_readBase16_85 : decode cX2_readBase16 85 = .ok (.if_icmp .ne 9, 3) := by decide +kernel
theorem dX2_readBase16_88 : decode cX2_readBase16 88 = .ok (.iload 5, 2) := by decide +kernel
theorem dX2_readBase16_90 : decode cX2_readBase16 90 = .ok (.istore_n 2, 1) := by decide +kernel
theorem dX2_readBase16_91 : decode cX2_readBase16 91 = .ok (.goto 16, 3) := by decide +kernel
theorem dX2_readBase16_94 : decode cX2_readBase16 94 = .ok (.aload_n 1, 1) := by decide +kernel
theorem dX2_readBase16_95 : decode cX2_readBase16 95 = .ok (.iload_n 2, 1) := by decide +kernel
theorem dX2_readBase16_96 : decode cX2_readBase16 96 = .ok (.bipush 16, 2) := by decide +kernel
theorem dX2_readBase16_98 : decode cX2_readBase16 98 = .ok (.imul, 1) := by decide +kernel
theorem dX2_readBase16_99 : decode cX2_readBase16 99 = .ok (.iload 5, 2) := by decide +kernel
theorem dX2_readBase16_101 : decode cX2_readBase16 101 = .ok (.iadd, 1) := by decide +kernel
theorem dX2_readBase16_102 : decode cX2_readBase16 102 = .ok (.invokevirtual 54, 3) := by decide +kernel
theorem dX2_readBase16_105 : decode cX2_readBase16 105 = .ok (.iconst (-1), 1) := by decide +kernel
theorem dX2_readBase16_106 : decode cX2_readBase16 106 = .ok (.istore_n 2, 1) := by decide +kernel
theorem dX2_readBase16_107 : decode cX2_readBase16 107 = .ok (.iinc 3 1, 3) := by decide +kernel
theorem dX2_readBase16_110 : decode cX2_readBase16 110 = .ok (.goto (-101), 3) := by decide +kernel
theorem dX2_readBase16_113 : decode cX2_readBase16 113 = .ok (.aload_n 0, 1) := by decide +kernel
theorem dX2_readBase16_114 : decode cX2_readBase16 114 = .ok (.getfield 9, 3) := by decide +kernel
theorem dX2_readBase16_117 : decode cX2_readBase16 117 = .ok (.aload_n 1, 1) := by decide +kernel
theorem dX2_readBase16_118 : decode cX2_readBase16 118 = .ok (.invokevirtual 44, 3) := by decide +kernel
theorem dX2_readBase16_121 : decode cX2_readBase16 121 = .ok (.ireturn, 1) := by decide +kernel
theorem dX2_putLastAlone_0 : decode cX2_putLastAlone 0 = .ok (.iload_n 1, 1) := by decide +kernel
theorem dX2_putLastAlone_1 : decode cX2_putLastAlone 1 = .ok (.iconst (-1), 1) := by decide +kernel
theorem dX2_putLastAlone_2 : decode cX2_putLastAlone 2 = .ok (.if_icmp .eq 11, 3) := by decide +kernel
theorem dX2_putLastAlone_5 : decode cX2_putLastAlone 5 = .ok (.aload_n 0, 1) := by decide +kernel
theorem dX2_putLastAlone_6 : decode cX2_putLastAlone 6 = .ok (.iload_n 1, 1) := by decide +kernel
theorem dX2_putLastAlone_7 : decode cX2_putLastAlone 7 = .ok (.bipush 16, 2) := by decide +kernel
theorem dX2_putLastAlone_9 : decode cX2_putLastAlone 9 = .ok (.imul, 1) := by decide +kernel
theorem dX2_putLastAlone_10 : decode cX2_putLastAlone 10 = .ok (.invokevirtual 54, 3) := by decide +kernel
theorem dX2_putLastAlone_13 : decode cX2_putLastAlone 13 = .ok (.return_, 1) := by decide +kernel
theorem dX2_readBase85_0 : decode cX2_readBase85 0 = .ok (.lconst 0, 1) := by decide +kernel
theorem dX2_readBase85_1 : decode cX2_readBase85 1 = .ok (.lstore_n 2, 1) := by decide +kernel
theorem dX2_readBase85_2 : decode cX2_readBase85 2 = .ok (.iconst 0, 1) := by decide +kernel
theorem dX2_readBase85_3 : decode cX2_readBase85 3 = .ok (.istore 4, 2) := by decide +kernel
theorem dX2_readBase85_5 : decode cX2_readBase85 5 = .ok (.aload_n 1, 1) := by decide +kernel
theorem dX2_readBase85_6 : decode cX2_readBase85 6 = .ok (.getfield 15, 3) := by decide +kernel
theorem dX2_readBase85_9 : decode cX2_readBase85 9 = .ok (.iconst 2, 1) := by decide +kernel
theorem dX2_readBase85_10 : decode cX2_readBase85 10 = .ok (.iadd, 1) := by decide +kernel
theorem dX2_readBase85_11 : decode cX2_readBase85 11 = .ok (.istore 5, 2) := by decide +kernel
theorem dX2_readBase85_13 : decode cX2_readBase85 13 = .ok (.iload 5, 2) := by decide +kernel
theorem dX2_readBase85_15 : decode cX2_readBase85 15 = .ok (.aload_n 0, 1) := by decide +kernel
theorem dX2_readBase85_16 : decode cX2_readBase85 16 = .ok (.getfield 9, 3) := by decide +kernel
theorem dX2_readBase85_19 : decode cX2_readBase85 19 = .ok (.getfield 21, 3) := by decide +kernel
theorem dX2_readBase85_22 : decode cX2_readBase85 22 = .ok (.if_icmp .ge 144, 3) := by decide +kernel
theorem dX2_readBase85_25 : decode cX2_readBase85 25 = .ok (.aload_n 0, 1) := by decide +kernel
theorem dX2_readBase85_26 : decode cX2_readBase85 26 = .ok (.getfield 9, 3) := by decide +kernel
theorem dX2_readBase85_29 : decode cX2_readBase85 29 = .ok (.iload 5, 2) := by decide +kernel
theorem dX2_readBase85_31 : decode cX2_readBase85 31 = .ok (.invokevirtual 26, 3) := by decide +kernel
theorem dX2_readBase85_34 : decode cX2_readBase85 34 = .ok (.istore 6, 2) := by decide +kernel
theorem dX2_readBase85_36 : decode cX2_readBase85 36 = .ok (.iload 6, 2) := by decide +kernel
theorem dX2_readBase85_38 : decode cX2_readBase85 38 = .ok (.invokestatic 70, 3) := by decide +kernel
theorem dX2_readBase85_41 : decode cX2_readBase85 41 = .ok (.ifCond .eq 6, 3) := by decide +kernel
theorem dX2_readBase85_44 : decode cX2_readBase85 44 = .ok (.goto 116, 3) := by decide +kernel
theorem dX2_readBase85_47 : decode cX2_readBase85 47 = .ok (.iload 6, 2) := by decide +kernel
theorem dX2_readBase85_49 : decode cX2_readBase85 49 = .ok (.bipush 126, 2) := by decide +kernel
theorem dX2_readBase85_51 : decode cX2_readBase85 51 = .ok (.if_icmp .ne 14, 3) := by decide +kernel
theorem dX2_readBase85_54 : decode cX2_readBase85 54 = .ok (.aload_n 0, 1) := by decide +kernel
theorem dX2_readBase85_55 : decode cX2_readBase85 55 = .ok (.aload_n 1, 1) := by decide +kernel
theorem dX2_readBase85_56 : decode cX2_readBase85 56 = .ok (.iload 5, 2) := by decide +kernel
theorem dX2_readBase85_58 : decode cX2_readBase85 58 = .ok (.lload_n 2, 1) := by decide +kernel
theorem dX2_readBase85_59 : decode cX2_readBase85 59 = .ok (.iload 4, 2) := by decide +kernel
theorem dX2_readBase85_61 : decode cX2_readBase85 61 = .ok (.invokevirtual 81, 3) := by decide +kernel
theorem dX2_readBase85_64 : decode cX2_readBase85 64 = .ok (.ireturn, 1) := by decide +kernel
theorem dX2_readBase85_65 : decode cX2_readBase85 65 = .ok (.iload 6, 2) := by decide +kernel
theorem dX2_readBase85_67 : decode cX2_readBase85 67 = .ok (.bipush 122, 2) := by decide +kernel
theorem dX2_readBase85_69 : decode cX2_readBase85 69 = .ok (.if_icmp .ne 17, 3) := by decide +kernel
theorem dX2_readBase85_72 : decode cX2_readBase85 72 = .ok (.iload 4, 2) := by decide +kernel
theorem dX2_readBase85_74 : decode cX2_readBase85 74 = .ok (.ifCond .ne 12, 3) := by decide +kernel
theorem dX2_readBase85_77 : decode cX2_readBase85 77 = .ok (.aload_n 1, 1) := by decide +kernel
theorem dX2_readBase85_78 : decode cX2_readBase85 78 = .ok (.lconst 0, 1) := by decide +kernel
theorem dX2_readBase85_79 : decode cX2_readBase85 79 = .ok (.iconst 4, 1) := by decide +kernel
theorem dX2_readBase85_80 : decode cX2_readBase85 80 = .ok (.invokestatic 85, 3) := by decide +kernel
theorem dX2_readBase85_83 : decode cX2_readBase85 83 = .ok (.goto 77, 3) := by decide +kernel
theorem dX2_readBase85_86 : decode cX2_readBase85 86 = .ok (.iload 6, 2) := by decide +kernel
theorem dX2_readBase85_88 : decode cX2_readBase85 88 = .ok (.bipush 33, 2) := by decide +kernel
theorem dX2_readBase85_90 : decode cX2_readBase85 90 = .ok (.if_icmp .lt 10, 3) := by decide +kernel
theorem dX2_readBase85_93 : decode cX2_readBase85 93 = .ok (.iload 6, 2) := by decide +kernel
theorem dX2_readBase85_95 : decode cX2_readBase85 95 = .ok (.bipush 117, 2) := by decide +kernel
theorem dX2_readBase85_97 : decode cX2_readBase85 97 = .ok (.if_icmp .le 12, 3) := by decide +kernel
theorem dX2_readBase85_100 : decode cX2_readBase85 100 = .ok (.aload_n 1, 1) := by decide +kernel
theorem dX2_readBase85_101 : decode cX2_readBase85 101 = .ok (.bipush (-3), 2) := by decide +kernel
theorem dX2_readBase85_103 : decode cX2_readBase85 103 = .ok (.iload 5, 2) := by decide +kernel
theorem dX2_readBase85_105 : decode cX2_readBase85 105 = .ok (.invokevirtual 78, 3) := by decide +kernel
theorem dX2_readBase85_108 : decode cX2_readBase85 108 = .ok (.ireturn, 1) := by decide +kernel
theorem dX2_readBase85_109 : decode cX2_readBase85 109 = .ok (.lload_n 2, 1) := by decide +kernel
theorem dX2_readBase85_110 : decode cX2_readBase85 110 = .ok (.ldc2_w 89, 3) := by decide +kernel
theorem dX2_readBase85_113 : decode cX2_readBase85 113 = .ok (.lmul, 1) := by decide +kernel
theorem dX2_readBase85_114 : decode cX2_readBase85 114 = .ok (.iload 6, 2) := by decide +kernel
theorem dX2_readBase85_116 : decode cX2_readBase85 116 = .ok (.i2l, 1) := by decide +kernel
theorem dX2_readBase85_117 : decode cX2_readBase85 117 = .ok (.ladd, 1) := by decide +kernel
theorem dX2_readBase85_118 : decode cX2_readBase85 118 = .ok (.ldc2_w 91, 3) := by decide +kernel
theorem dX2_readBase85_121 : decode cX2_readBase85 121 = .ok (.lsub, 1) := by decide +kernel
theorem dX2_readBase85_122 : decode cX2_readBase85 122 = .ok (.lstore_n 2, 1) := by decide +kernel
theorem dX2_readBase85_123 : decode cX2_readBase85 123 = .ok (.iinc 4 1, 3) := by decide +kernel
theorem dX2_readBase85_126 : decode cX2_readBase85 126 = .ok (.lload_n 2, 1) := by decide +kernel
theorem dX2_readBase85_127 : decode cX2_readBase85 127 = .ok (.ldc2_w 93, 3) := by decide +kernel
theorem dX2_readBase85_130 : decode cX2_readBase85 130 = .ok (.lcmp, 1) := by decide +kernel
theorem dX2_readBase85_131 : decode cX2_readBase85 131 = .ok (.ifCond .lt 12, 3) := by decide +kernel
theorem dX2_readBase85_134 : decode cX2_readBase85 134 = .ok (.aload_n 1, 1) := by decide +kernel
theorem dX2_readBase85_135 : decode cX2_readBase85 135 = .ok (.bipush (-3), 2) := by decide +kernel
theorem dX2_readBase85_137 : decode cX2_readBase85 137 = .ok (.iload 5, 2) := by decide +kernel
theorem dX2_readBase85_139 : decode cX2_readBase85 139 = .ok (.invokevirtual 78, 3) := by decide +kernel
theorem dX2_readBase85_142 : decode cX2_readBase85 142 = .ok (.ireturn, 1) := by decide +kernel
theorem dX2_readBase85_143 : decode cX2_readBase85 143 = .ok (.iload 4, 2) := by decide +kernel
theorem dX2_readBase85_145 : decode cX2_readBase85 145 = .ok (.iconst 5, 1) := by decide +kernel
theorem dX2_readBase85_146 : decode cX2_readBase85 146 = .ok (.if_icmp .ne 14, 3) := by decide +kernel
theorem dX2_readBase85_149 : decode cX2_readBase85 149 = .ok (.aload_n 1, 1) := by decide +kernel
theorem dX2_readBase85_150 : decode cX2_readBase85 150 = .ok (.lload_n 2, 1) := by decide +kernel
theorem dX2_readBase85_151 : decode cX2_readBase85 151 = .ok (.iconst 4, 1) := by decide +kernel
theorem dX2_readBase85_152 : decode cX2_readBase85 152 = .ok (.invokestatic 85, 3) := by decide +kernel
theorem dX2_readBase85_155 : decode cX2_readBase85 155 = .ok (.lconst 0, 1) := by decide +kernel
theorem dX2_readBase85_156 : decode cX2_readBase85 156 = .ok (.lstore_n 2, 1) := by decide +kernel
theorem dX2_readBase85_157 : decode cX2_readBase85 157 = .ok (.iconst 0, 1) := by decide +kernel
theorem dX2_readBase85_158 : decode cX2_readBase85 158 = .ok (.istore 4, 2) := by decide +kernel
theorem dX2_readBase85_160 : decode cX2_readBase85 160 = .ok (.iinc 5 1, 3) := by decide +kernel
theorem dX2_readBase85_163 : decode cX2_readBase85 163 = .ok (.goto (-150), 3) := by decide +kernel
theorem dX2_readBase85_166 : decode cX2_readBase85 166 = .ok (.aload_n 0, 1) := by decide +kernel
theorem dX2_readBase85_167 : decode cX2_readBase85 167 = .ok (.getfield 9, 3) := by decide +kernel
theorem dX2_readBase85_170 : decode cX2_readBase85 170 = .ok (.aload_n 1, 1) := by decide +kernel
theorem dX2_readBase85_171 : decode cX2_readBase85 171 = .ok (.invokevirtual 44, 3) := by decide +kernel
theorem dX2_readBase85_174 : decode cX2_readBase85 174 = .ok (.ireturn, 1) := by decide +kernel
theorem dX2_endBase85_0 : decode cX2_endBase85 0 = .ok (.lload_n 3, 1) := by decide +kernel
theorem dX2_endBase85_1 : decode cX2_endBase85 1 = .ok (.lstore 6, 2) := by decide +kernel
theorem dX2_endBase85_3 : decode cX2_endBase85 3 = .ok (.iload 5, 2) := by decide +kernel
theorem dX2_endBase85_5 : decode cX2_endBase85 5 = .ok (.istore 8, 2) := by decide +kernel
theorem dX2_endBase85_7 : decode cX2_endBase85 7 = .ok (.iload 8, 2) := by decide +kernel
theorem dX2_endBase85_9 : decode cX2_endBase85 9 = .ok (.iconst 5, 1) := by decide +kernel
theorem dX2_endBase85_10 : decode cX2_endBase85 10 = .ok (.if_icmp .ge 21, 3) := by decide +kernel
theorem dX2_endBase85_13 : decode cX2_endBase85 13 = .ok (.lload 6, 2) := by decide +kernel
theorem dX2_endBase85_15 : decode cX2_endBase85 15 = .ok (.ldc2_w 89, 3) := by decide +kernel
theorem dX2_endBase85_18 : decode cX2_endBase85 18 = .ok (.lmul, 1) := by decide +kernel
theorem dX2_endBase85_19 : decode cX2_endBase85 19 = .ok (.ldc2_w 95, 3) := by decide +kernel
theorem dX2_endBase85_22 : decode cX2_endBase85 22 = .ok (.ladd, 1) := by decide +kernel
theorem dX2_endBase85_23 : decode cX2_endBase85 23 = .ok (.lstore 6, 2) := by decide +kernel
theorem dX2_endBase85_25 : decode cX2_endBase85 25 = .ok (.iinc 8 1, 3) := by decide +kernel
theorem dX2_endBase85_28 : decode cX2_endBase85 28 = .ok (.goto (-21), 3) := by decide +kernel
theorem dX2_endBase85_31 : decode cX2_endBase85 31 = .ok (.iload 5, 2) := by decide +kernel
theorem dX2_endBase85_33 : decode cX2_endBase85 33 = .ok (.iconst 1, 1) := by decide +kernel
theorem dX2_endBase85_34 : decode cX2_endBase85 34 = .ok (.if_icmp .eq 18, 3) := by decide +kernel
theorem dX2_endBase85_37 : decode cX2_endBase85 37 = .ok (.iload 5, 2) := by decide +kernel
theorem dX2_endBase85_39 : decode cX2_endBase85 39 = .ok (.iconst 1, 1) := by decide +kernel
theorem dX2_endBase85_40 : decode cX2_endBase85 40 = .ok (.if_icmp .le 20, 3) := by decide +kernel
theorem dX2_endBase85_43 : decode cX2_endBase85 43 = .ok (.lload 6, 2) := by decide +kernel
theorem dX2_endBase85_45 : decode cX2_endBase85 45 = .ok (.ldc2_w 93, 3) := by decide +kernel
theorem dX2_endBase85_48 : decode cX2_endBase85 48 = .ok (.lcmp, 1) := by decide +kernel
theorem dX2_endBase85_49 : decode cX2_endBase85 49 = .ok (.ifCond .lt 11, 3) := by decide +kernel
theorem dX2_endBase85_52 : decode cX2_endBase85 52 = .ok (.aload_n 1, 1) := by decide +kernel
theorem dX2_endBase85_53 : decode cX2_endBase85 53 = .ok (.bipush (-3), 2) := by decide +kernel
theorem dX2_endBase85_55 : decode cX2_endBase85 55 = .ok (.iload_n 2, 1) := by decide +kernel
theorem dX2_endBase85_56 : decode cX2_endBase85 56 = .ok (.invokevirtual 78, 3) := by decide +kernel
theorem dX2_endBase85_59 : decode cX2_endBase85 59 = .ok (.ireturn, 1) := by decide +kernel
theorem dX2_endBase85_60 : decode cX2_endBase85 60 = .ok (.aload_n 0, 1) := by decide +kernel
theorem dX2_endBase85_61 : decode cX2_endBase85 61 = .ok (.getfield 9, 3) := by decide +kernel
theorem dX2_endBase85_64 : decode cX2_endBase85 64 = .ok (.iload_n 2, 1) := by decide +kernel
theorem dX2_endBase85_65 : decode cX2_endBase85 65 = .ok (.iconst 1, 1) := by decide +kernel
theorem dX2_endBase85_66 : decode cX2_endBase85 66 = .ok (.iadd, 1) := by decide +kernel
theorem dX2_endBase85_67 : decode cX2_endBase85 67 = .ok (.invokevirtual 26, 3) := by decide +kernel
theorem dX2_endBase85_70 : decode cX2_endBase85 70 = .ok (.istore 8, 2) := by decide +kernel
theorem dX2_endBase85_72 : decode cX2_endBase85 72 = .ok (.iload 8, 2) := by decide +kernel
theorem dX2_endBase85_74 : decode cX2_endBase85 74 = .ok (.iconst (-1), 1) := by decide +kernel
theorem dX2_endBase85_75 : decode cX2_endBase85 75 = .ok (.if_icmp .ne 12, 3) := by decide +kernel
theorem dX2_endBase85_78 : decode cX2_endBase85 78 = .ok (.aload_n 0, 1) := by decide +kernel
theorem dX2_endBase85_79 : decode cX2_endBase85 79 = .ok (.getfield 9, 3) := by decide +kernel
theorem dX2_endBase85_82 : decode cX2_endBase85 82 = .ok (.aload_n 1, 1) := by decide +kernel
theorem dX2_endBase85_83 : decode cX2_endBase85 83 = .ok (.invokevirtual 44, 3) := by decide +kernel
theorem dX2_endBase85_86 : decode cX2_endBase85 86 = .ok (.ireturn, 1) := by decide +kernel
theorem dX2_endBase85_87 : decode cX2_endBase85 87 = .ok (.iload 8, 2) := by decide +kernel
theorem dX2_endBase85_89 : decode cX2_endBase85 89 = .ok (.bipush 62, 2) := by decide +kernel
theorem dX2_endBase85_91 : decode cX2_endBase85 91 = .ok (.if_icmp .eq 13, 3) := by decide +kernel
theorem dX2_endBase85_94 : decode cX2_endBase85 94 = .ok (.aload_n 1, 1) := by decide +kernel
theorem dX2_endBase85_95 : decode cX2_endBase85 95 = .ok (.bipush (-3), 2) := by decide +kernel
theorem dX2_endBase85_97 : decode cX2_endBase85 97 = .ok (.iload_n 2, 1) := by decide +kernel
theorem dX2_endBase85_98 : decode cX2_endBase85 98 = .ok (.iconst 1, 1) := by decide +kernel
theorem dX2_endBase85_99 : decode cX2_endBase85 99 = .ok (.iadd, 1) := by decide +kernel
theorem dX2_endBase85_100 : decode cX2_endBase85 100 = .ok (.invokevirtual 78, 3) := by decide +kernel
theorem dX2_endBase85_103 : decode cX2_endBase85 103 = .ok (.ireturn, 1) := by decide +kernel
theorem dX2_endBase85_104 : decode cX2_endBase85 104 = .ok (.aload_n 1, 1) := by decide +kernel
theorem dX2_endBase85_105 : decode cX2_endBase85 105 = .ok (.lload 6, 2) := by decide +kernel
theorem dX2_endBase85_107 : decode cX2_endBase85 107 = .ok (.iload 5, 2) := by decide +kernel
theorem dX2_endBase85_109 : decode cX2_endBase85 109 = .ok (.iconst 1, 1) := by decide +kernel
theorem dX2_endBase85_110 : decode cX2_endBase85 110 = .ok (.isub, 1) := by decide +kernel
theorem dX2_endBase85_111 : decode cX2_endBase85 111 = .ok (.invokestatic 85, 3) := by decide +kernel
theorem dX2_endBase85_114 : decode cX2_endBase85 114 = .ok (.aload_n 1, 1) := by decide +kernel
theorem dX2_endBase85_115 : decode cX2_endBase85 115 = .ok (.iload_n 2, 1) := by decide +kernel
theorem dX2_endBase85_116 : decode cX2_endBase85 116 = .ok (.iconst 2, 1) := by decide +kernel
theorem dX2_endBase85_117 : decode cX2_endBase85 117 = .ok (.iadd, 1) := by decide +kernel
theorem dX2_endBase85_118 : decode cX2_endBase85 118 = .ok (.invokestatic 30, 3) := by decide +kernel
theorem dX2_endBase85_121 : decode cX2_endBase85 121 = .ok (.ireturn, 1) := by decide +kernel
theorem dX2_putHighest_0 : decode cX2_putHighest 0 = .ok (.iconst 0, 1) := by decide +kernel
theorem dX2_putHighest_1 : decode cX2_putHighest 1 = .ok (.istore 4, 2) := by decide +kernel
theorem dX2_putHighest_3 : decode cX2_putHighest 3 = .ok (.iload 4, 2) := by decide +kernel
theorem dX2_putHighest_5 : decode cX2_putHighest 5 = .ok (.iload_n 3, 1) := by decide +kernel
theorem dX2_putHighest_6 : decode cX2_putHighest 6 = .ok (.if_icmp .ge 28, 3) := by decide +kernel
theorem dX2_putHighest_9 : decode cX2_putHighest 9 = .ok (.aload_n 0, 1) := by decide +kernel
theorem dX2_putHighest_10 : decode cX2_putHighest 10 = .ok (.lload_n 1, 1) := by decide +kernel
theorem dX2_putHighest_11 : decode cX2_putHighest 11 = .ok (.bipush 24, 2) := by decide +kernel
theorem dX2_putHighest_13 : decode cX2_putHighest 13 = .ok (.bipush 8, 2) := by decide +kernel
theorem dX2_putHighest_15 : decode cX2_putHighest 15 = .ok (.iload 4, 2) := by decide +kernel
theorem dX2_putHighest_17 : decode cX2_putHighest 17 = .ok (.imul, 1) := by decide +kernel
theorem dX2_putHighest_18 : decode cX2_putHighest 18 = .ok (.isub, 1) := by decide +kernel
theorem dX2_putHighest_19 : decode cX2_putHighest 19 = .ok (.lshr, 1) := by decide +kernel
theorem dX2_putHighest_20 : decode cX2_putHighest 20 = .ok (.l2i, 1) := by decide +kernel
theorem dX2_putHighest_21 : decode cX2_putHighest 21 = .ok (.sipush 255, 3) := by decide +kernel
theorem dX2_putHighest_24 : decode cX2_putHighest 24 = .ok (.iand, 1) := by decide +kernel
theorem dX2_putHighest_25 : decode cX2_putHighest 25 = .ok (.invokevirtual 54, 3) := by decide +kernel
theorem dX2_putHighest_28 : decode cX2_putHighest 28 = .ok (.iinc 4 1, 3) := by decide +kernel
theorem dX2_putHighest_31 : decode cX2_putHighest 31 = .ok (.goto (-28), 3) := by decide +kernel
theorem dX2_putHighest_34 : decode cX2_putHighest 34 = .ok (.return_, 1) := by decide +kernel
theorem dX2_wholeString_0 : decode cX2_wholeString 0 = .ok (.aload_n 0, 1) := by decide +kernel
theorem dX2_wholeString_1 : decode cX2_wholeString 1 = .ok (.iload_n 1, 1) := by decide +kernel
theorem dX2_wholeString_2 : decode cX2_wholeString 2 = .ok (.putfield 97, 3) := by decide +kernel
theorem dX2_wholeString_5 : decode cX2_wholeString 5 = .ok (.aload_n 0, 1) := by decide +kernel
theorem dX2_wholeString_6 : decode cX2_wholeString 6 = .ok (.bipush 6, 2) := by decide +kernel
theorem dX2_wholeString_8 : decode cX2_wholeString 8 = .ok (.sipush 400, 3) := by decide +kernel
theorem dX2_wholeString_11 : decode cX2_wholeString 11 = .ok (.invokevirtual 100, 3) := by decide +kernel
theorem dX2_wholeString_14 : decode cX2_wholeString 14 = .ok (.ireturn, 1) := by decide +kernel
theorem dX3_init_0 : decode cX3_init 0 = .ok (.aload_n 0, 1) := by decide +kernel
theorem dX3_init_1 : decode cX3_init 1 = .ok (.invokespecial 3, 3) := by decide +kernel
theorem dX3_init_4 : decode cX3_init 4 = .ok (.aload_n 0, 1) := by decide +kernel
theorem dX3_init_5 : decode cX3_init 5 = .ok (.sipush 401, 3) := by decide +kernel
theorem dX3_init_8 : decode cX3_init 8 = .ok (.newarray .byte, 2) := by decide +kernel
theorem dX3_init_10 : decode cX3_init 10 = .ok (.putfield 9, 3) := by decide +kernel
theorem dX3_init_13 : decode cX3_init 13 = .ok (.aload_n 0, 1) := by decide +kernel
theorem dX3_init_14 : decode cX3_init 14 = .ok (.bipush 60, 2) := by decide +kernel
theorem dX3_init_16 : decode cX3_init 16 = .ok (.newarray .int, 2) := by decide +kernel
theorem dX3_init_18 : decode cX3_init 18 = .ok (.putfield 15, 3) := by decide +kernel
theorem dX3_init_21 : decode cX3_init 21 = .ok (.aload_n 0, 1) := by decide +kernel
theorem dX3_init_22 : decode cX3_init 22 = .ok (.bipush 60, 2) := by decide +kernel
theorem dX3_init_24 : decode cX3_init 24 = .ok (.newarray .double, 2) := by decide +kernel
theorem dX3_init_26 : decode cX3_init 26 = .ok (.putfield 19, 3) := by decide +kernel
theorem dX3_init_29 : decode cX3_init 29 = .ok (.return_, 1) := by decide +kernel
theorem dX3_startAt_0 : decode cX3_startAt 0 = .ok (.aload_n 0, 1) := by decide +kernel
theorem dX3_startAt_1 : decode cX3_startAt 1 = .ok (.iload_n 1, 1) := by decide +kernel
theorem dX3_startAt_2 : decode cX3_startAt 2 = .ok (.putfield 23, 3) := by decide +kernel
theorem dX3_startAt_5 : decode cX3_startAt 5 = .ok (.aload_n 0, 1) := by decide +kernel
theorem dX3_startAt_6 : decode cX3_startAt 6 = .ok (.iload_n 1, 1) := by decide +kernel
theorem dX3_startAt_7 : decode cX3_startAt 7 = .ok (.iconst 1, 1) := by decide +kernel
theorem dX3_startAt_8 : decode cX3_startAt 8 = .ok (.iadd, 1) := by decide +kernel
theorem dX3_startAt_9 : decode cX3_startAt 9 = .ok (.putfield 27, 3) := by decide +kernel
theorem dX3_startAt_12 : decode cX3_startAt 12 = .ok (.aload_n 0, 1) := by decide +kernel
theorem dX3_startAt_13 : decode cX3_startAt 13 = .ok (.lconst 0, 1) := by decide +kernel
theorem dX3_startAt_14 : decode cX3_startAt 14 = .ok (.putfield 30, 3) := by decide +kernel
theorem dX3_startAt_17 : decode cX3_startAt 17 = .ok (.aload_n 0, 1) := by decide +kernel
theorem dX3_startAt_18 : decode cX3_startAt 18 = .ok (.dconst 0, 1) := by decide +kernel
theorem dX3_startAt_19 : decode cX3_startAt 19 = .ok (.putfield 34, 3) := by decide +kernel
theorem dX3_startAt_22 : decode cX3_startAt 22 = .ok (.aload_n 0, 1) := by decide +kernel
theorem dX3_startAt_23 : decode cX3_startAt 23 = .ok (.iconst 0, 1) := by decide +kernel
theorem dX3_startAt_24 : decode cX3_startAt 24 = .ok (.putfield 38, 3) := by decide +kernel
theorem dX3_startAt_27 : decode cX3_startAt 27 = .ok (.aload_n 0, 1) := by decide +kernel
theorem dX3_startAt_28 : decode cX3_startAt 28 = .ok (.iconst 0, 1) := by decide +kernel
theorem dX3_startAt_29 : decode cX3_startAt 29 = .ok (.putfield 41, 3) := by decide +kernel
theorem dX3_startAt_32 : decode cX3_startAt 32 = .ok (.return_, 1) := by decide +kernel
theorem dX3_put_0 : decode cX3_put 0 = .ok (.aload_n 0, 1) := by decide +kernel
theorem dX3_put_1 : decode cX3_put 1 = .ok (.getfield 38, 3) := by decide +kernel
theorem dX3_put_4 : decode cX3_put 4 = .ok (.aload_n 0, 1) := by decide +kernel
theorem dX3_put_5 : decode cX3_put 5 = .ok (.getfield 9, 3) := by decide +kernel
theorem dX3_put_8 : decode cX3_put 8 = .ok (.arraylength, 1) := by decide +kernel
theorem dX3_put_9 : decode cX3_put 9 = .ok (.if_icmp .ge 24, 3) := by decide +kernel
theorem dX3_put_12 : decode cX3_put 12 = .ok (.aload_n 0, 1) := by decide +kernel
theorem dX3_put_13 : decode cX3_put 13 = .ok (.getfield 9, 3) := by decide +kernel
theorem dX3_put_16 : decode cX3_put 16 = .ok (.aload_n 0, 1) := by decide +kernel
theorem dX3_put_17 : decode cX3_put 17 = .ok (.getfield 38, 3) := by decide +kernel
theorem dX3_put_20 : decode cX3_put 20 = .ok (.iload_n 1, 1) := by decide +kernel
theorem dX3_put_21 : decode cX3_put 21 = .ok (.i2b, 1) := by decide +kernel
theorem dX3_put_22 : decode cX3_put 22 = .ok (.bastore, 1) := by decide +kernel
theorem dX3_put_23 : decode cX3_put 23 = .ok (.aload_n 0, 1) := by decide +kernel
theorem dX3_put_24 : decode cX3_put 24 = .ok (.dup, 1) := by decide +kernel
theorem dX3_put_25 : decode cX3_put 25 = .ok (.getfield 38, 3) := by decide +kernel
theorem dX3_put_28 : decode cX3_put 28 = .ok (.iconst 1, 1) := by decide +kernel
theorem dX3_put_29 : decode cX3_put 29 = .ok (.iadd, 1) := by decide +kernel
theorem dX3_put_30 : decode cX3_put 30 = .ok (.putfield 38, 3) := by decide +kernel
theorem dX3_put_33 : decode cX3_put 33 = .ok (.return_, 1) := by decide +kernel
theorem dX3_textAt_0 : decode cX3_textAt 0 = .ok (.iload_n 1, 1) := by decide +kernel
theorem dX3_textAt_1 : decode cX3_textAt 1 = .ok (.ifCond .lt 24, 3) := by decide +kernel
theorem dX3_textAt_4 : decode cX3_textAt 4 = .ok (.iload_n 1, 1) := by decide +kernel
theorem dX3_textAt_5 : decode cX3_textAt 5 = .ok (.aload_n 0, 1) := by decide +kernel
theorem dX3_textAt_6 : decode cX3_textAt 6 = .ok (.getfield 38, 3) := by decide +kernel
theorem dX3_textAt_9 : decode cX3_textAt 9 = .ok (.if_icmp .ge 16, 3) := by decide +kernel
theorem dX3_textAt_12 : decode cX3_textAt 12 = .ok (.aload_n 0, 1) := by decide +kernel
theorem dX3_textAt_13 : decode cX3_textAt 13 = .ok (.getfield 9, 3) := by decide +kernel
theorem dX3_textAt_16 : decode cX3_textAt 16 = .ok (.iload_n 1, 1) := by decide +kernel
theorem dX3_textAt_17 : decode cX3_textAt 17 = .ok (.baload, 1) := by decide +kernel
theorem dX3_textAt_18 : decode cX3_textAt 18 = .ok (.sipush 255, 3) := by decide +kernel
theorem dX3_textAt_21 : decode cX3_textAt 21 = .ok (.iand, 1) := by decide +kernel
theorem dX3_textAt_22 : decode cX3_textAt 22 = .ok (.goto 4, 3) := by decide +kernel
theorem dX3_textAt_25 : decode cX3_textAt 25 = .ok (.iconst (-1), 1) := by decide +kernel
theorem dX3_textAt_26 : decode cX3_textAt 26 = .ok (.ireturn, 1) := by decide +kernel
theorem dX3_asText_0 : decode cX3_asText 0 = .ok (.aload_n 0, 1) := by decide +kernel
theorem dX3_asText_1 : decode cX3_asText 1 = .ok (.getfield 38, 3) := by decide +kernel
theorem dX3_asText_4 : decode cX3_asText 4 = .ok (.iload_n 2, 1) := by decide +kernel
theorem dX3_asText_5 : decode cX3_asText 5 = .ok (.if_icmp .le 6, 3) := by decide +kernel
theorem dX3_asText_8 : decode cX3_asText 8 = .ok (.bipush (-2), 2) := by decide +kernel
theorem dX3_asText_10 : decode cX3_asText 10 = .ok (.ireturn, 1) := by decide +kernel
theorem dX3_asText_11 : decode cX3_asText 11 = .ok (.aload_n 0, 1) := by decide +kernel
theorem dX3_asText_12 : decode cX3_asText 12 = .ok (.aload_n 0, 1) := by decide +kernel
theorem dX3_asText_13 : decode cX3_asText 13 = .ok (.getfield 38, 3) := by decide +kernel
theorem dX3_asText_16 : decode cX3_asText 16 = .ok (.i2l, 1) := by decide +kernel
theorem dX3_asText_17 : decode cX3_asText 17 = .ok (.putfield 30, 3) := by decide +kernel
theorem dX3_asText_20 : decode cX3_asText 20 = .ok (.iload_n 1, 1) := by decide +kernel
theorem dX3_asText_21 : decode cX3_asText 21 = .ok (.ireturn, 1) := by decide +kernel
theorem dX3_asWhole_0 : decode cX3_asWhole 0 = .ok (.aload_n 0, 1) := by decide +kernel
theorem dX3_asWhole_1 : decode cX3_asWhole 1 = .ok (.iconst 0, 1) := by decide +kernel
theorem dX3_asWhole_2 : decode cX3_asWhole 2 = .ok (.putfield 38, 3) := by decide +kernel
theorem dX3_asWhole_5 : decode cX3_asWhole 5 = .ok (.aload_n 0, 1) := by decide +kernel
theorem dX3_asWhole_6 : decode cX3_asWhole 6 = .ok (.lload_n 2, 1) := by decide +kernel
theorem dX3_asWhole_7 : decode cX3_asWhole 7 = .ok (.putfield 30, 3) := by decide +kernel
theorem dX3_asWhole_10 : decode cX3_asWhole 10 = .ok (.iload_n 1, 1) := by decide +kernel
theorem dX3_asWhole_11 : decode cX3_asWhole 11 = .ok (.ireturn, 1) := by decide +kernel
theorem dX3_asReal_0 : decode cX3_asReal 0 = .ok (.aload_n 0, 1) := by decide +kernel
theorem dX3_asReal_1 : decode cX3_asReal 1 = .ok (.iconst 0, 1) := by decide +kernel
theorem dX3_asReal_2 : decode cX3_asReal 2 = .ok (.putfield 38, 3) := by decide +kernel
theorem dX3_asReal_5 : decode cX3_asReal 5 = .ok (.aload_n 0, 1) := by decide +kernel
theorem dX3_asReal_6 : decode cX3_asReal 6 = .ok (.lconst 0, 1) := by decide +kernel
theorem dX3_asReal_7 : decode cX3_asReal 7 = .ok (.putfield 30, 3) := by decide +kernel
theorem dX3_asReal_10 : decode cX3_asReal 10 = .ok (.aload_n 0, 1) := by decide +kernel
theorem dX3_asReal_11 : decode cX3_asReal 11 = .ok (.dload_n 1, 1) := by decide +kernel
theorem dX3_asReal_12 : decode cX3_asReal 12 = .ok (.putfield 34, 3) := by decide +kernel
theorem dX3_asReal_15 : decode cX3_asReal 15 = .ok (.iconst 2, 1) := by decide +kernel
theorem dX3_asReal_16 : decode cX3_asReal 16 = .ok (.ireturn, 1) := by decide +kernel
theorem dX3_putInRow_0 : decode cX3_putInRow 0 = .ok (.aload_n 0, 1) := by decide +kernel
theorem dX3_putInRow_1 : decode cX3_putInRow 1 = .ok (.getfield 41, 3) := by decide +kernel
theorem dX3_putInRow_4 : decode cX3_putInRow 4 = .ok (.aload_n 0, 1) := by decide +kernel
theorem dX3_putInRow_5 : decode cX3_putInRow 5 = .ok (.getfield 15, 3) := by decide +kernel
theorem dX3_putInRow_8 : decode cX3_putInRow 8 = .ok (.arraylength, 1) := by decide +kernel
theorem dX3_putInRow_9 : decode cX3_putInRow 9 = .ok (.if_icmp .ge 45, 3) := by decide +kernel
theorem dX3_putInRow_12 : decode cX3_putInRow 12 = .ok (.aload_n 0, 1) := by decide +kernel
theorem dX3_putInRow_13 : decode cX3_putInRow 13 = .ok (.getfield 41, 3) := by decide +kernel
theorem dX3_putInRow_16 : decode cX3_putInRow 16 = .ok (.aload_n 0, 1) := by decide +kernel
theorem dX3_putInRow_17 : decode cX3_putInRow 17 = .ok (.getfield 19, 3) := by decide +kernel
theorem dX3_putInRow_20 : decode cX3_putInRow 20 = .ok (.arraylength, 1) := by decide +kernel
theorem dX3_putInRow_21 : decode cX3_putInRow 21 = .ok (.if_icmp .ge 33, 3) := by decide +kernel
theorem dX3_putInRow_24 : decode cX3_putInRow 24 = .ok (.aload_n 0, 1) := by decide +kernel
theorem dX3_putInRow_25 : decode cX3_putInRow 25 = .ok (.getfield 15, 3) := by decide +kernel
theorem dX3_putInRow_28 : decode cX3_putInRow 28 = .ok (.aload_n 0, 1) := by decide +kernel
theorem dX3_putInRow_29 : decode cX3_putInRow 29 = .ok (.getfield 41, 3) := by decide +kernel
theorem dX3_putInRow_32 : decode cX3_putInRow 32 = .ok (.iload_n 1, 1) := by decide +kernel
theorem dX3_putInRow_33 : decode cX3_putInRow 33 = .ok (.iastore, 1) := by decide +kernel
theorem dX3_putInRow_34 : decode cX3_putInRow 34 = .ok (.aload_n 0, 1) := by decide +kernel
theorem dX3_putInRow_35 : decode cX3_putInRow 35 = .ok (.getfield 19, 3) := by decide +kernel
theorem dX3_putInRow_38 : decode cX3_putInRow 38 = .ok (.aload_n 0, 1) := by decide +kernel
theorem dX3_putInRow_39 : decode cX3_putInRow 39 = .ok (.getfield 41, 3) := by decide +kernel
theorem dX3_putInRow_42 : decode cX3_putInRow 42 = .ok (.dload_n 2, 1) := by decide +kernel
theorem dX3_putInRow_43 : decode cX3_putInRow 43 = .ok (.dastore, 1) := by decide +kernel
theorem dX3_putInRow_44 : decode cX3_putInRow 44 = .ok (.aload_n 0, 1) := by decide +kernel
theorem dX3_putInRow_45 : decode cX3_putInRow 45 = .ok (.dup, 1) := by decide +kernel
theorem dX3_putInRow_46 : decode cX3_putInRow 46 = .ok (.getfield 41, 3) := by decide +kernel
theorem dX3_putInRow_49 : decode cX3_putInRow 49 = .ok (.iconst 1, 1) := by decide +kernel
theorem dX3_putInRow_50 : decode cX3_putInRow 50 = .ok (.iadd, 1) := by decide +kernel
theorem dX3_putInRow_51 : decode cX3_putInRow 51 = .ok (.putfield 41, 3) := by decide +kernel
theorem dX3_putInRow_54 : decode cX3_putInRow 54 = .ok (.return_, 1) := by decide +kernel
theorem dX3_hasInRow_0 : decode cX3_hasInRow 0 = .ok (.iload_n 1, 1) := by decide +kernel
theorem dX3_hasInRow_1 : decode cX3_hasInRow 1 = .ok (.ifCond .lt 15, 3) := by decide +kernel
theorem dX3_hasInRow_4 : decode cX3_hasInRow 4 = .ok (.iload_n 1, 1) := by decide +kernel
theorem dX3_hasInRow_5 : decode cX3_hasInRow 5 = .ok (.aload_n 0, 1) := by decide +kernel
theorem dX3_hasInRow_6 : decode cX3_hasInRow 6 = .ok (.getfield 41, 3) := by decide +kernel
theorem dX3_hasInRow_9 : decode cX3_hasInRow 9 = .ok (.if_icmp .ge 7, 3) := by decide +kernel
theorem dX3_hasInRow_12 : decode cX3_hasInRow 12 = .ok (.iconst 1, 1) := by decide +kernel
theorem dX3_hasInRow_13 : decode cX3_hasInRow 13 = .ok (.goto 4, 3) := by decide +kernel
theorem dX3_hasInRow_16 : decode cX3_hasInRow 16 = .ok (.iconst 0, 1) := by decide +kernel
theorem dX3_hasInRow_17 : decode cX3_hasInRow 17 = .ok (.ireturn, 1) := by decide +kernel
theorem dX3_wrongByte_0 : decode cX3_wrongByte 0 = .ok (.aload_n 0, 1) := by decide +kernel
theorem dX3_wrongByte_1 : decode cX3_wrongByte 1 = .ok (.iload_n 2, 1) := by decide +kernel
theorem dX3_wrongByte_2 : decode cX3_wrongByte 2 = .ok (.putfield 23, 3) := by decide +kernel
theorem dX3_wrongByte_5 : decode cX3_wrongByte 5 = .ok (.aload_n 0, 1) := by decide +kernel
theorem dX3_wrongByte_6 : decode cX3_wrongByte 6 = .ok (.iload_n 2, 1) := by decide +kernel
theorem dX3_wrongByte_7 : decode cX3_wrongByte 7 = .ok (.iconst 1, 1) := by decide +kernel
theorem dX3_wrongByte_8 : decode cX3_wrongByte 8 = .ok (.iadd, 1) := by decide +kernel
theorem dX3_wrongByte_9 : decode cX3_wrongByte 9 = .ok (.putfield 27, 3) := by decide +kernel
theorem dX3_wrongByte_12 : decode cX3_wrongByte 12 = .ok (.iload_n 1, 1) := by decide +kernel
theorem dX3_wrongByte_13 : decode cX3_wrongByte 13 = .ok (.ireturn, 1) := by decide +kernel
theorem dX4_init_0 : decode cX4_init 0 = .ok (.aload_n 0, 1) := by decide +kernel
theorem dX4_init_1 : decode cX4_init 1 = .ok (.invokespecial 3, 3) := by decide +kernel
theorem dX4_init_4 : decode cX4_init 4 = .ok (.aload_n 0, 1) := by decide +kernel
theorem dX4_init_5 : decode cX4_init 5 = .ok (.bipush 10, 2) := by decide +kernel
theorem dX4_init_7 : decode cX4_init 7 = .ok (.putfield 9, 3) := by decide +kernel
theorem dX4_init_10 : decode cX4_init 10 = .ok (.aload_n 0, 1) := by decide +kernel
theorem dX4_init_11 : decode cX4_init 11 = .ok (.aload_n 1, 1) := by decide +kernel
theorem dX4_init_12 : decode cX4_init 12 = .ok (.putfield 15, 3) := by decide +kernel
theorem dX4_init_15 : decode cX4_init 15 = .ok (.return_, 1) := by decide +kernel
theorem dX4_readSlashed_0 : decode cX4_readSlashed 0 = .ok (.aload_n 1, 1) := by decide +kernel
theorem dX4_readSlashed_1 : decode cX4_readSlashed 1 = .ok (.getfield 19, 3) := by decide +kernel
theorem dX4_readSlashed_4 : decode cX4_readSlashed 4 = .ok (.iconst 1, 1) := by decide +kernel
theorem dX4_readSlashed_5 : decode cX4_readSlashed 5 = .ok (.iadd, 1) := by decide +kernel
theorem dX4_readSlashed_6 : decode cX4_readSlashed 6 = .ok (.istore_n 2, 1) := by decide +kernel
theorem dX4_readSlashed_7 : decode cX4_readSlashed 7 = .ok (.aload_n 0, 1) := by decide +kernel
theorem dX4_readSlashed_8 : decode cX4_readSlashed 8 = .ok (.getfield 15, 3) := by decide +kernel
theorem dX4_readSlashed_11 : decode cX4_readSlashed 11 = .ok (.iload_n 2, 1) := by decide +kernel
theorem dX4_readSlashed_12 : decode cX4_readSlashed 12 = .ok (.invokevirtual 24, 3) := by decide +kernel
theorem dX4_readSlashed_15 : decode cX4_readSlashed 15 = .ok (.bipush 47, 2) := by decide +kernel
theorem dX4_readSlashed_17 : decode cX4_readSlashed 17 = .ok (.if_icmp .ne 13, 3) := by decide +kernel
theorem dX4_readSlashed_20 : decode cX4_readSlashed 20 = .ok (.aload_n 0, 1) := by decide +kernel
theorem dX4_readSlashed_21 : decode cX4_readSlashed 21 = .ok (.aload_n 1, 1) := by decide +kernel
theorem dX4_readSlashed_22 : decode cX4_readSlashed 22 = .ok (.iconst 5, 1) := by decide +kernel
theorem dX4_readSlashed_23 : decode cX4_readSlashed 23 = .ok (.iload_n 2, 1) := by decide +kernel
theorem dX4_readSlashed_24 : decode cX4_readSlashed 24 = .ok (.iconst 1, 1) := by decide +kernel
theorem dX4_readSlashed_25 : decode cX4_readSlashed 25 = .ok (.iadd, 1) := by decide +kernel
theorem dX4_readSlashed_26 : decode cX4_readSlashed 26 = .ok (.invokevirtual 30, 3) := by decide +kernel
theorem dX4_readSlashed_29 : decode cX4_readSlashed 29 = .ok (.ireturn, 1) := by decide +kernel
theorem dX4_readSlashed_30 : decode cX4_readSlashed 30 = .ok (.aload_n 0, 1) := by decide +kernel
theorem dX4_readSlashed_31 : decode cX4_readSlashed 31 = .ok (.aload_n 1, 1) := by decide +kernel
theorem dX4_readSlashed_32 : decode cX4_readSlashed 32 = .ok (.iconst 4, 1) := by decide +kernel
theorem dX4_readSlashed_33 : decode cX4_readSlashed 33 = .ok (.iload_n 2, 1) := by decide +kernel
theorem dX4_readSlashed_34 : decode cX4_readSlashed 34 = .ok (.invokevirtual 30, 3) := by decide +kernel
theorem dX4_readSlashed_37 : decode cX4_readSlashed 37 = .ok (.ireturn, 1) := by decide +kernel
theorem dX4_readWord_0 : decode cX4_readWord 0 = .ok (.aload_n 0, 1) := by decide +kernel
theorem dX4_readWord_1 : decode cX4_readWord 1 = .ok (.aload_n 1, 1) := by decide +kernel
theorem dX4_readWord_2 : decode cX4_readWord 2 = .ok (.iconst 3, 1) := by decide +kernel
theorem dX4_readWord_3 : decode cX4_readWord 3 = .ok (.aload_n 1, 1) := by decide +kernel
theorem dX4_readWord_4 : decode cX4_readWord 4 = .ok (.getfield 19, 3) := by decide +kernel
theorem dX4_readWord_7 : decode cX4_readWord 7 = .ok (.invokevirtual 30, 3) := by decide +kernel
theorem dX4_readWord_10 : decode cX4_readWord 10 = .ok (.istore_n 2, 1) := by decide +kernel
theorem dX4_readWord_11 : decode cX4_readWord 11 = .ok (.iload_n 2, 1) := by decide +kernel
theorem dX4_readWord_12 : decode cX4_readWord 12 = .ok (.iconst 3, 1) := by decide +kernel
theorem dX4_readWord_13 : decode cX4_readWord 13 = .ok (.if_icmp .ne 9, 3) := by decide +kernel
theorem dX4_readWord_16 : decode cX4_readWord 16 = .ok (.aload_n 0, 1) := by decide +kernel
theorem dX4_readWord_17 : decode cX4_readWord 17 = .ok (.aload_n 1, 1) := by decide +kernel
theorem dX4_readWord_18 : decode cX4_readWord 18 = .ok (.invokevirtual 34, 3) := by decide +kernel
theorem dX4_readWord_21 : decode cX4_readWord 21 = .ok (.istore_n 2, 1) := by decide +kernel
theorem dX4_readWord_22 : decode cX4_readWord 22 = .ok (.iload_n 2, 1) := by decide +kernel
theorem dX4_readWord_23 : decode cX4_readWord 23 = .ok (.iconst 3, 1) := by decide +kernel
theorem dX4_readWord_24 : decode cX4_readWord 24 = .ok (.if_icmp .ne 9, 3) := by decide +kernel
theorem dX4_readWord_27 : decode cX4_readWord 27 = .ok (.aload_n 0, 1) := by decide +kernel
theorem dX4_readWord_28 : decode cX4_readWord 28 = .ok (.aload_n 1, 1) := by decide +kernel
theorem dX4_readWord_29 : decode cX4_readWord 29 = .ok (.invokevirtual 38, 3) := by decide +kernel
theorem dX4_readWord_32 : decode cX4_readWord 32 = .ok (.istore_n 2, 1) := by decide +kernel
theorem dX4_readWord_33 : decode cX4_readWord 33 = .ok (.iload_n 2, 1) := by decide +kernel
theorem dX4_readWord_34 : decode cX4_readWord 34 = .ok (.iconst 3, 1) := by decide +kernel
theorem dX4_readWord_35 : decode cX4_readWord 35 = .ok (.if_icmp .ne 9, 3) := by decide +kernel
theorem dX4_readWord_38 : decode cX4_readWord 38 = .ok (.aload_n 0, 1) := by decide +kernel
theorem dX4_readWord_39 : decode cX4_readWord 39 = .ok (.aload_n 1, 1) := by decide +kernel
theorem dX4_readWord_40 : decode cX4_readWord 40 = .ok (.invokevirtual 41, 3) := by decide +kernel
theorem dX4_readWord_43 : decode cX4_readWord 43 = .ok (.istore_n 2, 1) := by decide +kernel
theorem dX4_readWord_44 : decode cX4_readWord 44 = .ok (.iload_n 2, 1) := by decide +kernel
theorem dX4_readWord_45 : decode cX4_readWord 45 = .ok (.ireturn, 1) := by decide +kernel
theorem dX4_readText_0 : decode cX4_readText 0 = .ok (.aload_n 0, 1) := by decide +kernel
theorem dX4_readText_1 : decode cX4_readText 1 = .ok (.getfield 15, 3) := by decide +kernel
theorem dX4_readText_4 : decode cX4_readText 4 = .ok (.iload_n 3, 1) := by decide +kernel
theorem dX4_readText_5 : decode cX4_readText 5 = .ok (.invokevirtual 44, 3) := by decide +kernel
theorem dX4_readText_8 : decode cX4_readText 8 = .ok (.istore 4, 2) := by decide +kernel
theorem dX4_readText_10 : decode cX4_readText 10 = .ok (.iload 4, 2) := by decide +kernel
theorem dX4_readText_12 : decode cX4_readText 12 = .ok (.aload_n 0, 1) := by decide +kernel
theorem dX4_readText_13 : decode cX4_readText 13 = .ok (.getfield 15, 3) := by decide +kernel
theorem dX4_readText_16 : decode cX4_readText 16 = .ok (.getfield 47, 3) := by decide +kernel
theorem dX4_readText_19 : decode cX4_readText 19 = .ok (.if_icmp .ne 15, 3) := by decide +kernel
theorem dX4_readText_22 : decode cX4_readText 22 = .ok (.aload_n 0, 1) := by decide +kernel
theorem dX4_readText_23 : decode cX4_readText 23 = .ok (.getfield 15, 3) := by decide +kernel
theorem dX4_readText_26 : decode cX4_readText 26 = .ok (.getfield 50, 3) := by decide +kernel
theorem dX4_readText_29 : decode cX4_readText 29 = .ok (.ifCond .ne 5, 3) := by decide +kernel
theorem dX4_readText_32 : decode cX4_readText 32 = .ok (.iconst 0, 1) := by decide +kernel
theorem dX4_readText_33 : decode cX4_readText 33 = .ok (.ireturn, 1) := by decide +kernel
theorem dX4_readText_34 : decode cX4_readText 34 = .ok (.iload_n 3, 1) := by decide +kernel
theorem dX4_readText_35 : decode cX4_readText 35 = .ok (.istore 5, 2) := by decide +kernel
theorem dX4_readText_37 : decode cX4_readText 37 = .ok (.iload 5, 2) := by decide +kernel
theorem dX4_readText_39 : decode cX4_readText 39 = .ok (.iload 4, 2) := by decide +kernel
theorem dX4_readText_41 : decode cX4_readText 41 = .ok (.if_icmp .ge 22, 3) := by decide +kernel
theorem dX4_readText_44 : decode cX4_readText 44 = .ok (.aload_n 1, 1) := by decide +kernel
theorem dX4_readText_45 : decode cX4_readText 45 = .ok (.aload_n 0, 1) := by decide +kernel
theorem dX4_readText_46 : decode cX4_readText 46 = .ok (.getfield 15, 3) := by decide +kernel
theorem dX4_readText_49 : decode cX4_readText 49 = .ok (.iload 5, 2) := by decide +kernel
theorem dX4_readText_51 : decode cX4_readText 51 = .ok (.invokevirtual 24, 3) := by decide +kernel
theorem dX4_readText_54 : decode cX4_readText 54 = .ok (.invokevirtual 54, 3) := by decide +kernel
theorem dX4_readText_57 : decode cX4_readText 57 = .ok (.iinc 5 1, 3) := by decide +kernel
theorem dX4_readText_60 : decode cX4_readText 60 = .ok (.goto (-23), 3) := by decide +kernel
theorem dX4_readText_63 : decode cX4_readText 63 = .ok (.aload_n 1, 1) := by decide +kernel
theorem dX4_readText_64 : decode cX4_readText 64 = .ok (.iload 4, 2) := by decide +kernel
theorem dX4_readText_66 : decode cX4_readText 66 = .ok (.putfield 58, 3) := by decide +kernel
theorem dX4_readText_69 : decode cX4_readText 69 = .ok (.aload_n 1, 1) := by decide +kernel
theorem dX4_readText_70 : decode cX4_readText 70 = .ok (.iload_n 2, 1) := by decide +kernel
theorem dX4_readText_71 : decode cX4_readText 71 = .ok (.bipush 100, 2) := by decide +kernel
theorem dX4_readText_73 : decode cX4_readText 73 = .ok (.invokevirtual 61, 3) := by decide +kernel
theorem dX4_readText_76 : decode cX4_readText 76 = .ok (.ireturn, 1) := by decide +kernel
theorem dX4_readInteger_0 : decode cX4_readInteger 0 = .ok (.aload_n 1, 1) := by decide +kernel
theorem dX4_readInteger_1 : decode cX4_readInteger 1 = .ok (.iconst 0, 1) := by decide +kernel
theorem dX4_readInteger_2 : decode cX4_readInteger 2 = .ok (.invokestatic 65, 3) := by decide +kernel
theorem dX4_readInteger_5 : decode cX4_readInteger 5 = .ok (.istore_n 2, 1) := by decide +kernel
theorem dX4_readInteger_6 : decode cX4_readInteger 6 = .ok (.iload_n 2, 1) := by decide +kernel
theorem dX4_readInteger_7 : decode cX4_readInteger 7 = .ok (.aload_n 1, 1) := by decide +kernel
theorem dX4_readInteger_8 : decode cX4_readInteger 8 = .ok (.getfield 69, 3) := by decide +kernel
theorem dX4_readInteger_11 : decode cX4_readInteger 11 = .ok (.if_icmp .eq 17, 3) := by decide +kernel
theorem dX4_readInteger_14 : decode cX4_readInteger 14 = .ok (.aload_n 1, 1) := by decide +kernel
theorem dX4_readInteger_15 : decode cX4_readInteger 15 = .ok (.iload_n 2, 1) := by decide +kernel
theorem dX4_readInteger_16 : decode cX4_readInteger 16 = .ok (.bipush 10, 2) := by decide +kernel
theorem dX4_readInteger_18 : decode cX4_readInteger 18 = .ok (.invokestatic 72, 3) := by decide +kernel
theorem dX4_readInteger_21 : decode cX4_readInteger 21 = .ok (.aload_n 1, 1) := by decide +kernel
theorem dX4_readInteger_22 : decode cX4_readInteger 22 = .ok (.getfield 69, 3) := by decide +kernel
theorem dX4_readInteger_25 : decode cX4_readInteger 25 = .ok (.if_icmp .eq 5, 3) := by decide +kernel
theorem dX4_readInteger_28 : decode cX4_readInteger 28 = .ok (.iconst 3, 1) := by decide +kernel
theorem dX4_readInteger_29 : decode cX4_readInteger 29 = .ok (.ireturn, 1) := by decide +kernel
theorem dX4_readInteger_30 : decode cX4_readInteger 30 = .ok (.aload_n 1, 1) := by decide +kernel
theorem dX4_readInteger_31 : decode cX4_readInteger 31 = .ok (.iload_n 2, 1) := by decide +kernel
theorem dX4_readInteger_32 : decode cX4_readInteger 32 = .ok (.aload_n 1, 1) := by decide +kernel
theorem dX4_readInteger_33 : decode cX4_readInteger 33 = .ok (.getfield 69, 3) := by decide +kernel
theorem dX4_readInteger_36 : decode cX4_readInteger 36 = .ok (.bipush 10, 2) := by decide +kernel
theorem dX4_readInteger_38 : decode cX4_readInteger 38 = .ok (.invokestatic 75, 3) := by decide +kernel
theorem dX4_readInteger_41 : decode cX4_readInteger 41 = .ok (.lstore_n 3, 1) := by decide +kernel
theorem dX4_readInteger_42 : decode cX4_readInteger 42 = .ok (.aload_n 1, 1) := by decide +kernel
theorem dX4_readInteger_43 : decode cX4_readInteger 43 = .ok (.iconst 0, 1) := by decide +kernel
theorem dX4_readInteger_44 : decode cX4_readInteger 44 = .ok (.invokevirtual 79, 3) := by decide +kernel
theorem dX4_readInteger_47 : decode cX4_readInteger 47 = .ok (.bipush 45, 2) := by decide +kernel
theorem dX4_readInteger_49 : decode cX4_readInteger 49 = .ok (.if_icmp .ne 8, 3) := by decide +kernel
theorem dX4_readInteger_52 : decode cX4_readInteger 52 = .ok (.lload_n 3, 1) := by decide +kernel
theorem dX4_readInteger_53 : decode cX4_readInteger 53 = .ok (.lneg, 1) := by decide +kernel
theorem dX4_readInteger_54 : decode cX4_readInteger 54 = .ok (.goto 4, 3) := by decide +kernel
theorem dX4_readInteger_57 : decode cX4_readInteger 57 = .ok (.lload_n 3, 1) := by decide +kernel
theorem dX4_readInteger_58 : decode cX4_readInteger 58 = .ok (.lstore 5, 2) := by decide +kernel
theorem dX4_readInteger_60 : decode cX4_readInteger 60 = .ok (.lload 5, 2) := by decide +kernel
theorem dX4_readInteger_62 : decode cX4_readInteger 62 = .ok (.ldc2_w 82, 3) := by decide +kernel
theorem dX4_readInteger_65 : decode cX4_readInteger 65 = .ok (.lcmp, 1) := by decide +kernel
theorem dX4_readInteger_66 : decode cX4_readInteger 66 = .ok (.ifCond .lt 12, 3) := by decide +kernel
theorem dX4_readInteger_69 : decode cX4_readInteger 69 = .ok (.lload 5, 2) := by decide +kernel
theorem dX4_readInteger_71 : decode cX4_readInteger 71 = .ok (.ldc2_w 84, 3) := by decide +kernel
theorem dX4_readInteger_74 : decode cX4_readInteger 74 = .ok (.lcmp, 1) := by decide +kernel
theorem dX4_readInteger_75 : decode cX4_readInteger 75 = .ok (.ifCond .le 5, 3) := by decide +kernel
theorem dX4_readInteger_78 : decode cX4_readInteger 78 = .ok (.iconst 3, 1) := by decide +kernel
theorem dX4_readInteger_79 : decode cX4_readInteger 79 = .ok (.ireturn, 1) := by decide +kernel
theorem dX4_readInteger_80 : decode cX4_readInteger 80 = .ok (.aload_n 0, 1) := by decide +kernel
theorem dX4_readInteger_81 : decode cX4_readInteger 81 = .ok (.bipush 10, 2) := by decide +kernel
theorem dX4_readInteger_83 : decode cX4_readInteger 83 = .ok (.putfield 9, 3) := by decide +kernel
theorem dX4_readInteger_86 : decode cX4_readInteger 86 = .ok (.aload_n 1, 1) := by decide +kernel
theorem dX4_readInteger_87 : decode cX4_readInteger 87 = .ok (.iconst 1, 1) := by decide +kernel
theorem dX4_readInteger_88 : decode cX4_readInteger 88 = .ok (.lload 5, 2) := by decide +kernel
theorem dX4_readInteger_90 : decode cX4_readInteger 90 = .ok (.invokevirtual 86, 3) := by decide +kernel
theorem dX4_readInteger_93 : decode cX4_readInteger 93 = .ok (.ireturn, 1) := by decide +kernel
theorem dX4_readWithBase_0 : decode cX4_readWithBase 0 = .ok (.aload_n 1, 1) := by decide +kernel
theorem dX4_readWithBase_1 : decode cX4_readWithBase 1 = .ok (.iconst 0, 1) := by decide +kernel
theorem dX4_readWithBase_2 : decode cX4_readWithBase 2 = .ok (.bipush 10, 2) := by decide +kernel
theorem dX4_readWithBase_4 : decode cX4_readWithBase 4 = .ok (.invokestatic 72, 3) := by decide +kernel
theorem dX4_readWithBase_7 : decode cX4_readWithBase 7 = .ok (.istore_n 2, 1) := by decide +kernel
theorem dX4_readWithBase_8 : decode cX4_readWithBase 8 = .ok (.iload_n 2, 1) := by decide +kernel
theorem dX4_readWithBase_9 : decode cX4_readWithBase 9 = .ok (.iconst 1, 1) := by decide +kernel
theorem dX4_readWithBase_10 : decode cX4_readWithBase 10 = .ok (.if_icmp .lt 18, 3) := by decide +kernel
theorem dX4_readWithBase_13 : decode cX4_readWithBase 13 = .ok (.iload_n 2, 1) := by decide +kernel
theorem dX4_readWithBase_14 : decode cX4_readWithBase 14 = .ok (.iconst 2, 1) := by decide +kernel
theorem dX4_readWithBase_15 : decode cX4_readWithBase 15 = .ok (.if_icmp .gt 13, 3) := by decide +kernel
theorem dX4_readWithBase_18 : decode cX4_readWithBase 18 = .ok (.aload_n 1, 1) := by decide +kernel
theorem dX4_readWithBase_19 : decode cX4_readWithBase 19 = .ok (.iload_n 2, 1) := by decide +kernel
theorem dX4_readWithBase_20 : decode cX4_readWithBase 20 = .ok (.invokevirtual 79, 3) := by decide +kernel
theorem dX4_readWithBase_23 : decode cX4_readWithBase 23 = .ok (.bipush 35, 2) := by decide +kernel
theorem dX4_readWithBase_25 : decode cX4_readWithBase 25 = .ok (.if_icmp .eq 5, 3) := by decide +kernel
theorem dX4_readWithBase_28 : decode cX4_readWithBase 28 = .ok (.iconst 3, 1) := by decide +kernel
theorem dX4_readWithBase_29 : decode cX4_readWithBase 29 = .ok (.ireturn, 1) := by decide +kernel
theorem dX4_readWithBase_30 : decode cX4_readWithBase 30 = .ok (.iload_n 2, 1) := by decide +kernel
theorem dX4_readWithBase_31 : decode cX4_readWithBase 31 = .ok (.iconst 1, 1) := by decide +kernel
theorem dX4_readWithBase_32 : decode cX4_readWithBase 32 = .ok (.iadd, 1) := by decide +kernel
theorem dX4_readWithBase_33 : decode cX4_readWithBase 33 = .ok (.istore_n 3, 1) := by decide +kernel
theorem dX4_readWithBase_34 : decode cX4_readWithBase 34 = .ok (.aload_n 1, 1) := by decide +kernel
theorem dX4_readWithBase_35 : decode cX4_readWithBase 35 = .ok (.iconst 0, 1) := by decide +kernel
theorem dX4_readWithBase_36 : decode cX4_readWithBase 36 = .ok (.iload_n 2, 1) := by decide +kernel
theorem dX4_readWithBase_37 : decode cX4_readWithBase 37 = .ok (.bipush 10, 2) := by decide +kernel
theorem dX4_readWithBase_39 : decode cX4_readWithBase 39 = .ok (.invokestatic 75, 3) := by decide +kernel
theorem dX4_readWithBase_42 : decode cX4_readWithBase 42 = .ok (.l2i, 1) := by decide +kernel
theorem dX4_readWithBase_43 : decode cX4_readWithBase 43 = .ok (.istore 4, 2) := by decide +kernel
theorem dX4_readWithBase_45 : decode cX4_readWithBase 45 = .ok (.iload 4, 2) := by decide +kernel
theorem dX4_readWithBase_47 : decode cX4_readWithBase 47 = .ok (.iconst 2, 1) := by decide +kernel
theorem dX4_readWithBase_48 : decode cX4_readWithBase 48 = .ok (.if_icmp .lt 32, 3) := by decide +kernel
theorem dX4_readWithBase_51 : decode cX4_readWithBase 51 = .ok (.iload 4, 2) := by decide +kernel
theorem dX4_readWithBase_53 : decode cX4_readWithBase 53 = .ok (.bipush 36, 2) := by decide +kernel
theorem dX4_readWithBase_55 : decode cX4_readWithBase 55 = .ok (.if_icmp .gt 25, 3) := by decide +kernel
theorem dX4_readWithBase_58 : decode cX4_readWithBase 58 = .ok (.iload_n 3, 1) := by decide +kernel
theorem dX4_readWithBase_59 : decode cX4_readWithBase 59 = .ok (.aload_n 1, 1) := by decide +kernel
theorem dX4_readWithBase_60 : decode cX4_readWithBase 60 = .ok (.getfield 69, 3) := by decide +kernel
theorem dX4_readWithBase_63 : decode cX4_readWithBase 63 = .ok (.if_icmp .eq 17, 3) := by decide +kernel
theorem dX4_readWithBase_66 : decode cX4_readWithBase 66 = .ok (.aload_n 1, 1) := by decide +kernel
theorem dX4_readWithBase_67 : decode cX4_readWithBase 67 = .ok (.iload_n 3, 1) := by decide +kernel
theorem dX4_readWithBase_68 : decode cX4_readWithBase 68 = .ok (.iload 4, 2) := by decide +kernel
theorem dX4_readWithBase_70 : decode cX4_readWithBase 70 = .ok (.invokestatic 72, 3) := by decide +kernel
theorem dX4_readWithBase_73 : decode cX4_readWithBase 73 = .ok (.aload_n 1, 1) := by decide +kernel
theorem dX4_readWithBase_74 : decode cX4_readWithBase 74 = .ok (.getfield 69, 3) := by decide +kernel
theorem dX4_readWithBase_77 : decode cX4_readWithBase 77 = .ok (.if_icmp .eq 5, 3) := by decide +kernel
theorem dX4_readWithBase_80 : decode cX4_readWithBase 80 = .ok (.iconst 3, 1) := by decide +kernel
theorem dX4_readWithBase_81 : decode cX4_readWithBase 81 = .ok (.ireturn, 1) := by decide +kernel
theorem dX4_readWithBase_82 : decode cX4_readWithBase 82 = .ok (.aload_n 1, 1) := by decide +kernel
theorem dX4_readWithBase_83 : decode cX4_readWithBase 83 = .ok (.iload_n 3, 1) := by decide +kernel
theorem dX4_readWithBase_84 : decode cX4_readWithBase 84 = .ok (.aload_n 1, 1) := by decide +kernel
theorem dX4_readWithBase_85 : decode cX4_readWithBase 85 = .ok (.getfield 69, 3) := by decide +kernel
theorem dX4_readWithBase_88 : decode cX4_readWithBase 88 = .ok (.iload 4, 2) := by decide +kernel
theorem dX4_readWithBase_90 : decode cX4_readWithBase 90 = .ok (.invokestatic 75, 3) := by decide +kernel
theorem dX4_readWithBase_93 : decode cX4_readWithBase 93 = .ok (.lstore 5, 2) := by decide +kernel
theorem dX4_readWithBase_95 : decode cX4_readWithBase 95 = .ok (.lload 5, 2) := by decide +kernel
theorem dX4_readWithBase_97 : decode cX4_readWithBase 97 = .ok (.ldc2_w 90, 3) := by decide +kernel
theorem dX4_readWithBase_100 : decode cX4_readWithBase 100 = .ok (.lcmp, 1) := by decide +kernel
theorem dX4_readWithBase_101 : decode cX4_readWithBase 101 = .ok (.ifCond .lt 6, 3) := by decide +kernel
theorem dX4_readWithBase_104 : decode cX4_readWithBase 104 = .ok (.bipush (-6), 2) := by decide +kernel
theorem dX4_readWithBase_106 : decode cX4_readWithBase 106 = .ok (.ireturn, 1) := by decide +kernel
theorem dX4_readWithBase_107 : decode cX4_readWithBase 107 = .ok (.aload_n 0, 1) := by decide +kernel
theorem dX4_readWithBase_108 : decode cX4_readWithBase 108 = .ok (.iload 4, 2) := by decide +kernel
theorem dX4_readWithBase_110 : decode cX4_readWithBase 110 = .ok (.putfield 9, 3) := by decide +kernel
theorem dX4_readWithBase_113 : decode cX4_readWithBase 113 = .ok (.aload_n 1, 1) := by decide +kernel
theorem dX4_readWithBase_114 : decode cX4_readWithBase 114 = .ok (.iconst 1, 1) := by decide +kernel
theorem dX4_readWithBase_115 : decode cX4_readWithBase 115 = .ok (.lload 5, 2) := by decide +kernel
theorem dX4_readWithBase_117 : decode cX4_readWithBase 117 = .ok (.ldc2_w 84, 3) := by decide +kernel
theorem dX4_readWithBase_120 : decode cX4_readWithBase 120 = .ok (.lcmp, 1) := by decide +kernel
theorem dX4_readWithBase_121 : decode cX4_readWithBase 121 = .ok (.ifCond .le 12, 3) := by decide +kernel
theorem dX4_readWithBase_124 : decode cX4_readWithBase 124 = .ok (.lload 5, 2) := by decide +kernel
theorem dX4_readWithBase_126 : decode cX4_readWithBase 126 = .ok (.ldc2_w 90, 3) := by decide +kernel
theorem dX4_readWithBase_129 : decode cX4_readWithBase 129 = .ok (.lsub, 1) := by decide +kernel
theorem dX4_readWithBase_130 : decode cX4_readWithBase 130 = .ok (.goto 5, 3) := by decide +kernel
theorem dX4_readWithBase_133 : decode cX4_readWithBase 133 = .ok (.lload 5, 2) := by decide +kernel
theorem dX4_readWithBase_135 : decode cX4_readWithBase 135 = .ok (.invokevirtual 86, 3) := by decide +kernel
theorem dX4_readWithBase_138 : decode cX4_readWithBase 138 = .ok (.ireturn, 1) := by decide +kernel
theorem dX4_readReal_0 : decode cX4_readReal 0 = .ok (.aload_n 1, 1) := by decide +kernel
theorem dX4_readReal_1 : decode cX4_readReal 1 = .ok (.iconst 0, 1) := by decide +kernel
theorem dX4_readReal_2 : decode cX4_readReal 2 = .ok (.invokestatic 65, 3) := by decide +kernel
theorem dX4_readReal_5 : decode cX4_readReal 5 = .ok (.istore_n 2, 1) := by decide +kernel
theorem dX4_readReal_6 : decode cX4_readReal 6 = .ok (.aload_n 1, 1) := by decide +kernel
theorem dX4_readReal_7 : decode cX4_readReal 7 = .ok (.iload_n 2, 1) := by decide +kernel
theorem dX4_readReal_8 : decode cX4_readReal 8 = .ok (.bipush 10, 2) := by decide +kernel
theorem dX4_readReal_10 : decode cX4_readReal 10 = .ok (.invokestatic 72, 3) := by decide +kernel
theorem dX4_readReal_13 : decode cX4_readReal 13 = .ok (.istore_n 3, 1) := by decide +kernel
theorem dX4_readReal_14 : decode cX4_readReal 14 = .ok (.aload_n 1, 1) := by decide +kernel
theorem dX4_readReal_15 : decode cX4_readReal 15 = .ok (.iload_n 3, 1) := by decide +kernel
theorem dX4_readReal_16 : decode cX4_readReal 16 = .ok (.invokevirtual 79, 3) := by decide +kernel
theorem dX4_readReal_19 : decode cX4_readReal 19 = .ok (.bipush 46, 2) := by decide +kernel
theorem dX4_readReal_21 : decode cX4_readReal 21 = .ok (.if_icmp .ne 7, 3) := by decide +kernel
theorem dX4_readReal_24 : decode cX4_readReal 24 = .ok (.iconst 1, 1) := by decide +kernel
theorem dX4_readReal_25 : decode cX4_readReal 25 = .ok (.goto 4, 3) := by decide +kernel
theorem dX4_readReal_28 : decode cX4_readReal 28 = .ok (.iconst 0, 1) := by decide +kernel
theorem dX4_readReal_29 : decode cX4_readReal 29 = .ok (.istore 4, 2) := by decide +kernel
theorem dX4_readReal_31 : decode cX4_readReal 31 = .ok (.iload 4, 2) := by decide +kernel
theorem dX4_readReal_33 : decode cX4_readReal 33 = .ok (.ifCond .eq 15, 3) := by decide +kernel
theorem dX4_readReal_36 : decode cX4_readReal 36 = .ok (.aload_n 1, 1) := by decide +kernel
theorem dX4_readReal_37 : decode cX4_readReal 37 = .ok (.iload_n 3, 1) := by decide +kernel
theorem dX4_readReal_38 : decode cX4_readReal 38 = .ok (.iconst 1, 1) := by decide +kernel
theorem dX4_readReal_39 : decode cX4_readReal 39 = .ok (.iadd, 1) := by decide +kernel
theorem dX4_readReal_40 : decode cX4_readReal 40 = .ok (.bipush 10, 2) := by decide +kernel
theorem dX4_readReal_42 : decode cX4_readReal 42 = .ok (.invokestatic 72, 3) := by decide +kernel
theorem dX4_readReal_45 : decode cX4_readReal 45 = .ok (.goto 4, 3) := by decide +kernel
theorem dX4_readReal_48 : decode cX4_readReal 48 = .ok (.iload_n 3, 1) := by decide +kernel
theorem dX4_readReal_49 : decode cX4_readReal 49 = .ok (.istore 5, 2) := by decide +kernel
theorem dX4_readReal_51 : decode cX4_readReal 51 = .ok (.iload 4, 2) := by decide +kernel
theorem dX4_readReal_53 : decode cX4_readReal 53 = .ok (.ifCond .eq 12, 3) := by decide +kernel
theorem dX4_readReal_56 : decode cX4_readReal 56 = .ok (.iload 5, 2) := by decide +kernel
theorem dX4_readReal_58 : decode cX4_readReal 58 = .ok (.iload_n 3, 1) := by decide +kernel
theorem dX4_readReal_59 : decode cX4_readReal 59 = .ok (.isub, 1) := by decide +kernel
theorem dX4_readReal_60 : decode cX4_readReal 60 = .ok (.iconst 1, 1) := by decide +kernel
theorem dX4_readReal_61 : decode cX4_readReal 61 = .ok (.isub, 1) := by decide +kernel
theorem dX4_readReal_62 : decode cX4_readReal 62 = .ok (.goto 4, 3) := by decide +kernel
theorem dX4_readReal_65 : decode cX4_readReal 65 = .ok (.iconst 0, 1) := by decide +kernel
theorem dX4_readReal_66 : decode cX4_readReal 66 = .ok (.istore 6, 2) := by decide +kernel
theorem dX4_readReal_68 : decode cX4_readReal 68 = .ok (.iload_n 3, 1) := by decide +kernel
theorem dX4_readReal_69 : decode cX4_readReal 69 = .ok (.iload_n 2, 1) := by decide +kernel
theorem dX4_readReal_70 : decode cX4_readReal 70 = .ok (.isub, 1) := by decide +kernel
theorem dX4_readReal_71 : decode cX4_readReal 71 = .ok (.iload 6, 2) := by decide +kernel
theorem dX4_readReal_73 : decode cX4_readReal 73 = .ok (.iadd, 1) := by decide +kernel
theorem dX4_readReal_74 : decode cX4_readReal 74 = .ok (.ifCond .le 7, 3) := by decide +kernel
theorem dX4_readReal_77 : decode cX4_readReal 77 = .ok (.iconst 1, 1) := by decide +kernel
theorem dX4_readReal_78 : decode cX4_readReal 78 = .ok (.goto 4, 3) := by decide +kernel
theorem dX4_readReal_81 : decode cX4_readReal 81 = .ok (.iconst 0, 1) := by decide +kernel
theorem dX4_readReal_82 : decode cX4_readReal 82 = .ok (.istore 7, 2) := by decide +kernel
theorem dX4_readReal_84 : decode cX4_readReal 84 = .ok (.iload 7, 2) := by decide +kernel
theorem dX4_readReal_86 : decode cX4_readReal 86 = .ok (.ifCond .eq 21, 3) := by decide +kernel
theorem dX4_readReal_89 : decode cX4_readReal 89 = .ok (.iload 5, 2) := by decide +kernel
theorem dX4_readReal_91 : decode cX4_readReal 91 = .ok (.aload_n 1, 1) := by decide +kernel
theorem dX4_readReal_92 : decode cX4_readReal 92 = .ok (.getfield 69, 3) := by decide +kernel
theorem dX4_readReal_95 : decode cX4_readReal 95 = .ok (.if_icmp .ge 14, 3) := by decide +kernel
theorem dX4_readReal_98 : decode cX4_readReal 98 = .ok (.aload_n 1, 1) := by decide +kernel
theorem dX4_readReal_99 : decode cX4_readReal 99 = .ok (.iload 5, 2) := by decide +kernel
theorem dX4_readReal_101 : decode cX4_readReal 101 = .ok (.invokestatic 92, 3) := by decide +kernel
theorem dX4_readReal_104 : decode cX4_readReal 104 = .ok (.ifCond .ne 5, 3) := by decide +kernel
theorem dX4_readReal_107 : decode cX4_readReal 107 = .ok (.iconst 3, 1) := by decide +kernel
theorem dX4_readReal_108 : decode cX4_readReal 108 = .ok (.ireturn, 1) := by decide +kernel
theorem dX4_readReal_109 : decode cX4_readReal 109 = .ok (.iload 5, 2) := by decide +kernel
theorem dX4_readReal_111 : decode cX4_readReal 111 = .ok (.aload_n 1, 1) := by decide +kernel
theorem dX4_readReal_112 : decode cX4_readReal 112 = .ok (.getfield 69, 3) := by decide +kernel
theorem dX4_readReal_115 : decode cX4_readReal 115 = .ok (.if_icmp .ge 12, 3) := by decide +kernel
theorem dX4_readReal_118 : decode cX4_readReal 118 = .ok (.aload_n 1, 1) := by decide +kernel
theorem dX4_readReal_119 : decode cX4_readReal 119 = .ok (.iload 5, 2) := by decide +kernel
theorem dX4_readReal_121 : decode cX4_readReal 121 = .ok (.invokestatic 96, 3) := by decide +kernel
theorem dX4_readReal_124 : decode cX4_readReal 124 = .ok (.goto 4, 3) := by decide +kernel
theorem dX4_readReal_127 : decode cX4_readReal 127 = .ok (.iconst 0, 1) := by decide +kernel
theorem dX4_readReal_128 : decode cX4_readReal 128 = .ok (.istore 8, 2) := by decide +kernel
theorem dX4_readReal_130 : decode cX4_readReal 130 = .ok (.aload_n 1, 1) := by decide +kernel
theorem dX4_readReal_131 : decode cX4_readReal 131 = .ok (.iload_n 2, 1) := by decide +kernel
theorem dX4_readReal_132 : decode cX4_readReal 132 = .ok (.iload 5, 2) := by decide +kernel
theorem dX4_readReal_134 : decode cX4_readReal 134 = .ok (.invokestatic 99, 3) := by decide +kernel
theorem dX4_readReal_137 : decode cX4_readReal 137 = .ok (.ldc2_w 103, 3) := by decide +kernel
theorem dX4_readReal_140 : decode cX4_readReal 140 = .ok (.iload 8, 2) := by decide +kernel
theorem dX4_readReal_142 : decode cX4_readReal 142 = .ok (.iload 6, 2) := by decide +kernel
theorem dX4_readReal_144 : decode cX4_readReal 144 = .ok (.isub, 1) := by decide +kernel
theorem dX4_readReal_145 : decode cX4_readReal 145 = .ok (.invokestatic 105, 3) := by decide +kernel
theorem dX4_readReal_148 : decode cX4_readReal 148 = .ok (.dstore 9, 2) := by decide +kernel
theorem dX4_readReal_150 : decode cX4_readReal 150 = .ok (.dload 9, 2) := by decide +kernel
theorem dX4_readReal_152 : decode cX4_readReal 152 = .ok (.ldc2_w 109, 3) := by decide +kernel
theorem dX4_readReal_155 : decode cX4_readReal 155 = .ok (.dcmp .l, 1) := by decide +kernel
theorem dX4_readReal_156 : decode cX4_readReal 156 = .ok (.ifCond .le 6, 3) := by decide +kernel
theorem dX4_readReal_159 : decode cX4_readReal 159 = .ok (.bipush (-6), 2) := by decide +kernel
theorem dX4_readReal_161 : decode cX4_readReal 161 = .ok (.ireturn, 1) := by decide +kernel
theorem dX4_readReal_162 : decode cX4_readReal 162 = .ok (.aload_n 1, 1) := by decide +kernel
theorem dX4_readReal_163 : decode cX4_readReal 163 = .ok (.aload_n 1, 1) := by decide +kernel
theorem dX4_readReal_164 : decode cX4_readReal 164 = .ok (.iconst 0, 1) := by decide +kernel
theorem dX4_readReal_165 : decode cX4_readReal 165 = .ok (.invokevirtual 79, 3) := by decide +kernel
theorem dX4_readReal_168 : decode cX4_readReal 168 = .ok (.bipush 45, 2) := by decide +kernel
theorem dX4_readReal_170 : decode cX4_readReal 170 = .ok (.if_icmp .ne 10, 3) := by decide +kernel
theorem dX4_readReal_173 : decode cX4_readReal 173 = .ok (.dconst 0, 1) := by decide +kernel
theorem dX4_readReal_174 : decode cX4_readReal 174 = .ok (.dload 9, 2) := by decide +kernel
theorem dX4_readReal_176 : decode cX4_readReal 176 = .ok (.dsub, 1) := by decide +kernel
theorem dX4_readReal_177 : decode cX4_readReal 177 = .ok (.goto 5, 3) := by decide +kernel
theorem dX4_readReal_180 : decode cX4_readReal 180 = .ok (.dload 9, 2) := by decide +kernel
theorem dX4_readReal_182 : decode cX4_readReal 182 = .ok (.invokevirtual 111, 3) := by decide +kernel
theorem dX4_readReal_185 : decode cX4_readReal 185 = .ok (.ireturn, 1) := by decide +kernel
theorem dX4_isExponent_0 : decode cX4_isExponent 0 = .ok (.aload_n 0, 1) := by decide +kernel
theorem dX4_isExponent_1 : decode cX4_isExponent 1 = .ok (.iload_n 1, 1) := by decide +kernel
theorem dX4_isExponent_2 : decode cX4_isExponent 2 = .ok (.invokevirtual 79, 3) := by decide +kernel
theorem dX4_isExponent_5 : decode cX4_isExponent 5 = .ok (.istore_n 2, 1) := by decide +kernel
theorem dX4_isExponent_6 : decode cX4_isExponent 6 = .ok (.aload_n 0, 1) := by decide +kernel
theorem dX4_isExponent_7 : decode cX4_isExponent 7 = .ok (.iload_n 1, 1) := by decide +kernel
theorem dX4_isExponent_8 : decode cX4_isExponent 8 = .ok (.iconst 1, 1) := by decide +kernel
theorem dX4_isExponent_9 : decode cX4_isExponent 9 = .ok (.iadd, 1) := by decide +kernel
theorem dX4_isExponent_10 : decode cX4_isExponent 10 = .ok (.invokestatic 65, 3) := by decide +kernel
theorem dX4_isExponent_13 : decode cX4_isExponent 13 = .ok (.istore_n 3, 1) := by decide +kernel
theorem dX4_isExponent_14 : decode cX4_isExponent 14 = .ok (.aload_n 0, 1) := by decide +kernel
theorem dX4_isExponent_15 : decode cX4_isExponent 15 = .ok (.getfield 69, 3) := by decide +kernel
theorem dX4_isExponent_18 : decode cX4_isExponent 18 = .ok (.iload_n 3, 1) := by decide +kernel
theorem dX4_isExponent_19 : decode cX4_isExponent 19 = .ok (.isub, 1) := by decide +kernel
theorem dX4_isExponent_20 : decode cX4_isExponent 20 = .ok (.istore 4, 2) := by decide +kernel
theorem dX4_isExponent_22 : decode cX4_isExponent 22 = .ok (.iload_n 2, 1) := by decide +kernel
theorem dX4_isExponent_23 : decode cX4_isExponent 23 = .ok (.bipush 101, 2) := by decide +kernel
theorem dX4_isExponent_25 : decode cX4_isExponent 25 = .ok (.if_icmp .eq 9, 3) := by decide +kernel
theorem dX4_isExponent_28 : decode cX4_isExponent 28 = .ok (.iload_n 2, 1) := by decide +kernel
theorem dX4_isExponent_29 : decode cX4_isExponent 29 = .ok (.bipush 69, 2) := by decide +kernel
theorem dX4_isExponent_31 : decode cX4_isExponent 31 = .ok (.if_icmp .ne 33, 3) := by decide +kernel
theorem dX4_isExponent_34 : decode cX4_isExponent 34 = .ok (.iload 4, 2) := by decide +kernel
theorem dX4_isExponent_36 : decode cX4_isExponent 36 = .ok (.iconst 1, 1) := by decide +kernel
theorem dX4_isExponent_37 : decode cX4_isExponent 37 = .ok (.if_icmp .lt 27, 3) := by decide +kernel
theorem dX4_isExponent_40 : decode cX4_isExponent 40 = .ok (.iload 4, 2) := by decide +kernel
theorem dX4_isExponent_42 : decode cX4_isExponent 42 = .ok (.iconst 3, 1) := by decide +kernel
theorem dX4_isExponent_43 : decode cX4_isExponent 43 = .ok (.if_icmp .gt 21, 3) := by decide +kernel
theorem dX4_isExponent_46 : decode cX4_isExponent 46 = .ok (.aload_n 0, 1) := by decide +kernel
theorem dX4_isExponent_47 : decode cX4_isExponent 47 = .ok (.iload_n 3, 1) := by decide +kernel
theorem dX4_isExponent_48 : decode cX4_isExponent 48 = .ok (.bipush 10, 2) := by decide +kernel
theorem dX4_isExponent_50 : decode cX4_isExponent 50 = .ok (.invokestatic 72, 3) := by decide +kernel
theorem dX4_isExponent_53 : decode cX4_isExponent 53 = .ok (.aload_n 0, 1) := by decide +kernel
theorem dX4_isExponent_54 : decode cX4_isExponent 54 = .ok (.getfield 69, 3) := by decide +kernel
theorem dX4_isExponent_57 : decode cX4_isExponent 57 = .ok (.if_icmp .ne 7, 3) := by decide +kernel
theorem dX4_isExponent_60 : decode cX4_isExponent 60 = .ok (.iconst 1, 1) := by decide +kernel
theorem dX4_isExponent_61 : decode cX4_isExponent 61 = .ok (.goto 4, 3) := by decide +kernel
theorem dX4_isExponent_64 : decode cX4_isExponent 64 = .ok (.iconst 0, 1) := by decide +kernel
theorem dX4_isExponent_65 : decode cX4_isExponent 65 = .ok (.ireturn, 1) := by decide +kernel
theorem dX4_exponentAt_0 : decode cX4_exponentAt 0 = .ok (.aload_n 0, 1) := by decide +kernel
theorem dX4_exponentAt_1 : decode cX4_exponentAt 1 = .ok (.aload_n 0, 1) := by decide +kernel
theorem dX4_exponentAt_2 : decode cX4_exponentAt 2 = .ok (.iload_n 1, 1) := by decide +kernel
theorem dX4_exponentAt_3 : decode cX4_exponentAt 3 = .ok (.iconst 1, 1) := by decide +kernel
theorem dX4_exponentAt_4 : decode cX4_exponentAt 4 = .ok (.iadd, 1) := by decide +kernel
theorem dX4_exponentAt_5 : decode cX4_exponentAt 5 = .ok (.invokestatic 65, 3) := by decide +kernel
theorem dX4_exponentAt_8 : decode cX4_exponentAt 8 = .ok (.aload_n 0, 1) := by decide +kernel
theorem dX4_exponentAt_9 : decode cX4_exponentAt 9 = .ok (.getfield 69, 3) := by decide +kernel
theorem dX4_exponentAt_12 : decode cX4_exponentAt 12 = .ok (.bipush 10, 2) := by decide +kernel
theorem dX4_exponentAt_14 : decode cX4_exponentAt 14 = .ok (.invokestatic 75, 3) := by decide +kernel
theorem dX4_exponentAt_17 : decode cX4_exponentAt 17 = .ok (.l2i, 1) := by decide +kernel
theorem dX4_exponentAt_18 : decode cX4_exponentAt 18 = .ok (.istore_n 2, 1) := by decide +kernel
theorem dX4_exponentAt_19 : decode cX4_exponentAt 19 = .ok (.aload_n 0, 1) := by decide +kernel
theorem dX4_exponentAt_20 : decode cX4_exponentAt 20 = .ok (.iload_n 1, 1) := by decide +kernel
theorem dX4_exponentAt_21 : decode cX4_exponentAt 21 = .ok (.iconst 1, 1) := by decide +kernel
theorem dX4_exponentAt_22 : decode cX4_exponentAt 22 = .ok (.iadd, 1) := by decide +kernel
theorem dX4_exponentAt_23 : decode cX4_exponentAt 23 = .ok (.invokevirtual 79, 3) := by decide +kernel
theorem dX4_exponentAt_26 : decode cX4_exponentAt 26 = .ok (.bipush 45, 2) := by decide +kernel
theorem dX4_exponentAt_28 : decode cX4_exponentAt 28 = .ok (.if_icmp .ne 8, 3) := by decide +kernel
theorem dX4_exponentAt_31 : decode cX4_exponentAt 31 = .ok (.iload_n 2, 1) := by decide +kernel
theorem dX4_exponentAt_32 : decode cX4_exponentAt 32 = .ok (.ineg, 1) := by decide +kernel
theorem dX4_exponentAt_33 : decode cX4_exponentAt 33 = .ok (.goto 4, 3) := by decide +kernel
theorem dX4_exponentAt_36 : decode cX4_exponentAt 36 = .ok (.iload_n 2, 1) := by decide +kernel
theorem dX4_exponentAt_37 : decode cX4_exponentAt 37 = .ok (.ireturn, 1) := by decide +kernel
theorem dX4_digitsAsReal_0 : decode cX4_digitsAsReal 0 = .ok (.dconst 0, 1) := by decide +kernel
theorem dX4_digitsAsReal_1 : decode cX4_digitsAsReal 1 = .ok (.dstore_n 3, 1) := by decide +kernel
theorem dX4_digitsAsReal_2 : decode cX4_digitsAsReal 2 = .ok (.iload_n 1, 1) := by decide +kernel
theorem dX4_digitsAsReal_3 : decode cX4_digitsAsReal 3 = .ok (.istore 5, 2) := by decide +kernel
theorem dX4_digitsAsReal_5 : decode cX4_digitsAsReal 5 = .ok (.iload 5, 2) := by decide +kernel
theorem dX4_digitsAsReal_7 : decode cX4_digitsAsReal 7 = .ok (.iload_n 2, 1) := by decide +kernel
theorem dX4_digitsAsReal_8 : decode cX4_digitsAsReal 8 = .ok (.if_icmp .ge 37, 3) := by decide +kernel
theorem dX4_digitsAsReal_11 : decode cX4_digitsAsReal 11 = .ok (.aload_n 0, 1) := by decide +kernel
theorem dX4_digitsAsReal_12 : decode cX4_digitsAsReal 12 = .ok (.iload 5, 2) := by decide +kernel
theorem dX4_digitsAsReal_14 : decode cX4_digitsAsReal 14 = .ok (.invokevirtual 79, 3) := by decide +kernel
theorem dX4_digitsAsReal_17 : decode cX4_digitsAsReal 17 = .ok (.bipush 46, 2) := by decide +kernel
theorem dX4_digitsAsReal_19 : decode cX4_digitsAsReal 19 = .ok (.if_icmp .eq 20, 3) := by decide +kernel
theorem dX4_digitsAsReal_22 : decode cX4_digitsAsReal 22 = .ok (.dload_n 3, 1) := by decide +kernel
theorem dX4_digitsAsReal_23 : decode cX4_digitsAsReal 23 = .ok (.ldc2_w 103, 3) := by decide +kernel
theorem dX4_digitsAsReal_26 : decode cX4_digitsAsReal 26 = .ok (.dmul, 1) := by decide +kernel
theorem dX4_digitsAsReal_27 : decode cX4_digitsAsReal 27 = .ok (.aload_n 0, 1) := by decide +kernel
theorem dX4_digitsAsReal_28 : decode cX4_digitsAsReal 28 = .ok (.iload 5, 2) := by decide +kernel
theorem dX4_digitsAsReal_30 : decode cX4_digitsAsReal 30 = .ok (.invokevirtual 79, 3) := by decide +kernel
theorem dX4_digitsAsReal_33 : decode cX4_digitsAsReal 33 = .ok (.invokestatic 115, 3) := by decide +kernel
theorem dX4_digitsAsReal_36 : decode cX4_digitsAsReal 36 = .ok (.i2d, 1) := by decide +kernel
theorem dX4_digitsAsReal_37 : decode cX4_digitsAsReal 37 = .ok (.dadd, 1) := by decide +kernel
theorem dX4_digitsAsReal_38 : decode cX4_digitsAsReal 38 = .ok (.dstore_n 3, 1) := by decide +kernel
theorem dX4_digitsAsReal_39 : decode cX4_digitsAsReal 39 = .ok (.iinc 5 1, 3) := by decide +kernel
theorem dX4_digitsAsReal_42 : decode cX4_digitsAsReal 42 = .ok (.goto (-37), 3) := by decide +kernel
theorem dX4_digitsAsReal_45 : decode cX4_digitsAsReal 45 = .ok (.dload_n 3, 1) := by decide +kernel
theorem dX4_digitsAsReal_46 : decode cX4_digitsAsReal 46 = .ok (.dreturn, 1) := by decide +kernel
theorem dX4_behindSign_0 : decode cX4_behindSign 0 = .ok (.aload_n 0, 1) := by decide +kernel
theorem dX4_behindSign_1 : decode cX4_behindSign 1 = .ok (.iload_n 1, 1) := by decide +kernel
theorem dX4_behindSign_2 : decode cX4_behindSign 2 = .ok (.invokevirtual 79, 3) := by decide +kernel
theorem dX4_behindSign_5 : decode cX4_behindSign 5 = .ok (.istore_n 2, 1) := by decide +kernel
theorem dX4_behindSign_6 : decode cX4_behindSign 6 = .ok (.iload_n 2, 1) := by decide +kernel
theorem dX4_behindSign_7 : decode cX4_behindSign 7 = .ok (.bipush 43, 2) := by decide +kernel
theorem dX4_behindSign_9 : decode cX4_behindSign 9 = .ok (.if_icmp .eq 9, 3) := by decide +kernel
theorem dX4_behindSign_12 : decode cX4_behindSign 12 = .ok (.iload_n 2, 1) := by decide +kernel
theorem dX4_behindSign_13 : decode cX4_behindSign 13 = .ok (.bipush 45, 2) := by decide +kernel
theorem dX4_behindSign_15 : decode cX4_behindSign 15 = .ok (.if_icmp .ne 9, 3) := by decide +kernel
theorem dX4_behindSign_18 : decode cX4_behindSign 18 = .ok (.iload_n 1, 1) := by decide +kernel
theorem dX4_behindSign_19 : decode cX4_behindSign 19 = .ok (.iconst 1, 1) := by decide +kernel
theorem dX4_behindSign_20 : decode cX4_behindSign 20 = .ok (.iadd, 1) := by decide +kernel
theorem dX4_behindSign_21 : decode cX4_behindSign 21 = .ok (.goto 4, 3) := by decide +kernel
theorem dX4_behindSign_24 : decode cX4_behindSign 24 = .ok (.iload_n 1, 1) := by decide +kernel
theorem dX4_behindSign_25 : decode cX4_behindSign 25 = .ok (.ireturn, 1) := by decide +kernel
theorem dX4_digitsEnd_0 : decode cX4_digitsEnd 0 = .ok (.iload_n 1, 1) := by decide +kernel
theorem dX4_digitsEnd_1 : decode cX4_digitsEnd 1 = .ok (.istore_n 3, 1) := by decide +kernel
theorem dX4_digitsEnd_2 : decode cX4_digitsEnd 2 = .ok (.iload_n 3, 1) := by decide +kernel
theorem dX4_digitsEnd_3 : decode cX4_digitsEnd 3 = .ok (.aload_n 0, 1) := by decide +kernel
theorem dX4_digitsEnd_4 : decode cX4_digitsEnd 4 = .ok (.getfield 69, 3) := by decide +kernel
theorem dX4_digitsEnd_7 : decode cX4_digitsEnd 7 = .ok (.if_icmp .ge 23, 3) := by decide +kernel
theorem dX4_digitsEnd_10 : decode cX4_digitsEnd 10 = .ok (.aload_n 0, 1) := by decide +kernel
theorem dX4_digitsEnd_11 : decode cX4_digitsEnd 11 = .ok (.iload_n 3, 1) := by decide +kernel
theorem dX4_digitsEnd_12 : decode cX4_digitsEnd 12 = .ok (.invokevirtual 79, 3) := by decide +kernel
theorem dX4_digitsEnd_15 : decode cX4_digitsEnd 15 = .ok (.invokestatic 115, 3) := by decide +kernel
theorem dX4_digitsEnd_18 : decode cX4_digitsEnd 18 = .ok (.iload_n 2, 1) := by decide +kernel
theorem dX4_digitsEnd_19 : decode cX4_digitsEnd 19 = .ok (.if_icmp .lt 5, 3) := by decide +kernel
theorem dX4_digitsEnd_22 : decode cX4_digitsEnd 22 = .ok (.iload_n 3, 1) := by decide +kernel
theorem dX4_digitsEnd_23 : decode cX4_digitsEnd 23 = .ok (.ireturn, 1) := by decide +kernel
theorem dX4_digitsEnd_24 : decode cX4_digitsEnd 24 = .ok (.iinc 3 1, 3) := by decide +kernel
theorem dX4_digitsEnd_27 : decode cX4_digitsEnd 27 = .ok (.goto (-25), 3) := by decide +kernel
theorem dX4_digitsEnd_30 : decode cX4_digitsEnd 30 = .ok (.aload_n 0, 1) := by decide +kernel
theorem dX4_digitsEnd_31 : decode cX4_digitsEnd 31 = .ok (.getfield 69, 3) := by decide +kernel
theorem dX4_digitsEnd_34 : decode cX4_digitsEnd 34 = .ok (.ireturn, 1) := by decide +kernel
theorem dX4_valueOf_0 : decode cX4_valueOf 0 = .ok (.lconst 0, 1) := by decide +kernel
theorem dX4_valueOf_1 : decode cX4_valueOf 1 = .ok (.lstore 4, 2) := by decide +kernel
theorem dX4_valueOf_3 : decode cX4_valueOf 3 = .ok (.iload_n 1, 1) := by decide +kernel
theorem dX4_valueOf_4 : decode cX4_valueOf 4 = .ok (.istore 6, 2) := by decide +kernel
theorem dX4_valueOf_6 : decode cX4_valueOf 6 = .ok (.iload 6, 2) := by decide +kernel
theorem dX4_valueOf_8 : decode cX4_valueOf 8 = .ok (.iload_n 2, 1) := by decide +kernel
theorem dX4_valueOf_9 : decode cX4_valueOf 9 = .ok (.if_icmp .ge 33, 3) := by decide +kernel
theorem dX4_valueOf_12 : decode cX4_valueOf 12 = .ok (.lload 4, 2) := by decide +kernel
theorem dX4_valueOf_14 : decode cX4_valueOf 14 = .ok (.iload_n 3, 1) := by decide +kernel
theorem dX4_valueOf_15 : decode cX4_valueOf 15 = .ok (.i2l, 1) := by decide +kernel
theorem dX4_valueOf_16 : decode cX4_valueOf 16 = .ok (.lmul, 1) := by decide +kernel
theorem dX4_valueOf_17 : decode cX4_valueOf 17 = .ok (.aload_n 0, 1) := by decide +kernel
theorem dX4_valueOf_18 : decode cX4_valueOf 18 = .ok (.iload 6, 2) := by decide +kernel
theorem dX4_valueOf_20 : decode cX4_valueOf 20 = .ok (.invokevirtual 79, 3) := by decide +kernel
theorem dX4_valueOf_23 : decode cX4_valueOf 23 = .ok (.invokestatic 115, 3) := by decide +kernel
theorem dX4_valueOf_26 : decode cX4_valueOf 26 = .ok (.i2l, 1) := by decide +kernel
theorem dX4_valueOf_27 : decode cX4_valueOf 27 = .ok (.ladd, 1) := by decide +kernel
theorem dX4_valueOf_28 : decode cX4_valueOf 28 = .ok (.ldc2_w 90, 3) := by decide +kernel
theorem dX4_valueOf_31 : decode cX4_valueOf 31 = .ok (.invokestatic 118, 3) := by decide +kernel
theorem dX4_valueOf_34 : decode cX4_valueOf 34 = .ok (.lstore 4, 2) := by decide +kernel
theorem dX4_valueOf_36 : decode cX4_valueOf 36 = .ok (.iinc 6 1, 3) := by decide +kernel
theorem dX4_valueOf_39 : decode cX4_valueOf 39 = .ok (.goto (-33), 3) := by decide +kernel
theorem dX4_valueOf_42 : decode cX4_valueOf 42 = .ok (.lload 4, 2) := by decide +kernel
theorem dX4_valueOf_44 : decode cX4_valueOf 44 = .ok (.lreturn, 1) := by decide +kernel
