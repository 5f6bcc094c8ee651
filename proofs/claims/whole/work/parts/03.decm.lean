theorem dX11_init_0 : decode cX11_init 0 = .ok (.aload_n 0, 1) := by decide +kernel
theorem dX11_init_1 : decode cX11_init 1 = .ok (.invokespecial 1, 3) := by decide +kernel
theorem dX11_init_4 : decode cX11_init 4 = .ok (.aload_n 0, 1) := by decide +kernel
theorem dX11_init_5 : decode cX11_init 5 = .ok (.bipush 20, 2) := by decide +kernel
theorem dX11_init_7 : decode cX11_init 7 = .ok (.newarray .int, 2) := by decide +kernel
theorem dX11_init_9 : decode cX11_init 9 = .ok (.putfield 7, 3) := by decide +kernel
theorem dX11_init_12 : decode cX11_init 12 = .ok (.aload_n 0, 1) := by decide +kernel
theorem dX11_init_13 : decode cX11_init 13 = .ok (.iconst 5, 1) := by decide +kernel
theorem dX11_init_14 : decode cX11_init 14 = .ok (.newarray .int, 2) := by decide +kernel
theorem dX11_init_16 : decode cX11_init 16 = .ok (.putfield 13, 3) := by decide +kernel
theorem dX11_init_19 : decode cX11_init 19 = .ok (.aload_n 0, 1) := by decide +kernel
theorem dX11_init_20 : decode cX11_init 20 = .ok (.iconst 5, 1) := by decide +kernel
theorem dX11_init_21 : decode cX11_init 21 = .ok (.newarray .int, 2) := by decide +kernel
theorem dX11_init_23 : decode cX11_init 23 = .ok (.putfield 16, 3) := by decide +kernel
theorem dX11_init_26 : decode cX11_init 26 = .ok (.aload_n 0, 1) := by decide +kernel
theorem dX11_init_27 : decode cX11_init 27 = .ok (.iconst 5, 1) := by decide +kernel
theorem dX11_init_28 : decode cX11_init 28 = .ok (.newarray .int, 2) := by decide +kernel
theorem dX11_init_30 : decode cX11_init 30 = .ok (.putfield 19, 3) := by decide +kernel
theorem dX11_init_33 : decode cX11_init 33 = .ok (.aload_n 0, 1) := by decide +kernel
theorem dX11_init_34 : decode cX11_init 34 = .ok (.bipush 25, 2) := by decide +kernel
theorem dX11_init_36 : decode cX11_init 36 = .ok (.newarray .int, 2) := by decide +kernel
theorem dX11_init_38 : decode cX11_init 38 = .ok (.putfield 22, 3) := by decide +kernel
theorem dX11_init_41 : decode cX11_init 41 = .ok (.aload_n 0, 1) := by decide +kernel
theorem dX11_init_42 : decode cX11_init 42 = .ok (.sipush 200, 3) := by decide +kernel
theorem dX11_init_45 : decode cX11_init 45 = .ok (.putfield 25, 3) := by decide +kernel
theorem dX11_init_48 : decode cX11_init 48 = .ok (.aload_n 0, 1) := by decide +kernel
theorem dX11_init_49 : decode cX11_init 49 = .ok (.sipush 320, 3) := by decide +kernel
theorem dX11_init_52 : decode cX11_init 52 = .ok (.putfield 29, 3) := by decide +kernel
theorem dX11_init_55 : decode cX11_init 55 = .ok (.aload_n 0, 1) := by decide +kernel
theorem dX11_init_56 : decode cX11_init 56 = .ok (.bipush 10, 2) := by decide +kernel
theorem dX11_init_58 : decode cX11_init 58 = .ok (.putfield 32, 3) := by decide +kernel
theorem dX11_init_61 : decode cX11_init 61 = .ok (.aload_n 0, 1) := by decide +kernel
theorem dX11_init_62 : decode cX11_init 62 = .ok (.bipush 20, 2) := by decide +kernel
theorem dX11_init_64 : decode cX11_init 64 = .ok (.putfield 35, 3) := by decide +kernel
theorem dX11_init_67 : decode cX11_init 67 = .ok (.aload_n 0, 1) := by decide +kernel
theorem dX11_init_68 : decode cX11_init 68 = .ok (.bipush 20, 2) := by decide +kernel
theorem dX11_init_70 : decode cX11_init 70 = .ok (.putfield 38, 3) := by decide +kernel
theorem dX11_init_73 : decode cX11_init 73 = .ok (.aload_n 0, 1) := by decide +kernel
theorem dX11_init_74 : decode cX11_init 74 = .ok (.bipush 10, 2) := by decide +kernel
theorem dX11_init_76 : decode cX11_init 76 = .ok (.putfield 41, 3) := by decide +kernel
theorem dX11_init_79 : decode cX11_init 79 = .ok (.aload_n 0, 1) := by decide +kernel
theorem dX11_init_80 : decode cX11_init 80 = .ok (.iconst 3, 1) := by decide +kernel
theorem dX11_init_81 : decode cX11_init 81 = .ok (.putfield 44, 3) := by decide +kernel
theorem dX11_init_84 : decode cX11_init 84 = .ok (.aload_n 0, 1) := by decide +kernel
theorem dX11_init_85 : decode cX11_init 85 = .ok (.bipush 40, 2) := by decide +kernel
theorem dX11_init_87 : decode cX11_init 87 = .ok (.putfield 47, 3) := by decide +kernel
theorem dX11_init_90 : decode cX11_init 90 = .ok (.aload_n 0, 1) := by decide +kernel
theorem dX11_init_91 : decode cX11_init 91 = .ok (.ldc 50, 2) := by decide +kernel
theorem dX11_init_93 : decode cX11_init 93 = .ok (.putfield 51, 3) := by decide +kernel
theorem dX11_init_96 : decode cX11_init 96 = .ok (.aload_n 0, 1) := by decide +kernel
theorem dX11_init_97 : decode cX11_init 97 = .ok (.sipush 200, 3) := by decide +kernel
theorem dX11_init_100 : decode cX11_init 100 = .ok (.newarray .int, 2) := by decide +kernel
theorem dX11_init_102 : decode cX11_init 102 = .ok (.putfield 54, 3) := by decide +kernel
theorem dX11_init_105 : decode cX11_init 105 = .ok (.aload_n 0, 1) := by decide +kernel
theorem dX11_init_106 : decode cX11_init 106 = .ok (.bipush 48, 2) := by decide +kernel
theorem dX11_init_108 : decode cX11_init 108 = .ok (.newarray .int, 2) := by decide +kernel
theorem dX11_init_110 : decode cX11_init 110 = .ok (.putfield 57, 3) := by decide +kernel
theorem dX11_init_113 : decode cX11_init 113 = .ok (.aload_n 0, 1) := by decide +kernel
theorem dX11_init_114 : decode cX11_init 114 = .ok (.sipush 480, 3) := by decide +kernel
theorem dX11_init_117 : decode cX11_init 117 = .ok (.newarray .int, 2) := by decide +kernel
theorem dX11_init_119 : decode cX11_init 119 = .ok (.putfield 60, 3) := by decide +kernel
theorem dX11_init_122 : decode cX11_init 122 = .ok (.aload_n 0, 1) := by decide +kernel
theorem dX11_init_123 : decode cX11_init 123 = .ok (.sipush 480, 3) := by decide +kernel
theorem dX11_init_126 : decode cX11_init 126 = .ok (.newarray .int, 2) := by decide +kernel
theorem dX11_init_128 : decode cX11_init 128 = .ok (.putfield 63, 3) := by decide +kernel
theorem dX11_init_131 : decode cX11_init 131 = .ok (.aload_n 0, 1) := by decide +kernel
theorem dX11_init_132 : decode cX11_init 132 = .ok (.sipush 480, 3) := by decide +kernel
theorem dX11_init_135 : decode cX11_init 135 = .ok (.newarray .int, 2) := by decide +kernel
theorem dX11_init_137 : decode cX11_init 137 = .ok (.putfield 66, 3) := by decide +kernel
theorem dX11_init_140 : decode cX11_init 140 = .ok (.aload_n 0, 1) := by decide +kernel
theorem dX11_init_141 : decode cX11_init 141 = .ok (.iconst 5, 1) := by decide +kernel
theorem dX11_init_142 : decode cX11_init 142 = .ok (.newarray .int, 2) := by decide +kernel
theorem dX11_init_144 : decode cX11_init 144 = .ok (.putfield 69, 3) := by decide +kernel
theorem dX11_init_147 : decode cX11_init 147 = .ok (.aload_n 0, 1) := by decide +kernel
theorem dX11_init_148 : decode cX11_init 148 = .ok (.iconst 5, 1) := by decide +kernel
theorem dX11_init_149 : decode cX11_init 149 = .ok (.newarray .int, 2) := by decide +kernel
theorem dX11_init_151 : decode cX11_init 151 = .ok (.putfield 72, 3) := by decide +kernel
theorem dX11_init_154 : decode cX11_init 154 = .ok (.aload_n 0, 1) := by decide +kernel
theorem dX11_init_155 : decode cX11_init 155 = .ok (.iconst 5, 1) := by decide +kernel
theorem dX11_init_156 : decode cX11_init 156 = .ok (.newarray .int, 2) := by decide +kernel
theorem dX11_init_158 : decode cX11_init 158 = .ok (.putfield 75, 3) := by decide +kernel
theorem dX11_init_161 : decode cX11_init 161 = .ok (.aload_n 0, 1) := by decide +kernel
theorem dX11_init_162 : decode cX11_init 162 = .ok (.iconst 5, 1) := by decide +kernel
theorem dX11_init_163 : decode cX11_init 163 = .ok (.newarray .int, 2) := by decide +kernel
theorem dX11_init_165 : decode cX11_init 165 = .ok (.putfield 78, 3) := by decide +kernel
theorem dX11_init_168 : decode cX11_init 168 = .ok (.aload_n 0, 1) := by decide +kernel
theorem dX11_init_169 : decode cX11_init 169 = .ok (.iconst 5, 1) := by decide +kernel
theorem dX11_init_170 : decode cX11_init 170 = .ok (.newarray .int, 2) := by decide +kernel
theorem dX11_init_172 : decode cX11_init 172 = .ok (.putfield 81, 3) := by decide +kernel
theorem dX11_init_175 : decode cX11_init 175 = .ok (.aload_n 0, 1) := by decide +kernel
theorem dX11_init_176 : decode cX11_init 176 = .ok (.iconst 5, 1) := by decide +kernel
theorem dX11_init_177 : decode cX11_init 177 = .ok (.newarray .int, 2) := by decide +kernel
theorem dX11_init_179 : decode cX11_init 179 = .ok (.putfield 84, 3) := by decide +kernel
theorem dX11_init_182 : decode cX11_init 182 = .ok (.aload_n 0, 1) := by decide +kernel
theorem dX11_init_183 : decode cX11_init 183 = .ok (.bipush 6, 2) := by decide +kernel
theorem dX11_init_185 : decode cX11_init 185 = .ok (.newarray .int, 2) := by decide +kernel
theorem dX11_init_187 : decode cX11_init 187 = .ok (.putfield 87, 3) := by decide +kernel
theorem dX11_init_190 : decode cX11_init 190 = .ok (.aload_n 0, 1) := by decide +kernel
theorem dX11_init_191 : decode cX11_init 191 = .ok (.bipush 6, 2) := by decide +kernel
theorem dX11_init_193 : decode cX11_init 193 = .ok (.newarray .int, 2) := by decide +kernel
theorem dX11_init_195 : decode cX11_init 195 = .ok (.putfield 90, 3) := by decide +kernel
theorem dX11_init_198 : decode cX11_init 198 = .ok (.aload_n 0, 1) := by decide +kernel
theorem dX11_init_199 : decode cX11_init 199 = .ok (.bipush 6, 2) := by decide +kernel
theorem dX11_init_201 : decode cX11_init 201 = .ok (.newarray .int, 2) := by decide +kernel
theorem dX11_init_203 : decode cX11_init 203 = .ok (.putfield 93, 3) := by decide +kernel
theorem dX11_init_206 : decode cX11_init 206 = .ok (.aload_n 0, 1) := by decide +kernel
theorem dX11_init_207 : decode cX11_init 207 = .ok (.bipush 6, 2) := by decide +kernel
theorem dX11_init_209 : decode cX11_init 209 = .ok (.newarray .int, 2) := by decide +kernel
theorem dX11_init_211 : decode cX11_init 211 = .ok (.putfield 96, 3) := by decide +kernel
theorem dX11_init_214 : decode cX11_init 214 = .ok (.aload_n 0, 1) := by decide +kernel
theorem dX11_init_215 : decode cX11_init 215 = .ok (.bipush 8, 2) := by decide +kernel
theorem dX11_init_217 : decode cX11_init 217 = .ok (.newarray .int, 2) := by decide +kernel
theorem dX11_init_219 : decode cX11_init 219 = .ok (.putfield 99, 3) := by decide +kernel
theorem dX11_init_222 : decode cX11_init 222 = .ok (.aload_n 0, 1) := by decide +kernel
theorem dX11_init_223 : decode cX11_init 223 = .ok (.bipush 8, 2) := by decide +kernel
theorem dX11_init_225 : decode cX11_init 225 = .ok (.newarray .int, 2) := by decide +kernel
theorem dX11_init_227 : decode cX11_init 227 = .ok (.putfield 102, 3) := by decide +kernel
theorem dX11_init_230 : decode cX11_init 230 = .ok (.aload_n 0, 1) := by decide +kernel
theorem dX11_init_231 : decode cX11_init 231 = .ok (.bipush 8, 2) := by decide +kernel
theorem dX11_init_233 : decode cX11_init 233 = .ok (.newarray .int, 2) := by decide +kernel
theorem dX11_init_235 : decode cX11_init 235 = .ok (.putfield 105, 3) := by decide +kernel
theorem dX11_init_238 : decode cX11_init 238 = .ok (.aload_n 0, 1) := by decide +kernel
theorem dX11_init_239 : decode cX11_init 239 = .ok (.bipush 8, 2) := by decide +kernel
theorem dX11_init_241 : decode cX11_init 241 = .ok (.newarray .int, 2) := by decide +kernel
theorem dX11_init_243 : decode cX11_init 243 = .ok (.putfield 108, 3) := by decide +kernel
theorem dX11_init_246 : decode cX11_init 246 = .ok (.aload_n 0, 1) := by decide +kernel
theorem dX11_init_247 : decode cX11_init 247 = .ok (.bipush 8, 2) := by decide +kernel
theorem dX11_init_249 : decode cX11_init 249 = .ok (.newarray .int, 2) := by decide +kernel
theorem dX11_init_251 : decode cX11_init 251 = .ok (.putfield 111, 3) := by decide +kernel
theorem dX11_init_254 : decode cX11_init 254 = .ok (.aload_n 0, 1) := by decide +kernel
theorem dX11_init_255 : decode cX11_init 255 = .ok (.sipush 256, 3) := by decide +kernel
theorem dX11_init_258 : decode cX11_init 258 = .ok (.newarray .int, 2) := by decide +kernel
theorem dX11_init_260 : decode cX11_init 260 = .ok (.putfield 114, 3) := by decide +kernel
theorem dX11_init_263 : decode cX11_init 263 = .ok (.aload_n 0, 1) := by decide +kernel
theorem dX11_init_264 : decode cX11_init 264 = .ok (.iconst 5, 1) := by decide +kernel
theorem dX11_init_265 : decode cX11_init 265 = .ok (.newarray .int, 2) := by decide +kernel
theorem dX11_init_267 : decode cX11_init 267 = .ok (.putfield 117, 3) := by decide +kernel
theorem dX11_init_270 : decode cX11_init 270 = .ok (.return_, 1) := by decide +kernel
theorem dX11_in_0 : decode cX11_in 0 = .ok (.iload_n 0, 1) := by decide +kernel
theorem dX11_in_1 : decode cX11_in 1 = .ok (.iload_n 1, 1) := by decide +kernel
theorem dX11_in_2 : decode cX11_in 2 = .ok (.if_icmp .lt 12, 3) := by decide +kernel
theorem dX11_in_5 : decode cX11_in 5 = .ok (.iload_n 0, 1) := by decide +kernel
theorem dX11_in_6 : decode cX11_in 6 = .ok (.iload_n 2, 1) := by decide +kernel
theorem dX11_in_7 : decode cX11_in 7 = .ok (.if_icmp .gt 7, 3) := by decide +kernel
theorem dX11_in_10 : decode cX11_in 10 = .ok (.iconst 1, 1) := by decide +kernel
theorem dX11_in_11 : decode cX11_in 11 = .ok (.goto 4, 3) := by decide +kernel
theorem dX11_in_14 : decode cX11_in 14 = .ok (.iconst 0, 1) := by decide +kernel
theorem dX11_in_15 : decode cX11_in 15 = .ok (.ireturn, 1) := by decide +kernel
theorem dX11_has_0 : decode cX11_has 0 = .ok (.iload_n 0, 1) := by decide +kernel
theorem dX11_has_1 : decode cX11_has 1 = .ok (.iload_n 1, 1) := by decide +kernel
theorem dX11_has_2 : decode cX11_has 2 = .ok (.ishr, 1) := by decide +kernel
theorem dX11_has_3 : decode cX11_has 3 = .ok (.iconst 1, 1) := by decide +kernel
theorem dX11_has_4 : decode cX11_has 4 = .ok (.iand, 1) := by decide +kernel
theorem dX11_has_5 : decode cX11_has 5 = .ok (.iconst 1, 1) := by decide +kernel
theorem dX11_has_6 : decode cX11_has 6 = .ok (.if_icmp .ne 7, 3) := by decide +kernel
theorem dX11_has_9 : decode cX11_has 9 = .ok (.iconst 1, 1) := by decide +kernel
theorem dX11_has_10 : decode cX11_has 10 = .ok (.goto 4, 3) := by decide +kernel
theorem dX11_has_13 : decode cX11_has 13 = .ok (.iconst 0, 1) := by decide +kernel
theorem dX11_has_14 : decode cX11_has 14 = .ok (.ireturn, 1) := by decide +kernel
theorem dX11_bits_0 : decode cX11_bits 0 = .ok (.iconst 0, 1) := by decide +kernel
theorem dX11_bits_1 : decode cX11_bits 1 = .ok (.istore_n 1, 1) := by decide +kernel
theorem dX11_bits_2 : decode cX11_bits 2 = .ok (.iconst 0, 1) := by decide +kernel
theorem dX11_bits_3 : decode cX11_bits 3 = .ok (.istore_n 2, 1) := by decide +kernel
theorem dX11_bits_4 : decode cX11_bits 4 = .ok (.iload_n 2, 1) := by decide +kernel
theorem dX11_bits_5 : decode cX11_bits 5 = .ok (.bipush 24, 2) := by decide +kernel
theorem dX11_bits_7 : decode cX11_bits 7 = .ok (.if_icmp .ge 17, 3) := by decide +kernel
theorem dX11_bits_10 : decode cX11_bits 10 = .ok (.iload_n 1, 1) := by decide +kernel
theorem dX11_bits_11 : decode cX11_bits 11 = .ok (.iload_n 0, 1) := by decide +kernel
theorem dX11_bits_12 : decode cX11_bits 12 = .ok (.iload_n 2, 1) := by decide +kernel
theorem dX11_bits_13 : decode cX11_bits 13 = .ok (.ishr, 1) := by decide +kernel
theorem dX11_bits_14 : decode cX11_bits 14 = .ok (.iconst 1, 1) := by decide +kernel
theorem dX11_bits_15 : decode cX11_bits 15 = .ok (.iand, 1) := by decide +kernel
theorem dX11_bits_16 : decode cX11_bits 16 = .ok (.iadd, 1) := by decide +kernel
theorem dX11_bits_17 : decode cX11_bits 17 = .ok (.istore_n 1, 1) := by decide +kernel
theorem dX11_bits_18 : decode cX11_bits 18 = .ok (.iinc 2 1, 3) := by decide +kernel
theorem dX11_bits_21 : decode cX11_bits 21 = .ok (.goto (-17), 3) := by decide +kernel
theorem dX11_bits_24 : decode cX11_bits 24 = .ok (.iload_n 1, 1) := by decide +kernel
theorem dX11_bits_25 : decode cX11_bits 25 = .ok (.ireturn, 1) := by decide +kernel
theorem dX11_isRoom_0 : decode cX11_isRoom 0 = .ok (.iload_n 1, 1) := by decide +kernel
theorem dX11_isRoom_1 : decode cX11_isRoom 1 = .ok (.iconst 0, 1) := by decide +kernel
theorem dX11_isRoom_2 : decode cX11_isRoom 2 = .ok (.iconst 4, 1) := by decide +kernel
theorem dX11_isRoom_3 : decode cX11_isRoom 3 = .ok (.invokestatic 120, 3) := by decide +kernel
theorem dX11_isRoom_6 : decode cX11_isRoom 6 = .ok (.ifCond .eq 18, 3) := by decide +kernel
theorem dX11_isRoom_9 : decode cX11_isRoom 9 = .ok (.aload_n 0, 1) := by decide +kernel
theorem dX11_isRoom_10 : decode cX11_isRoom 10 = .ok (.getfield 124, 3) := by decide +kernel
theorem dX11_isRoom_13 : decode cX11_isRoom 13 = .ok (.iload_n 1, 1) := by decide +kernel
theorem dX11_isRoom_14 : decode cX11_isRoom 14 = .ok (.invokestatic 127, 3) := by decide +kernel
theorem dX11_isRoom_17 : decode cX11_isRoom 17 = .ok (.ifCond .eq 7, 3) := by decide +kernel
theorem dX11_isRoom_20 : decode cX11_isRoom 20 = .ok (.iconst 1, 1) := by decide +kernel
theorem dX11_isRoom_21 : decode cX11_isRoom 21 = .ok (.goto 4, 3) := by decide +kernel
theorem dX11_isRoom_24 : decode cX11_isRoom 24 = .ok (.iconst 0, 1) := by decide +kernel
theorem dX11_isRoom_25 : decode cX11_isRoom 25 = .ok (.ireturn, 1) := by decide +kernel
theorem dX11_write_0 : decode cX11_write 0 = .ok (.iload_n 3, 1) := by decide +kernel
theorem dX11_write_1 : decode cX11_write 1 = .ok (.iconst 1, 1) := by decide +kernel
theorem dX11_write_2 : decode cX11_write 2 = .ok (.bipush 8, 2) := by decide +kernel
theorem dX11_write_4 : decode cX11_write 4 = .ok (.invokestatic 120, 3) := by decide +kernel
theorem dX11_write_7 : decode cX11_write 7 = .ok (.ifCond .ne 6, 3) := by decide +kernel
theorem dX11_write_10 : decode cX11_write 10 = .ok (.bipush (-3), 2) := by decide +kernel
theorem dX11_write_12 : decode cX11_write 12 = .ok (.ireturn, 1) := by decide +kernel
theorem dX11_write_13 : decode cX11_write 13 = .ok (.aload_n 0, 1) := by decide +kernel
theorem dX11_write_14 : decode cX11_write 14 = .ok (.getfield 131, 3) := by decide +kernel
theorem dX11_write_17 : decode cX11_write 17 = .ok (.iload_n 3, 1) := by decide +kernel
theorem dX11_write_18 : decode cX11_write 18 = .ok (.iadd, 1) := by decide +kernel
theorem dX11_write_19 : decode cX11_write 19 = .ok (.sipush 200, 3) := by decide +kernel
theorem dX11_write_22 : decode cX11_write 22 = .ok (.if_icmp .le 6, 3) := by decide +kernel
theorem dX11_write_25 : decode cX11_write 25 = .ok (.bipush (-5), 2) := by decide +kernel
theorem dX11_write_27 : decode cX11_write 27 = .ok (.ireturn, 1) := by decide +kernel
theorem dX11_write_28 : decode cX11_write 28 = .ok (.iconst 0, 1) := by decide +kernel
theorem dX11_write_29 : decode cX11_write 29 = .ok (.istore 4, 2) := by decide +kernel
theorem dX11_write_31 : decode cX11_write 31 = .ok (.iload 4, 2) := by decide +kernel
theorem dX11_write_33 : decode cX11_write 33 = .ok (.iload_n 3, 1) := by decide +kernel
theorem dX11_write_34 : decode cX11_write 34 = .ok (.if_icmp .ge 33, 3) := by decide +kernel
theorem dX11_write_37 : decode cX11_write 37 = .ok (.aload_n 0, 1) := by decide +kernel
theorem dX11_write_38 : decode cX11_write 38 = .ok (.getfield 54, 3) := by decide +kernel
theorem dX11_write_41 : decode cX11_write 41 = .ok (.aload_n 0, 1) := by decide +kernel
theorem dX11_write_42 : decode cX11_write 42 = .ok (.getfield 131, 3) := by decide +kernel
theorem dX11_write_45 : decode cX11_write 45 = .ok (.iload 4, 2) := by decide +kernel
theorem dX11_write_47 : decode cX11_write 47 = .ok (.iadd, 1) := by decide +kernel
theorem dX11_write_48 : decode cX11_write 48 = .ok (.lload_n 1, 1) := by decide +kernel
theorem dX11_write_49 : decode cX11_write 49 = .ok (.bipush 8, 2) := by decide +kernel
theorem dX11_write_51 : decode cX11_write 51 = .ok (.iload 4, 2) := by decide +kernel
theorem dX11_write_53 : decode cX11_write 53 = .ok (.imul, 1) := by decide +kernel
theorem dX11_write_54 : decode cX11_write 54 = .ok (.lshr, 1) := by decide +kernel
theorem dX11_write_55 : decode cX11_write 55 = .ok (.ldc2_w 134, 3) := by decide +kernel
theorem dX11_write_58 : decode cX11_write 58 = .ok (.land, 1) := by decide +kernel
theorem dX11_write_59 : decode cX11_write 59 = .ok (.l2i, 1) := by decide +kernel
theorem dX11_write_60 : decode cX11_write 60 = .ok (.iastore, 1) := by decide +kernel
theorem dX11_write_61 : decode cX11_write 61 = .ok (.iinc 4 1, 3) := by decide +kernel
theorem dX11_write_64 : decode cX11_write 64 = .ok (.goto (-33), 3) := by decide +kernel
theorem dX11_write_67 : decode cX11_write 67 = .ok (.aload_n 0, 1) := by decide +kernel
theorem dX11_write_68 : decode cX11_write 68 = .ok (.dup, 1) := by decide +kernel
theorem dX11_write_69 : decode cX11_write 69 = .ok (.getfield 131, 3) := by decide +kernel
theorem dX11_write_72 : decode cX11_write 72 = .ok (.iload_n 3, 1) := by decide +kernel
theorem dX11_write_73 : decode cX11_write 73 = .ok (.iadd, 1) := by decide +kernel
theorem dX11_write_74 : decode cX11_write 74 = .ok (.putfield 131, 3) := by decide +kernel
theorem dX11_write_77 : decode cX11_write 77 = .ok (.aload_n 0, 1) := by decide +kernel
theorem dX11_write_78 : decode cX11_write 78 = .ok (.getfield 131, 3) := by decide +kernel
theorem dX11_write_81 : decode cX11_write 81 = .ok (.ireturn, 1) := by decide +kernel
theorem dX11_erase_0 : decode cX11_erase 0 = .ok (.aload_n 0, 1) := by decide +kernel
theorem dX11_erase_1 : decode cX11_erase 1 = .ok (.getfield 131, 3) := by decide +kernel
theorem dX11_erase_4 : decode cX11_erase 4 = .ok (.istore_n 1, 1) := by decide +kernel
theorem dX11_erase_5 : decode cX11_erase 5 = .ok (.aload_n 0, 1) := by decide +kernel
theorem dX11_erase_6 : decode cX11_erase 6 = .ok (.iconst 0, 1) := by decide +kernel
theorem dX11_erase_7 : decode cX11_erase 7 = .ok (.putfield 131, 3) := by decide +kernel
theorem dX11_erase_10 : decode cX11_erase 10 = .ok (.iload_n 1, 1) := by decide +kernel
theorem dX11_erase_11 : decode cX11_erase 11 = .ok (.ireturn, 1) := by decide +kernel
theorem dX11_nextToken_0 : decode cX11_nextToken 0 = .ok (.aload_n 0, 1) := by decide +kernel
theorem dX11_nextToken_1 : decode cX11_nextToken 1 = .ok (.getfield 136, 3) := by decide +kernel
theorem dX11_nextToken_4 : decode cX11_nextToken 4 = .ok (.aload_n 0, 1) := by decide +kernel
theorem dX11_nextToken_5 : decode cX11_nextToken 5 = .ok (.getfield 131, 3) := by decide +kernel
theorem dX11_nextToken_8 : decode cX11_nextToken 8 = .ok (.if_icmp .ge 30, 3) := by decide +kernel
theorem dX11_nextToken_11 : decode cX11_nextToken 11 = .ok (.aload_n 0, 1) := by decide +kernel
theorem dX11_nextToken_12 : decode cX11_nextToken 12 = .ok (.getfield 54, 3) := by decide +kernel
theorem dX11_nextToken_15 : decode cX11_nextToken 15 = .ok (.aload_n 0, 1) := by decide +kernel
theorem dX11_nextToken_16 : decode cX11_nextToken 16 = .ok (.getfield 136, 3) := by decide +kernel
theorem dX11_nextToken_19 : decode cX11_nextToken 19 = .ok (.iaload, 1) := by decide +kernel
theorem dX11_nextToken_20 : decode cX11_nextToken 20 = .ok (.bipush 32, 2) := by decide +kernel
theorem dX11_nextToken_22 : decode cX11_nextToken 22 = .ok (.if_icmp .ne 16, 3) := by decide +kernel
theorem dX11_nextToken_25 : decode cX11_nextToken 25 = .ok (.aload_n 0, 1) := by decide +kernel
theorem dX11_nextToken_26 : decode cX11_nextToken 26 = .ok (.dup, 1) := by decide +kernel
theorem dX11_nextToken_27 : decode cX11_nextToken 27 = .ok (.getfield 136, 3) := by decide +kernel
theorem dX11_nextToken_30 : decode cX11_nextToken 30 = .ok (.iconst 1, 1) := by decide +kernel
theorem dX11_nextToken_31 : decode cX11_nextToken 31 = .ok (.iadd, 1) := by decide +kernel
theorem dX11_nextToken_32 : decode cX11_nextToken 32 = .ok (.putfield 136, 3) := by decide +kernel
theorem dX11_nextToken_35 : decode cX11_nextToken 35 = .ok (.goto (-35), 3) := by decide +kernel
theorem dX11_nextToken_38 : decode cX11_nextToken 38 = .ok (.aload_n 0, 1) := by decide +kernel
theorem dX11_nextToken_39 : decode cX11_nextToken 39 = .ok (.aload_n 0, 1) := by decide +kernel
theorem dX11_nextToken_40 : decode cX11_nextToken 40 = .ok (.getfield 136, 3) := by decide +kernel
theorem dX11_nextToken_43 : decode cX11_nextToken 43 = .ok (.putfield 139, 3) := by decide +kernel
theorem dX11_nextToken_46 : decode cX11_nextToken 46 = .ok (.aload_n 0, 1) := by decide +kernel
theorem dX11_nextToken_47 : decode cX11_nextToken 47 = .ok (.iconst 0, 1) := by decide +kernel
theorem dX11_nextToken_48 : decode cX11_nextToken 48 = .ok (.putfield 142, 3) := by decide +kernel
theorem dX11_nextToken_51 : decode cX11_nextToken 51 = .ok (.aload_n 0, 1) := by decide +kernel
theorem dX11_nextToken_52 : decode cX11_nextToken 52 = .ok (.iconst 0, 1) := by decide +kernel
theorem dX11_nextToken_53 : decode cX11_nextToken 53 = .ok (.putfield 145, 3) := by decide +kernel
theorem dX11_nextToken_56 : decode cX11_nextToken 56 = .ok (.aload_n 0, 1) := by decide +kernel
theorem dX11_nextToken_57 : decode cX11_nextToken 57 = .ok (.getfield 136, 3) := by decide +kernel
theorem dX11_nextToken_60 : decode cX11_nextToken 60 = .ok (.aload_n 0, 1) := by decide +kernel
theorem dX11_nextToken_61 : decode cX11_nextToken 61 = .ok (.getfield 131, 3) := by decide +kernel
theorem dX11_nextToken_64 : decode cX11_nextToken 64 = .ok (.if_icmp .ne 13, 3) := by decide +kernel
theorem dX11_nextToken_67 : decode cX11_nextToken 67 = .ok (.aload_n 0, 1) := by decide +kernel
theorem dX11_nextToken_68 : decode cX11_nextToken 68 = .ok (.ldc2_w 148, 3) := by decide +kernel
theorem dX11_nextToken_71 : decode cX11_nextToken 71 = .ok (.putfield 150, 3) := by decide +kernel
theorem dX11_nextToken_74 : decode cX11_nextToken 74 = .ok (.goto 320, 3) := by decide +kernel
theorem dX11_nextToken_77 : decode cX11_nextToken 77 = .ok (.aload_n 0, 1) := by decide +kernel
theorem dX11_nextToken_78 : decode cX11_nextToken 78 = .ok (.getfield 54, 3) := by decide +kernel
theorem dX11_nextToken_81 : decode cX11_nextToken 81 = .ok (.aload_n 0, 1) := by decide +kernel
theorem dX11_nextToken_82 : decode cX11_nextToken 82 = .ok (.getfield 136, 3) := by decide +kernel
theorem dX11_nextToken_85 : decode cX11_nextToken 85 = .ok (.iaload, 1) := by decide +kernel
theorem dX11_nextToken_86 : decode cX11_nextToken 86 = .ok (.bipush 97, 2) := by decide +kernel
theorem dX11_nextToken_88 : decode cX11_nextToken 88 = .ok (.bipush 122, 2) := by decide +kernel
theorem dX11_nextToken_90 : decode cX11_nextToken 90 = .ok (.invokestatic 120, 3) := by decide +kernel
theorem dX11_nextToken_93 : decode cX11_nextToken 93 = .ok (.ifCond .eq 129, 3) := by decide +kernel
theorem dX11_nextToken_96 : decode cX11_nextToken 96 = .ok (.aload_n 0, 1) := by decide +kernel
theorem dX11_nextToken_97 : decode cX11_nextToken 97 = .ok (.lconst 0, 1) := by decide +kernel
theorem dX11_nextToken_98 : decode cX11_nextToken 98 = .ok (.putfield 150, 3) := by decide +kernel
theorem dX11_nextToken_101 : decode cX11_nextToken 101 = .ok (.aload_n 0, 1) := by decide +kernel
theorem dX11_nextToken_102 : decode cX11_nextToken 102 = .ok (.getfield 136, 3) := by decide +kernel
theorem dX11_nextToken_105 : decode cX11_nextToken 105 = .ok (.aload_n 0, 1) := by decide +kernel
theorem dX11_nextToken_106 : decode cX11_nextToken 106 = .ok (.getfield 131, 3) := by decide +kernel
theorem dX11_nextToken_109 : decode cX11_nextToken 109 = .ok (.if_icmp .ge 82, 3) := by decide +kernel
theorem dX11_nextToken_112 : decode cX11_nextToken 112 = .ok (.aload_n 0, 1) := by decide +kernel
theorem dX11_nextToken_113 : decode cX11_nextToken 113 = .ok (.getfield 54, 3) := by decide +kernel
theorem dX11_nextToken_116 : decode cX11_nextToken 116 = .ok (.aload_n 0, 1) := by decide +kernel
theorem dX11_nextToken_117 : decode cX11_nextToken 117 = .ok (.getfield 136, 3) := by decide +kernel
theorem dX11_nextToken_120 : decode cX11_nextToken 120 = .ok (.iaload, 1) := by decide +kernel
theorem dX11_nextToken_121 : decode cX11_nextToken 121 = .ok (.bipush 97, 2) := by decide +kernel
theorem dX11_nextToken_123 : decode cX11_nextToken 123 = .ok (.bipush 122, 2) := by decide +kernel
theorem dX11_nextToken_125 : decode cX11_nextToken 125 = .ok (.invokestatic 120, 3) := by decide +kernel
theorem dX11_nextToken_128 : decode cX11_nextToken 128 = .ok (.ifCond .eq 63, 3) := by decide +kernel
theorem dX11_nextToken_131 : decode cX11_nextToken 131 = .ok (.aload_n 0, 1) := by decide +kernel
theorem dX11_nextToken_132 : decode cX11_nextToken 132 = .ok (.aload_n 0, 1) := by decide +kernel
theorem dX11_nextToken_133 : decode cX11_nextToken 133 = .ok (.getfield 136, 3) := by decide +kernel
theorem dX11_nextToken_136 : decode cX11_nextToken 136 = .ok (.aload_n 0, 1) := by decide +kernel
theorem dX11_nextToken_137 : decode cX11_nextToken 137 = .ok (.getfield 139, 3) := by decide +kernel
theorem dX11_nextToken_140 : decode cX11_nextToken 140 = .ok (.isub, 1) := by decide +kernel
theorem dX11_nextToken_141 : decode cX11_nextToken 141 = .ok (.bipush 9, 2) := by decide +kernel
theorem dX11_nextToken_143 : decode cX11_nextToken 143 = .ok (.if_icmp .ge 29, 3) := by decide +kernel
theorem dX11_nextToken_146 : decode cX11_nextToken 146 = .ok (.ldc2_w 154, 3) := by decide +kernel
theorem dX11_nextToken_149 : decode cX11_nextToken 149 = .ok (.aload_n 0, 1) := by decide +kernel
theorem dX11_nextToken_150 : decode cX11_nextToken 150 = .ok (.getfield 150, 3) := by decide +kernel
theorem dX11_nextToken_153 : decode cX11_nextToken 153 = .ok (.lmul, 1) := by decide +kernel
theorem dX11_nextToken_154 : decode cX11_nextToken 154 = .ok (.aload_n 0, 1) := by decide +kernel
theorem dX11_nextToken_155 : decode cX11_nextToken 155 = .ok (.getfield 54, 3) := by decide +kernel
theorem dX11_nextToken_158 : decode cX11_nextToken 158 = .ok (.aload_n 0, 1) := by decide +kernel
theorem dX11_nextToken_159 : decode cX11_nextToken 159 = .ok (.getfield 136, 3) := by decide +kernel
theorem dX11_nextToken_162 : decode cX11_nextToken 162 = .ok (.iaload, 1) := by decide +kernel
theorem dX11_nextToken_163 : decode cX11_nextToken 163 = .ok (.i2l, 1) := by decide +kernel
theorem dX11_nextToken_164 : decode cX11_nextToken 164 = .ok (.ladd, 1) := by decide +kernel
theorem dX11_nextToken_165 : decode cX11_nextToken 165 = .ok (.ldc2_w 156, 3) := by decide +kernel
theorem dX11_nextToken_168 : decode cX11_nextToken 168 = .ok (.lsub, 1) := by decide +kernel
theorem dX11_nextToken_169 : decode cX11_nextToken 169 = .ok (.goto 6, 3) := by decide +kernel
theorem dX11_nextToken_172 : decode cX11_nextToken 172 = .ok (.ldc2_w 158, 3) := by decide +kernel
theorem dX11_nextToken_175 : decode cX11_nextToken 175 = .ok (.putfield 150, 3) := by decide +kernel
theorem dX11_nextToken_178 : decode cX11_nextToken 178 = .ok (.aload_n 0, 1) := by decide +kernel
theorem dX11_nextToken_179 : decode cX11_nextToken 179 = .ok (.dup, 1) := by decide +kernel
theorem dX11_nextToken_180 : decode cX11_nextToken 180 = .ok (.getfield 136, 3) := by decide +kernel
theorem dX11_nextToken_183 : decode cX11_nextToken 183 = .ok (.iconst 1, 1) := by decide +kernel
theorem dX11_nextToken_184 : decode cX11_nextToken 184 = .ok (.iadd, 1) := by decide +kernel
theorem dX11_nextToken_185 : decode cX11_nextToken 185 = .ok (.putfield 136, 3) := by decide +kernel
theorem dX11_nextToken_188 : decode cX11_nextToken 188 = .ok (.goto (-87), 3) := by decide +kernel
theorem dX11_nextToken_191 : decode cX11_nextToken 191 = .ok (.aload_n 0, 1) := by decide +kernel
theorem dX11_nextToken_192 : decode cX11_nextToken 192 = .ok (.aload_n 0, 1) := by decide +kernel
theorem dX11_nextToken_193 : decode cX11_nextToken 193 = .ok (.getfield 136, 3) := by decide +kernel
theorem dX11_nextToken_196 : decode cX11_nextToken 196 = .ok (.aload_n 0, 1) := by decide +kernel
theorem dX11_nextToken_197 : decode cX11_nextToken 197 = .ok (.getfield 139, 3) := by decide +kernel
theorem dX11_nextToken_200 : decode cX11_nextToken 200 = .ok (.isub, 1) := by decide +kernel
theorem dX11_nextToken_201 : decode cX11_nextToken 201 = .ok (.bipush 9, 2) := by decide +kernel
theorem dX11_nextToken_203 : decode cX11_nextToken 203 = .ok (.if_icmp .le 9, 3) := by decide +kernel
theorem dX11_nextToken_206 : decode cX11_nextToken 206 = .ok (.ldc2_w 158, 3) := by decide +kernel
theorem dX11_nextToken_209 : decode cX11_nextToken 209 = .ok (.goto 7, 3) := by decide +kernel
theorem dX11_nextToken_212 : decode cX11_nextToken 212 = .ok (.aload_n 0, 1) := by decide +kernel
theorem dX11_nextToken_213 : decode cX11_nextToken 213 = .ok (.getfield 150, 3) := by decide +kernel
theorem dX11_nextToken_216 : decode cX11_nextToken 216 = .ok (.putfield 150, 3) := by decide +kernel
theorem dX11_nextToken_219 : decode cX11_nextToken 219 = .ok (.goto 175, 3) := by decide +kernel
theorem dX11_nextToken_222 : decode cX11_nextToken 222 = .ok (.aload_n 0, 1) := by decide +kernel
theorem dX11_nextToken_223 : decode cX11_nextToken 223 = .ok (.getfield 54, 3) := by decide +kernel
theorem dX11_nextToken_226 : decode cX11_nextToken 226 = .ok (.aload_n 0, 1) := by decide +kernel
theorem dX11_nextToken_227 : decode cX11_nextToken 227 = .ok (.getfield 136, 3) := by decide +kernel
theorem dX11_nextToken_230 : decode cX11_nextToken 230 = .ok (.iaload, 1) := by decide +kernel
theorem dX11_nextToken_231 : decode cX11_nextToken 231 = .ok (.bipush 48, 2) := by decide +kernel
theorem dX11_nextToken_233 : decode cX11_nextToken 233 = .ok (.bipush 57, 2) := by decide +kernel
theorem dX11_nextToken_235 : decode cX11_nextToken 235 = .ok (.invokestatic 120, 3) := by decide +kernel
theorem dX11_nextToken_238 : decode cX11_nextToken 238 = .ok (.ifCond .eq 119, 3) := by decide +kernel
theorem dX11_nextToken_241 : decode cX11_nextToken 241 = .ok (.aload_n 0, 1) := by decide +kernel
theorem dX11_nextToken_242 : decode cX11_nextToken 242 = .ok (.getfield 136, 3) := by decide +kernel
theorem dX11_nextToken_245 : decode cX11_nextToken 245 = .ok (.aload_n 0, 1) := by decide +kernel
theorem dX11_nextToken_246 : decode cX11_nextToken 246 = .ok (.getfield 131, 3) := by decide +kernel
theorem dX11_nextToken_249 : decode cX11_nextToken 249 = .ok (.if_icmp .ge 84, 3) := by decide +kernel
theorem dX11_nextToken_252 : decode cX11_nextToken 252 = .ok (.aload_n 0, 1) := by decide +kernel
theorem dX11_nextToken_253 : decode cX11_nextToken 253 = .ok (.getfield 54, 3) := by decide +kernel
theorem dX11_nextToken_256 : decode cX11_nextToken 256 = .ok (.aload_n 0, 1) := by decide +kernel
theorem dX11_nextToken_257 : decode cX11_nextToken 257 = .ok (.getfield 136, 3) := by decide +kernel
theorem dX11_nextToken_260 : decode cX11_nextToken 260 = .ok (.iaload, 1) := by decide +kernel
theorem dX11_nextToken_261 : decode cX11_nextToken 261 = .ok (.bipush 48, 2) := by decide +kernel
theorem dX11_nextToken_263 : decode cX11_nextToken 263 = .ok (.bipush 57, 2) := by decide +kernel
theorem dX11_nextToken_265 : decode cX11_nextToken 265 = .ok (.invokestatic 120, 3) := by decide +kernel
theorem dX11_nextToken_268 : decode cX11_nextToken 268 = .ok (.ifCond .eq 65, 3) := by decide +kernel
theorem dX11_nextToken_271 : decode cX11_nextToken 271 = .ok (.aload_n 0, 1) := by decide +kernel
theorem dX11_nextToken_272 : decode cX11_nextToken 272 = .ok (.aload_n 0, 1) := by decide +kernel
theorem dX11_nextToken_273 : decode cX11_nextToken 273 = .ok (.getfield 142, 3) := by decide +kernel
theorem dX11_nextToken_276 : decode cX11_nextToken 276 = .ok (.iconst 3, 1) := by decide +kernel
theorem dX11_nextToken_277 : decode cX11_nextToken 277 = .ok (.if_icmp .ge 26, 3) := by decide +kernel
theorem dX11_nextToken_280 : decode cX11_nextToken 280 = .ok (.bipush 10, 2) := by decide +kernel
theorem dX11_nextToken_282 : decode cX11_nextToken 282 = .ok (.aload_n 0, 1) := by decide +kernel
theorem dX11_nextToken_283 : decode cX11_nextToken 283 = .ok (.getfield 145, 3) := by decide +kernel
theorem dX11_nextToken_286 : decode cX11_nextToken 286 = .ok (.imul, 1) := by decide +kernel
theorem dX11_nextToken_287 : decode cX11_nextToken 287 = .ok (.aload_n 0, 1) := by decide +kernel
theorem dX11_nextToken_288 : decode cX11_nextToken 288 = .ok (.getfield 54, 3) := by decide +kernel
theorem dX11_nextToken_291 : decode cX11_nextToken 291 = .ok (.aload_n 0, 1) := by decide +kernel
theorem dX11_nextToken_292 : decode cX11_nextToken 292 = .ok (.getfield 136, 3) := by decide +kernel
theorem dX11_nextToken_295 : decode cX11_nextToken 295 = .ok (.iaload, 1) := by decide +kernel
theorem dX11_nextToken_296 : decode cX11_nextToken 296 = .ok (.iadd, 1) := by decide +kernel
theorem dX11_nextToken_297 : decode cX11_nextToken 297 = .ok (.bipush 48, 2) := by decide +kernel
theorem dX11_nextToken_299 : decode cX11_nextToken 299 = .ok (.isub, 1) := by decide +kernel
theorem dX11_nextToken_300 : decode cX11_nextToken 300 = .ok (.goto 7, 3) := by decide +kernel
theorem dX11_nextToken_303 : decode cX11_nextToken 303 = .ok (.aload_n 0, 1) := by decide +kernel
theorem dX11_nextToken_304 : decode cX11_nextToken 304 = .ok (.getfield 145, 3) := by decide +kernel
theorem dX11_nextToken_307 : decode cX11_nextToken 307 = .ok (.putfield 145, 3) := by decide +kernel
theorem dX11_nextToken_310 : decode cX11_nextToken 310 = .ok (.aload_n 0, 1) := by decide +kernel
theorem dX11_nextToken_311 : decode cX11_nextToken 311 = .ok (.dup, 1) := by decide +kernel
theorem dX11_nextToken_312 : decode cX11_nextToken 312 = .ok (.getfield 142, 3) := by decide +kernel
theorem dX11_nextToken_315 : decode cX11_nextToken 315 = .ok (.iconst 1, 1) := by decide +kernel
theorem dX11_nextToken_316 : decode cX11_nextToken 316 = .ok (.iadd, 1) := by decide +kernel
theorem dX11_nextToken_317 : decode cX11_nextToken 317 = .ok (.putfield 142, 3) := by decide +kernel
theorem dX11_nextToken_320 : decode cX11_nextToken 320 = .ok (.aload_n 0, 1) := by decide +kernel
theorem dX11_nextToken_321 : decode cX11_nextToken 321 = .ok (.dup, 1) := by decide +kernel
theorem dX11_nextToken_322 : decode cX11_nextToken 322 = .ok (.getfield 136, 3) := by decide +kernel
theorem dX11_nextToken_325 : decode cX11_nextToken 325 = .ok (.iconst 1, 1) := by decide +kernel
theorem dX11_nextToken_326 : decode cX11_nextToken 326 = .ok (.iadd, 1) := by decide +kernel
theorem dX11_nextToken_327 : decode cX11_nextToken 327 = .ok (.putfield 136, 3) := by decide +kernel
theorem dX11_nextToken_330 : decode cX11_nextToken 330 = .ok (.goto (-89), 3) := by decide +kernel
theorem dX11_nextToken_333 : decode cX11_nextToken 333 = .ok (.aload_n 0, 1) := by decide +kernel
theorem dX11_nextToken_334 : decode cX11_nextToken 334 = .ok (.aload_n 0, 1) := by decide +kernel
theorem dX11_nextToken_335 : decode cX11_nextToken 335 = .ok (.getfield 142, 3) := by decide +kernel
theorem dX11_nextToken_338 : decode cX11_nextToken 338 = .ok (.iconst 3, 1) := by decide +kernel
theorem dX11_nextToken_339 : decode cX11_nextToken 339 = .ok (.if_icmp .le 9, 3) := by decide +kernel
theorem dX11_nextToken_342 : decode cX11_nextToken 342 = .ok (.ldc2_w 158, 3) := by decide +kernel
theorem dX11_nextToken_345 : decode cX11_nextToken 345 = .ok (.goto 6, 3) := by decide +kernel
theorem dX11_nextToken_348 : decode cX11_nextToken 348 = .ok (.ldc2_w 160, 3) := by decide +kernel
theorem dX11_nextToken_351 : decode cX11_nextToken 351 = .ok (.putfield 150, 3) := by decide +kernel
theorem dX11_nextToken_354 : decode cX11_nextToken 354 = .ok (.goto 40, 3) := by decide +kernel
theorem dX11_nextToken_357 : decode cX11_nextToken 357 = .ok (.aload_n 0, 1) := by decide +kernel
theorem dX11_nextToken_358 : decode cX11_nextToken 358 = .ok (.aload_n 0, 1) := by decide +kernel
theorem dX11_nextToken_359 : decode cX11_nextToken 359 = .ok (.getfield 54, 3) := by decide +kernel
theorem dX11_nextToken_362 : decode cX11_nextToken 362 = .ok (.aload_n 0, 1) := by decide +kernel
theorem dX11_nextToken_363 : decode cX11_nextToken 363 = .ok (.getfield 136, 3) := by decide +kernel
theorem dX11_nextToken_366 : decode cX11_nextToken 366 = .ok (.iaload, 1) := by decide +kernel
theorem dX11_nextToken_367 : decode cX11_nextToken 367 = .ok (.bipush 59, 2) := by decide +kernel
theorem dX11_nextToken_369 : decode cX11_nextToken 369 = .ok (.if_icmp .ne 9, 3) := by decide +kernel
theorem dX11_nextToken_372 : decode cX11_nextToken 372 = .ok (.ldc2_w 162, 3) := by decide +kernel
theorem dX11_nextToken_375 : decode cX11_nextToken 375 = .ok (.goto 6, 3) := by decide +kernel
theorem dX11_nextToken_378 : decode cX11_nextToken 378 = .ok (.ldc2_w 158, 3) := by decide +kernel
theorem dX11_nextToken_381 : decode cX11_nextToken 381 = .ok (.putfield 150, 3) := by decide +kernel
theorem dX11_nextToken_384 : decode cX11_nextToken 384 = .ok (.aload_n 0, 1) := by decide +kernel
theorem dX11_nextToken_385 : decode cX11_nextToken 385 = .ok (.dup, 1) := by decide +kernel
theorem dX11_nextToken_386 : decode cX11_nextToken 386 = .ok (.getfield 136, 3) := by decide +kernel
theorem dX11_nextToken_389 : decode cX11_nextToken 389 = .ok (.iconst 1, 1) := by decide +kernel
theorem dX11_nextToken_390 : decode cX11_nextToken 390 = .ok (.iadd, 1) := by decide +kernel
theorem dX11_nextToken_391 : decode cX11_nextToken 391 = .ok (.putfield 136, 3) := by decide +kernel
theorem dX11_nextToken_394 : decode cX11_nextToken 394 = .ok (.return_, 1) := by decide +kernel
theorem dX11_fails_0 : decode cX11_fails 0 = .ok (.aload_n 0, 1) := by decide +kernel
theorem dX11_fails_1 : decode cX11_fails 1 = .ok (.aload_n 0, 1) := by decide +kernel
theorem dX11_fails_2 : decode cX11_fails 2 = .ok (.getfield 139, 3) := by decide +kernel
theorem dX11_fails_5 : decode cX11_fails 5 = .ok (.putfield 164, 3) := by decide +kernel
theorem dX11_fails_8 : decode cX11_fails 8 = .ok (.iconst 0, 1) := by decide +kernel
theorem dX11_fails_9 : decode cX11_fails 9 = .ok (.ireturn, 1) := by decide +kernel
theorem dX11_isNumber_0 : decode cX11_isNumber 0 = .ok (.aload_n 0, 1) := by decide +kernel
theorem dX11_isNumber_1 : decode cX11_isNumber 1 = .ok (.invokevirtual 167, 3) := by decide +kernel
theorem dX11_isNumber_4 : decode cX11_isNumber 4 = .ok (.aload_n 0, 1) := by decide +kernel
theorem dX11_isNumber_5 : decode cX11_isNumber 5 = .ok (.getfield 150, 3) := by decide +kernel
theorem dX11_isNumber_8 : decode cX11_isNumber 8 = .ok (.ldc2_w 160, 3) := by decide +kernel
theorem dX11_isNumber_11 : decode cX11_isNumber 11 = .ok (.lcmp, 1) := by decide +kernel
theorem dX11_isNumber_12 : decode cX11_isNumber 12 = .ok (.ifCond .ne 15, 3) := by decide +kernel
theorem dX11_isNumber_15 : decode cX11_isNumber 15 = .ok (.aload_n 0, 1) := by decide +kernel
theorem dX11_isNumber_16 : decode cX11_isNumber 16 = .ok (.getfield 145, 3) := by decide +kernel
theorem dX11_isNumber_19 : decode cX11_isNumber 19 = .ok (.iload_n 2, 1) := by decide +kernel
theorem dX11_isNumber_20 : decode cX11_isNumber 20 = .ok (.iload_n 3, 1) := by decide +kernel
theorem dX11_isNumber_21 : decode cX11_isNumber 21 = .ok (.invokestatic 120, 3) := by decide +kernel
theorem dX11_isNumber_24 : decode cX11_isNumber 24 = .ok (.ifCond .ne 8, 3) := by decide +kernel
theorem dX11_isNumber_27 : decode cX11_isNumber 27 = .ok (.aload_n 0, 1) := by decide +kernel
theorem dX11_isNumber_28 : decode cX11_isNumber 28 = .ok (.invokevirtual 170, 3) := by decide +kernel
theorem dX11_isNumber_31 : decode cX11_isNumber 31 = .ok (.ireturn, 1) := by decide +kernel
theorem dX11_isNumber_32 : decode cX11_isNumber 32 = .ok (.aload_n 0, 1) := by decide +kernel
theorem dX11_isNumber_33 : decode cX11_isNumber 33 = .ok (.getfield 57, 3) := by decide +kernel
theorem dX11_isNumber_36 : decode cX11_isNumber 36 = .ok (.iload_n 1, 1) := by decide +kernel
theorem dX11_isNumber_37 : decode cX11_isNumber 37 = .ok (.aload_n 0, 1) := by decide +kernel
theorem dX11_isNumber_38 : decode cX11_isNumber 38 = .ok (.getfield 145, 3) := by decide +kernel
theorem dX11_isNumber_41 : decode cX11_isNumber 41 = .ok (.iastore, 1) := by decide +kernel
theorem dX11_isNumber_42 : decode cX11_isNumber 42 = .ok (.iconst 1, 1) := by decide +kernel
theorem dX11_isNumber_43 : decode cX11_isNumber 43 = .ok (.ireturn, 1) := by decide +kernel
theorem dX11_isDoor_0 : decode cX11_isDoor 0 = .ok (.aload_n 0, 1) := by decide +kernel
theorem dX11_isDoor_1 : decode cX11_isDoor 1 = .ok (.iload_n 1, 1) := by decide +kernel
theorem dX11_isDoor_2 : decode cX11_isDoor 2 = .ok (.iconst 1, 1) := by decide +kernel
theorem dX11_isDoor_3 : decode cX11_isDoor 3 = .ok (.iadd, 1) := by decide +kernel
theorem dX11_isDoor_4 : decode cX11_isDoor 4 = .ok (.iconst 0, 1) := by decide +kernel
theorem dX11_isDoor_5 : decode cX11_isDoor 5 = .ok (.iconst 4, 1) := by decide +kernel
theorem dX11_isDoor_6 : decode cX11_isDoor 6 = .ok (.invokevirtual 174, 3) := by decide +kernel
theorem dX11_isDoor_9 : decode cX11_isDoor 9 = .ok (.ifCond .eq 15, 3) := by decide +kernel
theorem dX11_isDoor_12 : decode cX11_isDoor 12 = .ok (.aload_n 0, 1) := by decide +kernel
theorem dX11_isDoor_13 : decode cX11_isDoor 13 = .ok (.iload_n 1, 1) := by decide +kernel
theorem dX11_isDoor_14 : decode cX11_isDoor 14 = .ok (.iconst 2, 1) := by decide +kernel
theorem dX11_isDoor_15 : decode cX11_isDoor 15 = .ok (.iadd, 1) := by decide +kernel
theorem dX11_isDoor_16 : decode cX11_isDoor 16 = .ok (.iconst 0, 1) := by decide +kernel
theorem dX11_isDoor_17 : decode cX11_isDoor 17 = .ok (.iconst 4, 1) := by decide +kernel
theorem dX11_isDoor_18 : decode cX11_isDoor 18 = .ok (.invokevirtual 174, 3) := by decide +kernel
theorem dX11_isDoor_21 : decode cX11_isDoor 21 = .ok (.ifCond .ne 5, 3) := by decide +kernel
theorem dX11_isDoor_24 : decode cX11_isDoor 24 = .ok (.iconst 0, 1) := by decide +kernel
theorem dX11_isDoor_25 : decode cX11_isDoor 25 = .ok (.ireturn, 1) := by decide +kernel
theorem dX11_isDoor_26 : decode cX11_isDoor 26 = .ok (.aload_n 0, 1) := by decide +kernel
theorem dX11_isDoor_27 : decode cX11_isDoor 27 = .ok (.getfield 57, 3) := by decide +kernel
theorem dX11_isDoor_30 : decode cX11_isDoor 30 = .ok (.iload_n 1, 1) := by decide +kernel
theorem dX11_isDoor_31 : decode cX11_isDoor 31 = .ok (.iconst 1, 1) := by decide +kernel
theorem dX11_isDoor_32 : decode cX11_isDoor 32 = .ok (.iadd, 1) := by decide +kernel
theorem dX11_isDoor_33 : decode cX11_isDoor 33 = .ok (.iaload, 1) := by decide +kernel
theorem dX11_isDoor_34 : decode cX11_isDoor 34 = .ok (.aload_n 0, 1) := by decide +kernel
theorem dX11_isDoor_35 : decode cX11_isDoor 35 = .ok (.getfield 57, 3) := by decide +kernel
theorem dX11_isDoor_38 : decode cX11_isDoor 38 = .ok (.iload_n 1, 1) := by decide +kernel
theorem dX11_isDoor_39 : decode cX11_isDoor 39 = .ok (.iconst 2, 1) := by decide +kernel
theorem dX11_isDoor_40 : decode cX11_isDoor 40 = .ok (.iadd, 1) := by decide +kernel
theorem dX11_isDoor_41 : decode cX11_isDoor 41 = .ok (.iaload, 1) := by decide +kernel
theorem dX11_isDoor_42 : decode cX11_isDoor 42 = .ok (.if_icmp .ne 10, 3) := by decide +kernel
theorem dX11_isDoor_45 : decode cX11_isDoor 45 = .ok (.aload_n 0, 1) := by decide +kernel
theorem dX11_isDoor_46 : decode cX11_isDoor 46 = .ok (.invokevirtual 170, 3) := by decide +kernel
theorem dX11_isDoor_49 : decode cX11_isDoor 49 = .ok (.goto 13, 3) := by decide +kernel
theorem dX11_isDoor_52 : decode cX11_isDoor 52 = .ok (.aload_n 0, 1) := by decide +kernel
theorem dX11_isDoor_53 : decode cX11_isDoor 53 = .ok (.iload_n 1, 1) := by decide +kernel
theorem dX11_isDoor_54 : decode cX11_isDoor 54 = .ok (.iconst 3, 1) := by decide +kernel
theorem dX11_isDoor_55 : decode cX11_isDoor 55 = .ok (.iadd, 1) := by decide +kernel
theorem dX11_isDoor_56 : decode cX11_isDoor 56 = .ok (.iconst 0, 1) := by decide +kernel
theorem dX11_isDoor_57 : decode cX11_isDoor 57 = .ok (.bipush 10, 2) := by decide +kernel
theorem dX11_isDoor_59 : decode cX11_isDoor 59 = .ok (.invokevirtual 174, 3) := by decide +kernel
theorem dX11_isDoor_62 : decode cX11_isDoor 62 = .ok (.ireturn, 1) := by decide +kernel
theorem dX11_isLine_0 : decode cX11_isLine 0 = .ok (.aload_n 0, 1) := by decide +kernel
theorem dX11_isLine_1 : decode cX11_isLine 1 = .ok (.invokevirtual 167, 3) := by decide +kernel
theorem dX11_isLine_4 : decode cX11_isLine 4 = .ok (.aload_n 0, 1) := by decide +kernel
theorem dX11_isLine_5 : decode cX11_isLine 5 = .ok (.getfield 150, 3) := by decide +kernel
theorem dX11_isLine_8 : decode cX11_isLine 8 = .ok (.ldc2_w 177, 3) := by decide +kernel
theorem dX11_isLine_11 : decode cX11_isLine 11 = .ok (.lcmp, 1) := by decide +kernel
theorem dX11_isLine_12 : decode cX11_isLine 12 = .ok (.ifCond .ne 7, 3) := by decide +kernel
theorem dX11_isLine_15 : decode cX11_isLine 15 = .ok (.iconst 0, 1) := by decide +kernel
theorem dX11_isLine_16 : decode cX11_isLine 16 = .ok (.goto 64, 3) := by decide +kernel
theorem dX11_isLine_19 : decode cX11_isLine 19 = .ok (.aload_n 0, 1) := by decide +kernel
theorem dX11_isLine_20 : decode cX11_isLine 20 = .ok (.getfield 150, 3) := by decide +kernel
theorem dX11_isLine_23 : decode cX11_isLine 23 = .ok (.ldc2_w 179, 3) := by decide +kernel
theorem dX11_isLine_26 : decode cX11_isLine 26 = .ok (.lcmp, 1) := by decide +kernel
theorem dX11_isLine_27 : decode cX11_isLine 27 = .ok (.ifCond .ne 7, 3) := by decide +kernel
theorem dX11_isLine_30 : decode cX11_isLine 30 = .ok (.iconst 1, 1) := by decide +kernel
theorem dX11_isLine_31 : decode cX11_isLine 31 = .ok (.goto 49, 3) := by decide +kernel
theorem dX11_isLine_34 : decode cX11_isLine 34 = .ok (.aload_n 0, 1) := by decide +kernel
theorem dX11_isLine_35 : decode cX11_isLine 35 = .ok (.getfield 150, 3) := by decide +kernel
theorem dX11_isLine_38 : decode cX11_isLine 38 = .ok (.ldc2_w 181, 3) := by decide +kernel
theorem dX11_isLine_41 : decode cX11_isLine 41 = .ok (.lcmp, 1) := by decide +kernel
theorem dX11_isLine_42 : decode cX11_isLine 42 = .ok (.ifCond .ne 7, 3) := by decide +kernel
theorem dX11_isLine_45 : decode cX11_isLine 45 = .ok (.iconst 2, 1) := by decide +kernel
theorem dX11_isLine_46 : decode cX11_isLine 46 = .ok (.goto 34, 3) := by decide +kernel
theorem dX11_isLine_49 : decode cX11_isLine 49 = .ok (.aload_n 0, 1) := by decide +kernel
theorem dX11_isLine_50 : decode cX11_isLine 50 = .ok (.getfield 150, 3) := by decide +kernel
theorem dX11_isLine_53 : decode cX11_isLine 53 = .ok (.ldc2_w 183, 3) := by decide +kernel
theorem dX11_isLine_56 : decode cX11_isLine 56 = .ok (.lcmp, 1) := by decide +kernel
theorem dX11_isLine_57 : decode cX11_isLine 57 = .ok (.ifCond .ne 7, 3) := by decide +kernel
theorem dX11_isLine_60 : decode cX11_isLine 60 = .ok (.iconst 3, 1) := by decide +kernel
theorem dX11_isLine_61 : decode cX11_isLine 61 = .ok (.goto 19, 3) := by decide +kernel
theorem dX11_isLine_64 : decode cX11_isLine 64 = .ok (.aload_n 0, 1) := by decide +kernel
theorem dX11_isLine_65 : decode cX11_isLine 65 = .ok (.getfield 150, 3) := by decide +kernel
theorem dX11_isLine_68 : decode cX11_isLine 68 = .ok (.ldc2_w 185, 3) := by decide +kernel
theorem dX11_isLine_71 : decode cX11_isLine 71 = .ok (.lcmp, 1) := by decide +kernel
theorem dX11_isLine_72 : decode cX11_isLine 72 = .ok (.ifCond .ne 7, 3) := by decide +kernel
theorem dX11_isLine_75 : decode cX11_isLine 75 = .ok (.iconst 4, 1) := by decide +kernel
theorem dX11_isLine_76 : decode cX11_isLine 76 = .ok (.goto 4, 3) := by decide +kernel
theorem dX11_isLine_79 : decode cX11_isLine 79 = .ok (.iconst (-1), 1) := by decide +kernel
theorem dX11_isLine_80 : decode cX11_isLine 80 = .ok (.istore_n 2, 1) := by decide +kernel
theorem dX11_isLine_81 : decode cX11_isLine 81 = .ok (.aload_n 0, 1) := by decide +kernel
theorem dX11_isLine_82 : decode cX11_isLine 82 = .ok (.getfield 150, 3) := by decide +kernel
theorem dX11_isLine_85 : decode cX11_isLine 85 = .ok (.ldc2_w 187, 3) := by decide +kernel
theorem dX11_isLine_88 : decode cX11_isLine 88 = .ok (.lcmp, 1) := by decide +kernel
theorem dX11_isLine_89 : decode cX11_isLine 89 = .ok (.ifCond .ne 7, 3) := by decide +kernel
theorem dX11_isLine_92 : decode cX11_isLine 92 = .ok (.iconst 5, 1) := by decide +kernel
theorem dX11_isLine_93 : decode cX11_isLine 93 = .ok (.goto 68, 3) := by decide +kernel
theorem dX11_isLine_96 : decode cX11_isLine 96 = .ok (.aload_n 0, 1) := by decide +kernel
theorem dX11_isLine_97 : decode cX11_isLine 97 = .ok (.getfield 150, 3) := by decide +kernel
theorem dX11_isLine_100 : decode cX11_isLine 100 = .ok (.ldc2_w 189, 3) := by decide +kernel
theorem dX11_isLine_103 : decode cX11_isLine 103 = .ok (.lcmp, 1) := by decide +kernel
theorem dX11_isLine_104 : decode cX11_isLine 104 = .ok (.ifCond .ne 8, 3) := by decide +kernel
theorem dX11_isLine_107 : decode cX11_isLine 107 = .ok (.bipush 6, 2) := by decide +kernel
theorem dX11_isLine_109 : decode cX11_isLine 109 = .ok (.goto 52, 3) := by decide +kernel
theorem dX11_isLine_112 : decode cX11_isLine 112 = .ok (.aload_n 0, 1) := by decide +kernel
theorem dX11_isLine_113 : decode cX11_isLine 113 = .ok (.getfield 150, 3) := by decide +kernel
theorem dX11_isLine_116 : decode cX11_isLine 116 = .ok (.ldc2_w 191, 3) := by decide +kernel
theorem dX11_isLine_119 : decode cX11_isLine 119 = .ok (.lcmp, 1) := by decide +kernel
theorem dX11_isLine_120 : decode cX11_isLine 120 = .ok (.ifCond .ne 8, 3) := by decide +kernel
theorem dX11_isLine_123 : decode cX11_isLine 123 = .ok (.bipush 7, 2) := by decide +kernel
theorem dX11_isLine_125 : decode cX11_isLine 125 = .ok (.goto 36, 3) := by decide +kernel
theorem dX11_isLine_128 : decode cX11_isLine 128 = .ok (.aload_n 0, 1) := by decide +kernel
theorem dX11_isLine_129 : decode cX11_isLine 129 = .ok (.getfield 150, 3) := by decide +kernel
theorem dX11_isLine_132 : decode cX11_isLine 132 = .ok (.ldc2_w 193, 3) := by decide +kernel
theorem dX11_isLine_135 : decode cX11_isLine 135 = .ok (.lcmp, 1) := by decide +kernel
theorem dX11_isLine_136 : decode cX11_isLine 136 = .ok (.ifCond .ne 8, 3) := by decide +kernel
theorem dX11_isLine_139 : decode cX11_isLine 139 = .ok (.bipush 8, 2) := by decide +kernel
theorem dX11_isLine_141 : decode cX11_isLine 141 = .ok (.goto 20, 3) := by decide +kernel
theorem dX11_isLine_144 : decode cX11_isLine 144 = .ok (.aload_n 0, 1) := by decide +kernel
theorem dX11_isLine_145 : decode cX11_isLine 145 = .ok (.getfield 150, 3) := by decide +kernel
theorem dX11_isLine_148 : decode cX11_isLine 148 = .ok (.ldc2_w 195, 3) := by decide +kernel
theorem dX11_isLine_151 : decode cX11_isLine 151 = .ok (.lcmp, 1) := by decide +kernel
theorem dX11_isLine_152 : decode cX11_isLine 152 = .ok (.ifCond .ne 8, 3) := by decide +kernel
theorem dX11_isLine_155 : decode cX11_isLine 155 = .ok (.bipush 9, 2) := by decide +kernel
theorem dX11_isLine_157 : decode cX11_isLine 157 = .ok (.goto 4, 3) := by decide +kernel
theorem dX11_isLine_160 : decode cX11_isLine 160 = .ok (.iconst (-1), 1) := by decide +kernel
theorem dX11_isLine_161 : decode cX11_isLine 161 = .ok (.istore_n 3, 1) := by decide +kernel
theorem dX11_isLine_162 : decode cX11_isLine 162 = .ok (.aload_n 0, 1) := by decide +kernel
theorem dX11_isLine_163 : decode cX11_isLine 163 = .ok (.getfield 57, 3) := by decide +kernel
theorem dX11_isLine_166 : decode cX11_isLine 166 = .ok (.iload_n 1, 1) := by decide +kernel
theorem dX11_isLine_167 : decode cX11_isLine 167 = .ok (.iload_n 2, 1) := by decide +kernel
theorem dX11_isLine_168 : decode cX11_isLine 168 = .ok (.iconst (-1), 1) := by decide +kernel
theorem dX11_isLine_169 : decode cX11_isLine 169 = .ok (.if_icmp .ne 7, 3) := by decide +kernel
theorem dX11_isLine_172 : decode cX11_isLine 172 = .ok (.iload_n 3, 1) := by decide +kernel
theorem dX11_isLine_173 : decode cX11_isLine 173 = .ok (.goto 4, 3) := by decide +kernel
theorem dX11_isLine_176 : decode cX11_isLine 176 = .ok (.iload_n 2, 1) := by decide +kernel
theorem dX11_isLine_177 : decode cX11_isLine 177 = .ok (.iastore, 1) := by decide +kernel
theorem dX11_isLine_178 : decode cX11_isLine 178 = .ok (.aload_n 0, 1) := by decide +kernel
theorem dX11_isLine_179 : decode cX11_isLine 179 = .ok (.getfield 57, 3) := by decide +kernel
theorem dX11_isLine_182 : decode cX11_isLine 182 = .ok (.iload_n 1, 1) := by decide +kernel
theorem dX11_isLine_183 : decode cX11_isLine 183 = .ok (.iaload, 1) := by decide +kernel
theorem dX11_isLine_184 : decode cX11_isLine 184 = .ok (.tableswitch 365 0 9 #[56, 127, 133, 180, 191, 249, 279, 279, 323, 355], 56) := by decide +kernel
theorem dX11_isLine_240 : decode cX11_isLine 240 = .ok (.aload_n 0, 1) := by decide +kernel
theorem dX11_isLine_241 : decode cX11_isLine 241 = .ok (.iload_n 1, 1) := by decide +kernel
theorem dX11_isLine_242 : decode cX11_isLine 242 = .ok (.iconst 1, 1) := by decide +kernel
theorem dX11_isLine_243 : decode cX11_isLine 243 = .ok (.iadd, 1) := by decide +kernel
theorem dX11_isLine_244 : decode cX11_isLine 244 = .ok (.iconst 0, 1) := by decide +kernel
theorem dX11_isLine_245 : decode cX11_isLine 245 = .ok (.iconst 4, 1) := by decide +kernel
theorem dX11_isLine_246 : decode cX11_isLine 246 = .ok (.invokevirtual 174, 3) := by decide +kernel
theorem dX11_isLine_249 : decode cX11_isLine 249 = .ok (.ifCond .eq 60, 3) := by decide +kernel
theorem dX11_isLine_252 : decode cX11_isLine 252 = .ok (.aload_n 0, 1) := by decide +kernel
theorem dX11_isLine_253 : decode cX11_isLine 253 = .ok (.iload_n 1, 1) := by decide +kernel
theorem dX11_isLine_254 : decode cX11_isLine 254 = .ok (.iconst 2, 1) := by decide +kernel
theorem dX11_isLine_255 : decode cX11_isLine 255 = .ok (.iadd, 1) := by decide +kernel
theorem dX11_isLine_256 : decode cX11_isLine 256 = .ok (.iconst 0, 1) := by decide +kernel
theorem dX11_isLine_257 : decode cX11_isLine 257 = .ok (.sipush 600, 3) := by decide +kernel
theorem dX11_isLine_260 : decode cX11_isLine 260 = .ok (.invokevirtual 174, 3) := by decide +kernel
theorem dX11_isLine_263 : decode cX11_isLine 263 = .ok (.ifCond .eq 46, 3) := by decide +kernel
theorem dX11_isLine_266 : decode cX11_isLine 266 = .ok (.aload_n 0, 1) := by decide +kernel
theorem dX11_isLine_267 : decode cX11_isLine 267 = .ok (.iload_n 1, 1) := by decide +kernel
theorem dX11_isLine_268 : decode cX11_isLine 268 = .ok (.iconst 3, 1) := by decide +kernel
theorem dX11_isLine_269 : decode cX11_isLine 269 = .ok (.iadd, 1) := by decide +kernel
theorem dX11_isLine_270 : decode cX11_isLine 270 = .ok (.iconst 0, 1) := by decide +kernel
theorem dX11_isLine_271 : decode cX11_isLine 271 = .ok (.sipush 600, 3) := by decide +kernel
theorem dX11_isLine_274 : decode cX11_isLine 274 = .ok (.invokevirtual 174, 3) := by decide +kernel
theorem dX11_isLine_277 : decode cX11_isLine 277 = .ok (.ifCond .eq 32, 3) := by decide +kernel
theorem dX11_isLine_280 : decode cX11_isLine 280 = .ok (.aload_n 0, 1) := by decide +kernel
theorem dX11_isLine_281 : decode cX11_isLine 281 = .ok (.iload_n 1, 1) := by decide +kernel
theorem dX11_isLine_282 : decode cX11_isLine 282 = .ok (.iconst 4, 1) := by decide +kernel
theorem dX11_isLine_283 : decode cX11_isLine 283 = .ok (.iadd, 1) := by decide +kernel
theorem dX11_isLine_284 : decode cX11_isLine 284 = .ok (.iconst 0, 1) := by decide +kernel
theorem dX11_isLine_285 : decode cX11_isLine 285 = .ok (.iconst 3, 1) := by decide +kernel
theorem dX11_isLine_286 : decode cX11_isLine 286 = .ok (.invokevirtual 174, 3) := by decide +kernel
theorem dX11_isLine_289 : decode cX11_isLine 289 = .ok (.ifCond .eq 20, 3) := by decide +kernel
theorem dX11_isLine_292 : decode cX11_isLine 292 = .ok (.aload_n 0, 1) := by decide +kernel
theorem dX11_isLine_293 : decode cX11_isLine 293 = .ok (.iload_n 1, 1) := by decide +kernel
theorem dX11_isLine_294 : decode cX11_isLine 294 = .ok (.iconst 5, 1) := by decide +kernel
theorem dX11_isLine_295 : decode cX11_isLine 295 = .ok (.iadd, 1) := by decide +kernel
theorem dX11_isLine_296 : decode cX11_isLine 296 = .ok (.iconst 0, 1) := by decide +kernel
theorem dX11_isLine_297 : decode cX11_isLine 297 = .ok (.bipush 9, 2) := by decide +kernel
theorem dX11_isLine_299 : decode cX11_isLine 299 = .ok (.invokevirtual 174, 3) := by decide +kernel
theorem dX11_isLine_302 : decode cX11_isLine 302 = .ok (.ifCond .eq 7, 3) := by decide +kernel
theorem dX11_isLine_305 : decode cX11_isLine 305 = .ok (.iconst 1, 1) := by decide +kernel
theorem dX11_isLine_306 : decode cX11_isLine 306 = .ok (.goto 4, 3) := by decide +kernel
theorem dX11_isLine_309 : decode cX11_isLine 309 = .ok (.iconst 0, 1) := by decide +kernel
theorem dX11_isLine_310 : decode cX11_isLine 310 = .ok (.ireturn, 1) := by decide +kernel
theorem dX11_isLine_311 : decode cX11_isLine 311 = .ok (.aload_n 0, 1) := by decide +kernel
theorem dX11_isLine_312 : decode cX11_isLine 312 = .ok (.iload_n 1, 1) := by decide +kernel
theorem dX11_isLine_313 : decode cX11_isLine 313 = .ok (.invokevirtual 197, 3) := by decide +kernel
theorem dX11_isLine_316 : decode cX11_isLine 316 = .ok (.ireturn, 1) := by decide +kernel
theorem dX11_isLine_317 : decode cX11_isLine 317 = .ok (.aload_n 0, 1) := by decide +kernel
theorem dX11_isLine_318 : decode cX11_isLine 318 = .ok (.iload_n 1, 1) := by decide +kernel
theorem dX11_isLine_319 : decode cX11_isLine 319 = .ok (.iconst 1, 1) := by decide +kernel
theorem dX11_isLine_320 : decode cX11_isLine 320 = .ok (.iadd, 1) := by decide +kernel
theorem dX11_isLine_321 : decode cX11_isLine 321 = .ok (.iconst 0, 1) := by decide +kernel
theorem dX11_isLine_322 : decode cX11_isLine 322 = .ok (.sipush 500, 3) := by decide +kernel
theorem dX11_isLine_325 : decode cX11_isLine 325 = .ok (.invokevirtual 174, 3) := by decide +kernel
theorem dX11_isLine_328 : decode cX11_isLine 328 = .ok (.ifCond .eq 34, 3) := by decide +kernel
theorem dX11_isLine_331 : decode cX11_isLine 331 = .ok (.aload_n 0, 1) := by decide +kernel
theorem dX11_isLine_332 : decode cX11_isLine 332 = .ok (.iload_n 1, 1) := by decide +kernel
theorem dX11_isLine_333 : decode cX11_isLine 333 = .ok (.iconst 2, 1) := by decide +kernel
theorem dX11_isLine_334 : decode cX11_isLine 334 = .ok (.iadd, 1) := by decide +kernel
theorem dX11_isLine_335 : decode cX11_isLine 335 = .ok (.iconst 0, 1) := by decide +kernel
theorem dX11_isLine_336 : decode cX11_isLine 336 = .ok (.sipush 500, 3) := by decide +kernel
theorem dX11_isLine_339 : decode cX11_isLine 339 = .ok (.invokevirtual 174, 3) := by decide +kernel
theorem dX11_isLine_342 : decode cX11_isLine 342 = .ok (.ifCond .eq 20, 3) := by decide +kernel
theorem dX11_isLine_345 : decode cX11_isLine 345 = .ok (.aload_n 0, 1) := by decide +kernel
theorem dX11_isLine_346 : decode cX11_isLine 346 = .ok (.iload_n 1, 1) := by decide +kernel
theorem dX11_isLine_347 : decode cX11_isLine 347 = .ok (.iconst 3, 1) := by decide +kernel
theorem dX11_isLine_348 : decode cX11_isLine 348 = .ok (.iadd, 1) := by decide +kernel
theorem dX11_isLine_349 : decode cX11_isLine 349 = .ok (.iconst 0, 1) := by decide +kernel
theorem dX11_isLine_350 : decode cX11_isLine 350 = .ok (.bipush 50, 2) := by decide +kernel
theorem dX11_isLine_352 : decode cX11_isLine 352 = .ok (.invokevirtual 174, 3) := by decide +kernel
theorem dX11_isLine_355 : decode cX11_isLine 355 = .ok (.ifCond .eq 7, 3) := by decide +kernel
theorem dX11_isLine_358 : decode cX11_isLine 358 = .ok (.iconst 1, 1) := by decide +kernel
theorem dX11_isLine_359 : decode cX11_isLine 359 = .ok (.goto 4, 3) := by decide +kernel
theorem dX11_isLine_362 : decode cX11_isLine 362 = .ok (.iconst 0, 1) := by decide +kernel
theorem dX11_isLine_363 : decode cX11_isLine 363 = .ok (.ireturn, 1) := by decide +kernel
theorem dX11_isLine_364 : decode cX11_isLine 364 = .ok (.aload_n 0, 1) := by decide +kernel
theorem dX11_isLine_365 : decode cX11_isLine 365 = .ok (.iload_n 1, 1) := by decide +kernel
theorem dX11_isLine_366 : decode cX11_isLine 366 = .ok (.iconst 1, 1) := by decide +kernel
theorem dX11_isLine_367 : decode cX11_isLine 367 = .ok (.iadd, 1) := by decide +kernel
theorem dX11_isLine_368 : decode cX11_isLine 368 = .ok (.iconst 0, 1) := by decide +kernel
theorem dX11_isLine_369 : decode cX11_isLine 369 = .ok (.bipush 99, 2) := by decide +kernel
theorem dX11_isLine_371 : decode cX11_isLine 371 = .ok (.invokevirtual 174, 3) := by decide +kernel
theorem dX11_isLine_374 : decode cX11_isLine 374 = .ok (.ireturn, 1) := by decide +kernel
theorem dX11_isLine_375 : decode cX11_isLine 375 = .ok (.aload_n 0, 1) := by decide +kernel
theorem dX11_isLine_376 : decode cX11_isLine 376 = .ok (.iload_n 1, 1) := by decide +kernel
theorem dX11_isLine_377 : decode cX11_isLine 377 = .ok (.iconst 1, 1) := by decide +kernel
theorem dX11_isLine_378 : decode cX11_isLine 378 = .ok (.iadd, 1) := by decide +kernel
theorem dX11_isLine_379 : decode cX11_isLine 379 = .ok (.iconst 0, 1) := by decide +kernel
theorem dX11_isLine_380 : decode cX11_isLine 380 = .ok (.bipush 40, 2) := by decide +kernel
theorem dX11_isLine_382 : decode cX11_isLine 382 = .ok (.invokevirtual 174, 3) := by decide +kernel
theorem dX11_isLine_385 : decode cX11_isLine 385 = .ok (.ifCond .eq 46, 3) := by decide +kernel
theorem dX11_isLine_388 : decode cX11_isLine 388 = .ok (.aload_n 0, 1) := by decide +kernel
theorem dX11_isLine_389 : decode cX11_isLine 389 = .ok (.iload_n 1, 1) := by decide +kernel
theorem dX11_isLine_390 : decode cX11_isLine 390 = .ok (.iconst 2, 1) := by decide +kernel
theorem dX11_isLine_391 : decode cX11_isLine 391 = .ok (.iadd, 1) := by decide +kernel
theorem dX11_isLine_392 : decode cX11_isLine 392 = .ok (.iconst 0, 1) := by decide +kernel
theorem dX11_isLine_393 : decode cX11_isLine 393 = .ok (.bipush 40, 2) := by decide +kernel
theorem dX11_isLine_395 : decode cX11_isLine 395 = .ok (.invokevirtual 174, 3) := by decide +kernel
theorem dX11_isLine_398 : decode cX11_isLine 398 = .ok (.ifCond .eq 33, 3) := by decide +kernel
theorem dX11_isLine_401 : decode cX11_isLine 401 = .ok (.aload_n 0, 1) := by decide +kernel
theorem dX11_isLine_402 : decode cX11_isLine 402 = .ok (.iload_n 1, 1) := by decide +kernel
theorem dX11_isLine_403 : decode cX11_isLine 403 = .ok (.iconst 3, 1) := by decide +kernel
theorem dX11_isLine_404 : decode cX11_isLine 404 = .ok (.iadd, 1) := by decide +kernel
theorem dX11_isLine_405 : decode cX11_isLine 405 = .ok (.iconst 0, 1) := by decide +kernel
theorem dX11_isLine_406 : decode cX11_isLine 406 = .ok (.bipush 20, 2) := by decide +kernel
theorem dX11_isLine_408 : decode cX11_isLine 408 = .ok (.invokevirtual 174, 3) := by decide +kernel
theorem dX11_isLine_411 : decode cX11_isLine 411 = .ok (.ifCond .eq 20, 3) := by decide +kernel
theorem dX11_isLine_414 : decode cX11_isLine 414 = .ok (.aload_n 0, 1) := by decide +kernel
theorem dX11_isLine_415 : decode cX11_isLine 415 = .ok (.iload_n 1, 1) := by decide +kernel
theorem dX11_isLine_416 : decode cX11_isLine 416 = .ok (.iconst 4, 1) := by decide +kernel
theorem dX11_isLine_417 : decode cX11_isLine 417 = .ok (.iadd, 1) := by decide +kernel
theorem dX11_isLine_418 : decode cX11_isLine 418 = .ok (.iconst 0, 1) := by decide +kernel
theorem dX11_isLine_419 : decode cX11_isLine 419 = .ok (.bipush 40, 2) := by decide +kernel
theorem dX11_isLine_421 : decode cX11_isLine 421 = .ok (.invokevirtual 174, 3) := by decide +kernel
theorem dX11_isLine_424 : decode cX11_isLine 424 = .ok (.ifCond .eq 7, 3) := by decide +kernel
theorem dX11_isLine_427 : decode cX11_isLine 427 = .ok (.iconst 1, 1) := by decide +kernel
theorem dX11_isLine_428 : decode cX11_isLine 428 = .ok (.goto 4, 3) := by decide +kernel
theorem dX11_isLine_431 : decode cX11_isLine 431 = .ok (.iconst 0, 1) := by decide +kernel
theorem dX11_isLine_432 : decode cX11_isLine 432 = .ok (.ireturn, 1) := by decide +kernel
theorem dX11_isLine_433 : decode cX11_isLine 433 = .ok (.aload_n 0, 1) := by decide +kernel
theorem dX11_isLine_434 : decode cX11_isLine 434 = .ok (.iload_n 1, 1) := by decide +kernel
theorem dX11_isLine_435 : decode cX11_isLine 435 = .ok (.iconst 1, 1) := by decide +kernel
theorem dX11_isLine_436 : decode cX11_isLine 436 = .ok (.iadd, 1) := by decide +kernel
theorem dX11_isLine_437 : decode cX11_isLine 437 = .ok (.iconst 0, 1) := by decide +kernel
theorem dX11_isLine_438 : decode cX11_isLine 438 = .ok (.iconst 4, 1) := by decide +kernel
theorem dX11_isLine_439 : decode cX11_isLine 439 = .ok (.invokevirtual 174, 3) := by decide +kernel
theorem dX11_isLine_442 : decode cX11_isLine 442 = .ok (.ifCond .eq 19, 3) := by decide +kernel
theorem dX11_isLine_445 : decode cX11_isLine 445 = .ok (.aload_n 0, 1) := by decide +kernel
theorem dX11_isLine_446 : decode cX11_isLine 446 = .ok (.iload_n 1, 1) := by decide +kernel
theorem dX11_isLine_447 : decode cX11_isLine 447 = .ok (.iconst 2, 1) := by decide +kernel
theorem dX11_isLine_448 : decode cX11_isLine 448 = .ok (.iadd, 1) := by decide +kernel
theorem dX11_isLine_449 : decode cX11_isLine 449 = .ok (.iconst 0, 1) := by decide +kernel
theorem dX11_isLine_450 : decode cX11_isLine 450 = .ok (.iconst 3, 1) := by decide +kernel
theorem dX11_isLine_451 : decode cX11_isLine 451 = .ok (.invokevirtual 174, 3) := by decide +kernel
theorem dX11_isLine_454 : decode cX11_isLine 454 = .ok (.ifCond .eq 7, 3) := by decide +kernel
theorem dX11_isLine_457 : decode cX11_isLine 457 = .ok (.iconst 1, 1) := by decide +kernel
theorem dX11_isLine_458 : decode cX11_isLine 458 = .ok (.goto 4, 3) := by decide +kernel
theorem dX11_isLine_461 : decode cX11_isLine 461 = .ok (.iconst 0, 1) := by decide +kernel
theorem dX11_isLine_462 : decode cX11_isLine 462 = .ok (.ireturn, 1) := by decide +kernel
theorem dX11_isLine_463 : decode cX11_isLine 463 = .ok (.aload_n 0, 1) := by decide +kernel
theorem dX11_isLine_464 : decode cX11_isLine 464 = .ok (.iload_n 1, 1) := by decide +kernel
theorem dX11_isLine_465 : decode cX11_isLine 465 = .ok (.iconst 1, 1) := by decide +kernel
theorem dX11_isLine_466 : decode cX11_isLine 466 = .ok (.iadd, 1) := by decide +kernel
theorem dX11_isLine_467 : decode cX11_isLine 467 = .ok (.iconst 0, 1) := by decide +kernel
theorem dX11_isLine_468 : decode cX11_isLine 468 = .ok (.iconst 4, 1) := by decide +kernel
theorem dX11_isLine_469 : decode cX11_isLine 469 = .ok (.invokevirtual 174, 3) := by decide +kernel
theorem dX11_isLine_472 : decode cX11_isLine 472 = .ok (.ifCond .eq 33, 3) := by decide +kernel
theorem dX11_isLine_475 : decode cX11_isLine 475 = .ok (.aload_n 0, 1) := by decide +kernel
theorem dX11_isLine_476 : decode cX11_isLine 476 = .ok (.iload_n 1, 1) := by decide +kernel
theorem dX11_isLine_477 : decode cX11_isLine 477 = .ok (.iconst 2, 1) := by decide +kernel
theorem dX11_isLine_478 : decode cX11_isLine 478 = .ok (.iadd, 1) := by decide +kernel
theorem dX11_isLine_479 : decode cX11_isLine 479 = .ok (.iconst 0, 1) := by decide +kernel
theorem dX11_isLine_480 : decode cX11_isLine 480 = .ok (.bipush 23, 2) := by decide +kernel
theorem dX11_isLine_482 : decode cX11_isLine 482 = .ok (.invokevirtual 174, 3) := by decide +kernel
theorem dX11_isLine_485 : decode cX11_isLine 485 = .ok (.ifCond .eq 20, 3) := by decide +kernel
theorem dX11_isLine_488 : decode cX11_isLine 488 = .ok (.aload_n 0, 1) := by decide +kernel
theorem dX11_isLine_489 : decode cX11_isLine 489 = .ok (.iload_n 1, 1) := by decide +kernel
theorem dX11_isLine_490 : decode cX11_isLine 490 = .ok (.iconst 3, 1) := by decide +kernel
theorem dX11_isLine_491 : decode cX11_isLine 491 = .ok (.iadd, 1) := by decide +kernel
theorem dX11_isLine_492 : decode cX11_isLine 492 = .ok (.iconst 0, 1) := by decide +kernel
theorem dX11_isLine_493 : decode cX11_isLine 493 = .ok (.bipush 23, 2) := by decide +kernel
theorem dX11_isLine_495 : decode cX11_isLine 495 = .ok (.invokevirtual 174, 3) := by decide +kernel
theorem dX11_isLine_498 : decode cX11_isLine 498 = .ok (.ifCond .eq 7, 3) := by decide +kernel
theorem dX11_isLine_501 : decode cX11_isLine 501 = .ok (.iconst 1, 1) := by decide +kernel
theorem dX11_isLine_502 : decode cX11_isLine 502 = .ok (.goto 4, 3) := by decide +kernel
theorem dX11_isLine_505 : decode cX11_isLine 505 = .ok (.iconst 0, 1) := by decide +kernel
theorem dX11_isLine_506 : decode cX11_isLine 506 = .ok (.ireturn, 1) := by decide +kernel
theorem dX11_isLine_507 : decode cX11_isLine 507 = .ok (.aload_n 0, 1) := by decide +kernel
theorem dX11_isLine_508 : decode cX11_isLine 508 = .ok (.iload_n 1, 1) := by decide +kernel
theorem dX11_isLine_509 : decode cX11_isLine 509 = .ok (.iconst 1, 1) := by decide +kernel
theorem dX11_isLine_510 : decode cX11_isLine 510 = .ok (.iadd, 1) := by decide +kernel
theorem dX11_isLine_511 : decode cX11_isLine 511 = .ok (.iconst 0, 1) := by decide +kernel
theorem dX11_isLine_512 : decode cX11_isLine 512 = .ok (.bipush 23, 2) := by decide +kernel
theorem dX11_isLine_514 : decode cX11_isLine 514 = .ok (.invokevirtual 174, 3) := by decide +kernel
theorem dX11_isLine_517 : decode cX11_isLine 517 = .ok (.ifCond .eq 20, 3) := by decide +kernel
theorem dX11_isLine_520 : decode cX11_isLine 520 = .ok (.aload_n 0, 1) := by decide +kernel
theorem dX11_isLine_521 : decode cX11_isLine 521 = .ok (.iload_n 1, 1) := by decide +kernel
theorem dX11_isLine_522 : decode cX11_isLine 522 = .ok (.iconst 2, 1) := by decide +kernel
theorem dX11_isLine_523 : decode cX11_isLine 523 = .ok (.iadd, 1) := by decide +kernel
theorem dX11_isLine_524 : decode cX11_isLine 524 = .ok (.iconst 0, 1) := by decide +kernel
theorem dX11_isLine_525 : decode cX11_isLine 525 = .ok (.bipush 23, 2) := by decide +kernel
theorem dX11_isLine_527 : decode cX11_isLine 527 = .ok (.invokevirtual 174, 3) := by decide +kernel
theorem dX11_isLine_530 : decode cX11_isLine 530 = .ok (.ifCond .eq 7, 3) := by decide +kernel
theorem dX11_isLine_533 : decode cX11_isLine 533 = .ok (.iconst 1, 1) := by decide +kernel
theorem dX11_isLine_534 : decode cX11_isLine 534 = .ok (.goto 4, 3) := by decide +kernel
theorem dX11_isLine_537 : decode cX11_isLine 537 = .ok (.iconst 0, 1) := by decide +kernel
theorem dX11_isLine_538 : decode cX11_isLine 538 = .ok (.ireturn, 1) := by decide +kernel
theorem dX11_isLine_539 : decode cX11_isLine 539 = .ok (.aload_n 0, 1) := by decide +kernel
theorem dX11_isLine_540 : decode cX11_isLine 540 = .ok (.iload_n 1, 1) := by decide +kernel
theorem dX11_isLine_541 : decode cX11_isLine 541 = .ok (.iconst 1, 1) := by decide +kernel
theorem dX11_isLine_542 : decode cX11_isLine 542 = .ok (.iadd, 1) := by decide +kernel
theorem dX11_isLine_543 : decode cX11_isLine 543 = .ok (.iconst 0, 1) := by decide +kernel
theorem dX11_isLine_544 : decode cX11_isLine 544 = .ok (.iconst 4, 1) := by decide +kernel
theorem dX11_isLine_545 : decode cX11_isLine 545 = .ok (.invokevirtual 174, 3) := by decide +kernel
theorem dX11_isLine_548 : decode cX11_isLine 548 = .ok (.ireturn, 1) := by decide +kernel
theorem dX11_isLine_549 : decode cX11_isLine 549 = .ok (.aload_n 0, 1) := by decide +kernel
theorem dX11_isLine_550 : decode cX11_isLine 550 = .ok (.invokevirtual 170, 3) := by decide +kernel
theorem dX11_isLine_553 : decode cX11_isLine 553 = .ok (.ireturn, 1) := by decide +kernel
theorem dX11_isRead_0 : decode cX11_isRead 0 = .ok (.aload_n 0, 1) := by decide +kernel
theorem dX11_isRead_1 : decode cX11_isRead 1 = .ok (.iconst 0, 1) := by decide +kernel
theorem dX11_isRead_2 : decode cX11_isRead 2 = .ok (.putfield 136, 3) := by decide +kernel
theorem dX11_isRead_5 : decode cX11_isRead 5 = .ok (.aload_n 0, 1) := by decide +kernel
theorem dX11_isRead_6 : decode cX11_isRead 6 = .ok (.iconst 0, 1) := by decide +kernel
theorem dX11_isRead_7 : decode cX11_isRead 7 = .ok (.putfield 201, 3) := by decide +kernel
theorem dX11_isRead_10 : decode cX11_isRead 10 = .ok (.iconst 1, 1) := by decide +kernel
theorem dX11_isRead_11 : decode cX11_isRead 11 = .ok (.istore_n 1, 1) := by decide +kernel
theorem dX11_isRead_12 : decode cX11_isRead 12 = .ok (.iload_n 1, 1) := by decide +kernel
theorem dX11_isRead_13 : decode cX11_isRead 13 = .ok (.ifCond .eq 62, 3) := by decide +kernel
theorem dX11_isRead_16 : decode cX11_isRead 16 = .ok (.aload_n 0, 1) := by decide +kernel
theorem dX11_isRead_17 : decode cX11_isRead 17 = .ok (.bipush 6, 2) := by decide +kernel
theorem dX11_isRead_19 : decode cX11_isRead 19 = .ok (.aload_n 0, 1) := by decide +kernel
theorem dX11_isRead_20 : decode cX11_isRead 20 = .ok (.getfield 201, 3) := by decide +kernel
theorem dX11_isRead_23 : decode cX11_isRead 23 = .ok (.imul, 1) := by decide +kernel
theorem dX11_isRead_24 : decode cX11_isRead 24 = .ok (.invokevirtual 204, 3) := by decide +kernel
theorem dX11_isRead_27 : decode cX11_isRead 27 = .ok (.ifCond .ne 5, 3) := by decide +kernel
theorem dX11_isRead_30 : decode cX11_isRead 30 = .ok (.iconst 0, 1) := by decide +kernel
theorem dX11_isRead_31 : decode cX11_isRead 31 = .ok (.ireturn, 1) := by decide +kernel
theorem dX11_isRead_32 : decode cX11_isRead 32 = .ok (.aload_n 0, 1) := by decide +kernel
theorem dX11_isRead_33 : decode cX11_isRead 33 = .ok (.dup, 1) := by decide +kernel
theorem dX11_isRead_34 : decode cX11_isRead 34 = .ok (.getfield 201, 3) := by decide +kernel
theorem dX11_isRead_37 : decode cX11_isRead 37 = .ok (.iconst 1, 1) := by decide +kernel
theorem dX11_isRead_38 : decode cX11_isRead 38 = .ok (.iadd, 1) := by decide +kernel
theorem dX11_isRead_39 : decode cX11_isRead 39 = .ok (.putfield 201, 3) := by decide +kernel
theorem dX11_isRead_42 : decode cX11_isRead 42 = .ok (.aload_n 0, 1) := by decide +kernel
theorem dX11_isRead_43 : decode cX11_isRead 43 = .ok (.invokevirtual 167, 3) := by decide +kernel
theorem dX11_isRead_46 : decode cX11_isRead 46 = .ok (.aload_n 0, 1) := by decide +kernel
theorem dX11_isRead_47 : decode cX11_isRead 47 = .ok (.getfield 150, 3) := by decide +kernel
theorem dX11_isRead_50 : decode cX11_isRead 50 = .ok (.ldc2_w 162, 3) := by decide +kernel
theorem dX11_isRead_53 : decode cX11_isRead 53 = .ok (.lcmp, 1) := by decide +kernel
theorem dX11_isRead_54 : decode cX11_isRead 54 = .ok (.ifCond .ne 16, 3) := by decide +kernel
theorem dX11_isRead_57 : decode cX11_isRead 57 = .ok (.aload_n 0, 1) := by decide +kernel
theorem dX11_isRead_58 : decode cX11_isRead 58 = .ok (.getfield 201, 3) := by decide +kernel
theorem dX11_isRead_61 : decode cX11_isRead 61 = .ok (.bipush 8, 2) := by decide +kernel
theorem dX11_isRead_63 : decode cX11_isRead 63 = .ok (.if_icmp .ge 7, 3) := by decide +kernel
theorem dX11_isRead_66 : decode cX11_isRead 66 = .ok (.iconst 1, 1) := by decide +kernel
theorem dX11_isRead_67 : decode cX11_isRead 67 = .ok (.goto 4, 3) := by decide +kernel
theorem dX11_isRead_70 : decode cX11_isRead 70 = .ok (.iconst 0, 1) := by decide +kernel
theorem dX11_isRead_71 : decode cX11_isRead 71 = .ok (.istore_n 1, 1) := by decide +kernel
theorem dX11_isRead_72 : decode cX11_isRead 72 = .ok (.goto (-60), 3) := by decide +kernel
theorem dX11_isRead_75 : decode cX11_isRead 75 = .ok (.aload_n 0, 1) := by decide +kernel
theorem dX11_isRead_76 : decode cX11_isRead 76 = .ok (.getfield 150, 3) := by decide +kernel
theorem dX11_isRead_79 : decode cX11_isRead 79 = .ok (.ldc2_w 148, 3) := by decide +kernel
theorem dX11_isRead_82 : decode cX11_isRead 82 = .ok (.lcmp, 1) := by decide +kernel
theorem dX11_isRead_83 : decode cX11_isRead 83 = .ok (.ifCond .eq 10, 3) := by decide +kernel
theorem dX11_isRead_86 : decode cX11_isRead 86 = .ok (.aload_n 0, 1) := by decide +kernel
theorem dX11_isRead_87 : decode cX11_isRead 87 = .ok (.invokevirtual 170, 3) := by decide +kernel
theorem dX11_isRead_90 : decode cX11_isRead 90 = .ok (.ifCond .eq 7, 3) := by decide +kernel
theorem dX11_isRead_93 : decode cX11_isRead 93 = .ok (.iconst 1, 1) := by decide +kernel
theorem dX11_isRead_94 : decode cX11_isRead 94 = .ok (.goto 4, 3) := by decide +kernel
theorem dX11_isRead_97 : decode cX11_isRead 97 = .ok (.iconst 0, 1) := by decide +kernel
theorem dX11_isRead_98 : decode cX11_isRead 98 = .ok (.ireturn, 1) := by decide +kernel
theorem dX11_fault_0 : decode cX11_fault 0 = .ok (.aload_n 0, 1) := by decide +kernel
theorem dX11_fault_1 : decode cX11_fault 1 = .ok (.invokevirtual 207, 3) := by decide +kernel
theorem dX11_fault_4 : decode cX11_fault 4 = .ok (.ifCond .eq 7, 3) := by decide +kernel
theorem dX11_fault_7 : decode cX11_fault 7 = .ok (.iconst (-1), 1) := by decide +kernel
theorem dX11_fault_8 : decode cX11_fault 8 = .ok (.goto 7, 3) := by decide +kernel
theorem dX11_fault_11 : decode cX11_fault 11 = .ok (.aload_n 0, 1) := by decide +kernel
theorem dX11_fault_12 : decode cX11_fault 12 = .ok (.getfield 164, 3) := by decide +kernel
theorem dX11_fault_15 : decode cX11_fault 15 = .ok (.ireturn, 1) := by decide +kernel
theorem dX11_hoursOf_0 : decode cX11_hoursOf 0 = .ok (.iconst 0, 1) := by decide +kernel
theorem dX11_hoursOf_1 : decode cX11_hoursOf 1 = .ok (.istore_n 2, 1) := by decide +kernel
theorem dX11_hoursOf_2 : decode cX11_hoursOf 2 = .ok (.iload_n 0, 1) := by decide +kernel
theorem dX11_hoursOf_3 : decode cX11_hoursOf 3 = .ok (.istore_n 3, 1) := by decide +kernel
theorem dX11_hoursOf_4 : decode cX11_hoursOf 4 = .ok (.iload_n 3, 1) := by decide +kernel
theorem dX11_hoursOf_5 : decode cX11_hoursOf 5 = .ok (.iload_n 1, 1) := by decide +kernel
theorem dX11_hoursOf_6 : decode cX11_hoursOf 6 = .ok (.if_icmp .eq 19, 3) := by decide +kernel
theorem dX11_hoursOf_9 : decode cX11_hoursOf 9 = .ok (.iload_n 2, 1) := by decide +kernel
theorem dX11_hoursOf_10 : decode cX11_hoursOf 10 = .ok (.iconst 1, 1) := by decide +kernel
theorem dX11_hoursOf_11 : decode cX11_hoursOf 11 = .ok (.iload_n 3, 1) := by decide +kernel
theorem dX11_hoursOf_12 : decode cX11_hoursOf 12 = .ok (.ishl, 1) := by decide +kernel
theorem dX11_hoursOf_13 : decode cX11_hoursOf 13 = .ok (.ior, 1) := by decide +kernel
theorem dX11_hoursOf_14 : decode cX11_hoursOf 14 = .ok (.istore_n 2, 1) := by decide +kernel
theorem dX11_hoursOf_15 : decode cX11_hoursOf 15 = .ok (.iload_n 3, 1) := by decide +kernel
theorem dX11_hoursOf_16 : decode cX11_hoursOf 16 = .ok (.iconst 1, 1) := by decide +kernel
theorem dX11_hoursOf_17 : decode cX11_hoursOf 17 = .ok (.iadd, 1) := by decide +kernel
theorem dX11_hoursOf_18 : decode cX11_hoursOf 18 = .ok (.bipush 24, 2) := by decide +kernel
theorem dX11_hoursOf_20 : decode cX11_hoursOf 20 = .ok (.irem, 1) := by decide +kernel
theorem dX11_hoursOf_21 : decode cX11_hoursOf 21 = .ok (.istore_n 3, 1) := by decide +kernel
theorem dX11_hoursOf_22 : decode cX11_hoursOf 22 = .ok (.goto (-18), 3) := by decide +kernel
theorem dX11_hoursOf_25 : decode cX11_hoursOf 25 = .ok (.iload_n 2, 1) := by decide +kernel
theorem dX11_hoursOf_26 : decode cX11_hoursOf 26 = .ok (.ireturn, 1) := by decide +kernel
theorem dX11_doLine_0 : decode cX11_doLine 0 = .ok (.aload_n 0, 1) := by decide +kernel
theorem dX11_doLine_1 : decode cX11_doLine 1 = .ok (.getfield 57, 3) := by decide +kernel
theorem dX11_doLine_4 : decode cX11_doLine 4 = .ok (.iload_n 1, 1) := by decide +kernel
theorem dX11_doLine_5 : decode cX11_doLine 5 = .ok (.iconst 1, 1) := by decide +kernel
theorem dX11_doLine_6 : decode cX11_doLine 6 = .ok (.iadd, 1) := by decide +kernel
theorem dX11_doLine_7 : decode cX11_doLine 7 = .ok (.iaload, 1) := by decide +kernel
theorem dX11_doLine_8 : decode cX11_doLine 8 = .ok (.istore_n 2, 1) := by decide +kernel
theorem dX11_doLine_9 : decode cX11_doLine 9 = .ok (.aload_n 0, 1) := by decide +kernel
theorem dX11_doLine_10 : decode cX11_doLine 10 = .ok (.getfield 57, 3) := by decide +kernel
theorem dX11_doLine_13 : decode cX11_doLine 13 = .ok (.iload_n 1, 1) := by decide +kernel
theorem dX11_doLine_14 : decode cX11_doLine 14 = .ok (.iconst 2, 1) := by decide +kernel
theorem dX11_doLine_15 : decode cX11_doLine 15 = .ok (.iadd, 1) := by decide +kernel
theorem dX11_doLine_16 : decode cX11_doLine 16 = .ok (.iaload, 1) := by decide +kernel
theorem dX11_doLine_17 : decode cX11_doLine 17 = .ok (.istore_n 3, 1) := by decide +kernel
theorem dX11_doLine_18 : decode cX11_doLine 18 = .ok (.aload_n 0, 1) := by decide +kernel
theorem dX11_doLine_19 : decode cX11_doLine 19 = .ok (.getfield 57, 3) := by decide +kernel
theorem dX11_doLine_22 : decode cX11_doLine 22 = .ok (.iload_n 1, 1) := by decide +kernel
theorem dX11_doLine_23 : decode cX11_doLine 23 = .ok (.iaload, 1) := by decide +kernel
theorem dX11_doLine_24 : decode cX11_doLine 24 = .ok (.tableswitch 197 0 4 #[36, 88, 127, 152, 160], 36) := by decide +kernel
theorem dX11_doLine_60 : decode cX11_doLine 60 = .ok (.aload_n 0, 1) := by decide +kernel
theorem dX11_doLine_61 : decode cX11_doLine 61 = .ok (.aload_n 0, 1) := by decide +kernel
theorem dX11_doLine_62 : decode cX11_doLine 62 = .ok (.getfield 124, 3) := by decide +kernel
theorem dX11_doLine_65 : decode cX11_doLine 65 = .ok (.iconst 1, 1) := by decide +kernel
theorem dX11_doLine_66 : decode cX11_doLine 66 = .ok (.iload_n 2, 1) := by decide +kernel
theorem dX11_doLine_67 : decode cX11_doLine 67 = .ok (.ishl, 1) := by decide +kernel
theorem dX11_doLine_68 : decode cX11_doLine 68 = .ok (.ior, 1) := by decide +kernel
theorem dX11_doLine_69 : decode cX11_doLine 69 = .ok (.putfield 124, 3) := by decide +kernel
theorem dX11_doLine_72 : decode cX11_doLine 72 = .ok (.iconst 0, 1) := by decide +kernel
theorem dX11_doLine_73 : decode cX11_doLine 73 = .ok (.istore 4, 2) := by decide +kernel
theorem dX11_doLine_75 : decode cX11_doLine 75 = .ok (.iload 4, 2) := by decide +kernel
theorem dX11_doLine_77 : decode cX11_doLine 77 = .ok (.iconst 4, 1) := by decide +kernel
theorem dX11_doLine_78 : decode cX11_doLine 78 = .ok (.if_icmp .ge 31, 3) := by decide +kernel
theorem dX11_doLine_81 : decode cX11_doLine 81 = .ok (.aload_n 0, 1) := by decide +kernel
theorem dX11_doLine_82 : decode cX11_doLine 82 = .ok (.getfield 7, 3) := by decide +kernel
theorem dX11_doLine_85 : decode cX11_doLine 85 = .ok (.iconst 4, 1) := by decide +kernel
theorem dX11_doLine_86 : decode cX11_doLine 86 = .ok (.iload_n 2, 1) := by decide +kernel
theorem dX11_doLine_87 : decode cX11_doLine 87 = .ok (.imul, 1) := by decide +kernel
theorem dX11_doLine_88 : decode cX11_doLine 88 = .ok (.iload 4, 2) := by decide +kernel
theorem dX11_doLine_90 : decode cX11_doLine 90 = .ok (.iadd, 1) := by decide +kernel
theorem dX11_doLine_91 : decode cX11_doLine 91 = .ok (.aload_n 0, 1) := by decide +kernel
theorem dX11_doLine_92 : decode cX11_doLine 92 = .ok (.getfield 57, 3) := by decide +kernel
theorem dX11_doLine_95 : decode cX11_doLine 95 = .ok (.iload_n 1, 1) := by decide +kernel
theorem dX11_doLine_96 : decode cX11_doLine 96 = .ok (.iconst 2, 1) := by decide +kernel
theorem dX11_doLine_97 : decode cX11_doLine 97 = .ok (.iadd, 1) := by decide +kernel
theorem dX11_doLine_98 : decode cX11_doLine 98 = .ok (.iload 4, 2) := by decide +kernel
theorem dX11_doLine_100 : decode cX11_doLine 100 = .ok (.iadd, 1) := by decide +kernel
theorem dX11_doLine_101 : decode cX11_doLine 101 = .ok (.iaload, 1) := by decide +kernel
theorem dX11_doLine_102 : decode cX11_doLine 102 = .ok (.iastore, 1) := by decide +kernel
theorem dX11_doLine_103 : decode cX11_doLine 103 = .ok (.iinc 4 1, 3) := by decide +kernel
theorem dX11_doLine_106 : decode cX11_doLine 106 = .ok (.goto (-31), 3) := by decide +kernel
theorem dX11_doLine_109 : decode cX11_doLine 109 = .ok (.goto 119, 3) := by decide +kernel
theorem dX11_doLine_112 : decode cX11_doLine 112 = .ok (.aload_n 0, 1) := by decide +kernel
theorem dX11_doLine_113 : decode cX11_doLine 113 = .ok (.getfield 22, 3) := by decide +kernel
theorem dX11_doLine_116 : decode cX11_doLine 116 = .ok (.iconst 5, 1) := by decide +kernel
theorem dX11_doLine_117 : decode cX11_doLine 117 = .ok (.iload_n 2, 1) := by decide +kernel
theorem dX11_doLine_118 : decode cX11_doLine 118 = .ok (.imul, 1) := by decide +kernel
theorem dX11_doLine_119 : decode cX11_doLine 119 = .ok (.iload_n 3, 1) := by decide +kernel
theorem dX11_doLine_120 : decode cX11_doLine 120 = .ok (.iadd, 1) := by decide +kernel
theorem dX11_doLine_121 : decode cX11_doLine 121 = .ok (.aload_n 0, 1) := by decide +kernel
theorem dX11_doLine_122 : decode cX11_doLine 122 = .ok (.getfield 57, 3) := by decide +kernel
theorem dX11_doLine_125 : decode cX11_doLine 125 = .ok (.iload_n 1, 1) := by decide +kernel
theorem dX11_doLine_126 : decode cX11_doLine 126 = .ok (.iconst 3, 1) := by decide +kernel
theorem dX11_doLine_127 : decode cX11_doLine 127 = .ok (.iadd, 1) := by decide +kernel
theorem dX11_doLine_128 : decode cX11_doLine 128 = .ok (.iaload, 1) := by decide +kernel
theorem dX11_doLine_129 : decode cX11_doLine 129 = .ok (.iastore, 1) := by decide +kernel
theorem dX11_doLine_130 : decode cX11_doLine 130 = .ok (.aload_n 0, 1) := by decide +kernel
theorem dX11_doLine_131 : decode cX11_doLine 131 = .ok (.getfield 22, 3) := by decide +kernel
theorem dX11_doLine_134 : decode cX11_doLine 134 = .ok (.iconst 5, 1) := by decide +kernel
theorem dX11_doLine_135 : decode cX11_doLine 135 = .ok (.iload_n 3, 1) := by decide +kernel
theorem dX11_doLine_136 : decode cX11_doLine 136 = .ok (.imul, 1) := by decide +kernel
theorem dX11_doLine_137 : decode cX11_doLine 137 = .ok (.iload_n 2, 1) := by decide +kernel
theorem dX11_doLine_138 : decode cX11_doLine 138 = .ok (.iadd, 1) := by decide +kernel
theorem dX11_doLine_139 : decode cX11_doLine 139 = .ok (.aload_n 0, 1) := by decide +kernel
theorem dX11_doLine_140 : decode cX11_doLine 140 = .ok (.getfield 57, 3) := by decide +kernel
theorem dX11_doLine_143 : decode cX11_doLine 143 = .ok (.iload_n 1, 1) := by decide +kernel
theorem dX11_doLine_144 : decode cX11_doLine 144 = .ok (.iconst 3, 1) := by decide +kernel
theorem dX11_doLine_145 : decode cX11_doLine 145 = .ok (.iadd, 1) := by decide +kernel
theorem dX11_doLine_146 : decode cX11_doLine 146 = .ok (.iaload, 1) := by decide +kernel
theorem dX11_doLine_147 : decode cX11_doLine 147 = .ok (.iastore, 1) := by decide +kernel
theorem dX11_doLine_148 : decode cX11_doLine 148 = .ok (.goto 80, 3) := by decide +kernel
theorem dX11_doLine_151 : decode cX11_doLine 151 = .ok (.aload_n 0, 1) := by decide +kernel
theorem dX11_doLine_152 : decode cX11_doLine 152 = .ok (.iload_n 2, 1) := by decide +kernel
theorem dX11_doLine_153 : decode cX11_doLine 153 = .ok (.putfield 25, 3) := by decide +kernel
theorem dX11_doLine_156 : decode cX11_doLine 156 = .ok (.aload_n 0, 1) := by decide +kernel
theorem dX11_doLine_157 : decode cX11_doLine 157 = .ok (.iload_n 3, 1) := by decide +kernel
theorem dX11_doLine_158 : decode cX11_doLine 158 = .ok (.putfield 29, 3) := by decide +kernel
theorem dX11_doLine_161 : decode cX11_doLine 161 = .ok (.aload_n 0, 1) := by decide +kernel
theorem dX11_doLine_162 : decode cX11_doLine 162 = .ok (.aload_n 0, 1) := by decide +kernel
theorem dX11_doLine_163 : decode cX11_doLine 163 = .ok (.getfield 57, 3) := by decide +kernel
theorem dX11_doLine_166 : decode cX11_doLine 166 = .ok (.iload_n 1, 1) := by decide +kernel
theorem dX11_doLine_167 : decode cX11_doLine 167 = .ok (.iconst 3, 1) := by decide +kernel
theorem dX11_doLine_168 : decode cX11_doLine 168 = .ok (.iadd, 1) := by decide +kernel
theorem dX11_doLine_169 : decode cX11_doLine 169 = .ok (.iaload, 1) := by decide +kernel
theorem dX11_doLine_170 : decode cX11_doLine 170 = .ok (.putfield 32, 3) := by decide +kernel
theorem dX11_doLine_173 : decode cX11_doLine 173 = .ok (.goto 55, 3) := by decide +kernel
theorem dX11_doLine_176 : decode cX11_doLine 176 = .ok (.aload_n 0, 1) := by decide +kernel
theorem dX11_doLine_177 : decode cX11_doLine 177 = .ok (.iload_n 2, 1) := by decide +kernel
theorem dX11_doLine_178 : decode cX11_doLine 178 = .ok (.putfield 35, 3) := by decide +kernel
theorem dX11_doLine_181 : decode cX11_doLine 181 = .ok (.goto 47, 3) := by decide +kernel
theorem dX11_doLine_184 : decode cX11_doLine 184 = .ok (.aload_n 0, 1) := by decide +kernel
theorem dX11_doLine_185 : decode cX11_doLine 185 = .ok (.iload_n 2, 1) := by decide +kernel
theorem dX11_doLine_186 : decode cX11_doLine 186 = .ok (.putfield 38, 3) := by decide +kernel
theorem dX11_doLine_189 : decode cX11_doLine 189 = .ok (.aload_n 0, 1) := by decide +kernel
theorem dX11_doLine_190 : decode cX11_doLine 190 = .ok (.iload_n 3, 1) := by decide +kernel
theorem dX11_doLine_191 : decode cX11_doLine 191 = .ok (.putfield 41, 3) := by decide +kernel
theorem dX11_doLine_194 : decode cX11_doLine 194 = .ok (.aload_n 0, 1) := by decide +kernel
theorem dX11_doLine_195 : decode cX11_doLine 195 = .ok (.aload_n 0, 1) := by decide +kernel
theorem dX11_doLine_196 : decode cX11_doLine 196 = .ok (.getfield 57, 3) := by decide +kernel
theorem dX11_doLine_199 : decode cX11_doLine 199 = .ok (.iload_n 1, 1) := by decide +kernel
theorem dX11_doLine_200 : decode cX11_doLine 200 = .ok (.iconst 3, 1) := by decide +kernel
theorem dX11_doLine_201 : decode cX11_doLine 201 = .ok (.iadd, 1) := by decide +kernel
theorem dX11_doLine_202 : decode cX11_doLine 202 = .ok (.iaload, 1) := by decide +kernel
theorem dX11_doLine_203 : decode cX11_doLine 203 = .ok (.putfield 44, 3) := by decide +kernel
theorem dX11_doLine_206 : decode cX11_doLine 206 = .ok (.aload_n 0, 1) := by decide +kernel
theorem dX11_doLine_207 : decode cX11_doLine 207 = .ok (.aload_n 0, 1) := by decide +kernel
theorem dX11_doLine_208 : decode cX11_doLine 208 = .ok (.getfield 57, 3) := by decide +kernel
theorem dX11_doLine_211 : decode cX11_doLine 211 = .ok (.iload_n 1, 1) := by decide +kernel
theorem dX11_doLine_212 : decode cX11_doLine 212 = .ok (.iconst 4, 1) := by decide +kernel
theorem dX11_doLine_213 : decode cX11_doLine 213 = .ok (.iadd, 1) := by decide +kernel
theorem dX11_doLine_214 : decode cX11_doLine 214 = .ok (.iaload, 1) := by decide +kernel
theorem dX11_doLine_215 : decode cX11_doLine 215 = .ok (.putfield 47, 3) := by decide +kernel
theorem dX11_doLine_218 : decode cX11_doLine 218 = .ok (.goto 10, 3) := by decide +kernel
theorem dX11_doLine_221 : decode cX11_doLine 221 = .ok (.aload_n 0, 1) := by decide +kernel
theorem dX11_doLine_222 : decode cX11_doLine 222 = .ok (.iload_n 1, 1) := by decide +kernel
theorem dX11_doLine_223 : decode cX11_doLine 223 = .ok (.iload_n 2, 1) := by decide +kernel
theorem dX11_doLine_224 : decode cX11_doLine 224 = .ok (.iload_n 3, 1) := by decide +kernel
theorem dX11_doLine_225 : decode cX11_doLine 225 = .ok (.invokevirtual 210, 3) := by decide +kernel
theorem dX11_doLine_228 : decode cX11_doLine 228 = .ok (.return_, 1) := by decide +kernel
theorem dX11_doHours_0 : decode cX11_doHours 0 = .ok (.aload_n 0, 1) := by decide +kernel
theorem dX11_doHours_1 : decode cX11_doHours 1 = .ok (.getfield 57, 3) := by decide +kernel
theorem dX11_doHours_4 : decode cX11_doHours 4 = .ok (.iload_n 1, 1) := by decide +kernel
theorem dX11_doHours_5 : decode cX11_doHours 5 = .ok (.iaload, 1) := by decide +kernel
theorem dX11_doHours_6 : decode cX11_doHours 6 = .ok (.iconst 5, 1) := by decide +kernel
theorem dX11_doHours_7 : decode cX11_doHours 7 = .ok (.if_icmp .ne 13, 3) := by decide +kernel
theorem dX11_doHours_10 : decode cX11_doHours 10 = .ok (.aload_n 0, 1) := by decide +kernel
theorem dX11_doHours_11 : decode cX11_doHours 11 = .ok (.getfield 13, 3) := by decide +kernel
theorem dX11_doHours_14 : decode cX11_doHours 14 = .ok (.iload_n 2, 1) := by decide +kernel
theorem dX11_doHours_15 : decode cX11_doHours 15 = .ok (.iload_n 3, 1) := by decide +kernel
theorem dX11_doHours_16 : decode cX11_doHours 16 = .ok (.iastore, 1) := by decide +kernel
theorem dX11_doHours_17 : decode cX11_doHours 17 = .ok (.goto 114, 3) := by decide +kernel
theorem dX11_doHours_20 : decode cX11_doHours 20 = .ok (.aload_n 0, 1) := by decide +kernel
theorem dX11_doHours_21 : decode cX11_doHours 21 = .ok (.getfield 57, 3) := by decide +kernel
theorem dX11_doHours_24 : decode cX11_doHours 24 = .ok (.iload_n 1, 1) := by decide +kernel
theorem dX11_doHours_25 : decode cX11_doHours 25 = .ok (.iaload, 1) := by decide +kernel
theorem dX11_doHours_26 : decode cX11_doHours 26 = .ok (.bipush 6, 2) := by decide +kernel
theorem dX11_doHours_28 : decode cX11_doHours 28 = .ok (.if_icmp .ne 24, 3) := by decide +kernel
theorem dX11_doHours_31 : decode cX11_doHours 31 = .ok (.aload_n 0, 1) := by decide +kernel
theorem dX11_doHours_32 : decode cX11_doHours 32 = .ok (.getfield 16, 3) := by decide +kernel
theorem dX11_doHours_35 : decode cX11_doHours 35 = .ok (.iload_n 2, 1) := by decide +kernel
theorem dX11_doHours_36 : decode cX11_doHours 36 = .ok (.iload_n 3, 1) := by decide +kernel
theorem dX11_doHours_37 : decode cX11_doHours 37 = .ok (.aload_n 0, 1) := by decide +kernel
theorem dX11_doHours_38 : decode cX11_doHours 38 = .ok (.getfield 57, 3) := by decide +kernel
theorem dX11_doHours_41 : decode cX11_doHours 41 = .ok (.iload_n 1, 1) := by decide +kernel
theorem dX11_doHours_42 : decode cX11_doHours 42 = .ok (.iconst 3, 1) := by decide +kernel
theorem dX11_doHours_43 : decode cX11_doHours 43 = .ok (.iadd, 1) := by decide +kernel
theorem dX11_doHours_44 : decode cX11_doHours 44 = .ok (.iaload, 1) := by decide +kernel
theorem dX11_doHours_45 : decode cX11_doHours 45 = .ok (.invokestatic 214, 3) := by decide +kernel
theorem dX11_doHours_48 : decode cX11_doHours 48 = .ok (.iastore, 1) := by decide +kernel
theorem dX11_doHours_49 : decode cX11_doHours 49 = .ok (.goto 82, 3) := by decide +kernel
theorem dX11_doHours_52 : decode cX11_doHours 52 = .ok (.aload_n 0, 1) := by decide +kernel
theorem dX11_doHours_53 : decode cX11_doHours 53 = .ok (.getfield 57, 3) := by decide +kernel
theorem dX11_doHours_56 : decode cX11_doHours 56 = .ok (.iload_n 1, 1) := by decide +kernel
theorem dX11_doHours_57 : decode cX11_doHours 57 = .ok (.iaload, 1) := by decide +kernel
theorem dX11_doHours_58 : decode cX11_doHours 58 = .ok (.bipush 7, 2) := by decide +kernel
theorem dX11_doHours_60 : decode cX11_doHours 60 = .ok (.if_icmp .ne 24, 3) := by decide +kernel
theorem dX11_doHours_63 : decode cX11_doHours 63 = .ok (.aload_n 0, 1) := by decide +kernel
theorem dX11_doHours_64 : decode cX11_doHours 64 = .ok (.getfield 19, 3) := by decide +kernel
theorem dX11_doHours_67 : decode cX11_doHours 67 = .ok (.iload_n 2, 1) := by decide +kernel
theorem dX11_doHours_68 : decode cX11_doHours 68 = .ok (.iload_n 3, 1) := by decide +kernel
theorem dX11_doHours_69 : decode cX11_doHours 69 = .ok (.aload_n 0, 1) := by decide +kernel
theorem dX11_doHours_70 : decode cX11_doHours 70 = .ok (.getfield 57, 3) := by decide +kernel
theorem dX11_doHours_73 : decode cX11_doHours 73 = .ok (.iload_n 1, 1) := by decide +kernel
theorem dX11_doHours_74 : decode cX11_doHours 74 = .ok (.iconst 3, 1) := by decide +kernel
theorem dX11_doHours_75 : decode cX11_doHours 75 = .ok (.iadd, 1) := by decide +kernel
theorem dX11_doHours_76 : decode cX11_doHours 76 = .ok (.iaload, 1) := by decide +kernel
theorem dX11_doHours_77 : decode cX11_doHours 77 = .ok (.invokestatic 214, 3) := by decide +kernel
theorem dX11_doHours_80 : decode cX11_doHours 80 = .ok (.iastore, 1) := by decide +kernel
theorem dX11_doHours_81 : decode cX11_doHours 81 = .ok (.goto 50, 3) := by decide +kernel
theorem dX11_doHours_84 : decode cX11_doHours 84 = .ok (.aload_n 0, 1) := by decide +kernel
theorem dX11_doHours_85 : decode cX11_doHours 85 = .ok (.getfield 57, 3) := by decide +kernel
theorem dX11_doHours_88 : decode cX11_doHours 88 = .ok (.iload_n 1, 1) := by decide +kernel
theorem dX11_doHours_89 : decode cX11_doHours 89 = .ok (.iaload, 1) := by decide +kernel
theorem dX11_doHours_90 : decode cX11_doHours 90 = .ok (.bipush 8, 2) := by decide +kernel
theorem dX11_doHours_92 : decode cX11_doHours 92 = .ok (.if_icmp .ne 25, 3) := by decide +kernel
theorem dX11_doHours_95 : decode cX11_doHours 95 = .ok (.aload_n 0, 1) := by decide +kernel
theorem dX11_doHours_96 : decode cX11_doHours 96 = .ok (.iload_n 2, 1) := by decide +kernel
theorem dX11_doHours_97 : decode cX11_doHours 97 = .ok (.iload_n 3, 1) := by decide +kernel
theorem dX11_doHours_98 : decode cX11_doHours 98 = .ok (.if_icmp .ne 8, 3) := by decide +kernel
theorem dX11_doHours_101 : decode cX11_doHours 101 = .ok (.ldc 50, 2) := by decide +kernel
theorem dX11_doHours_103 : decode cX11_doHours 103 = .ok (.goto 8, 3) := by decide +kernel
theorem dX11_doHours_106 : decode cX11_doHours 106 = .ok (.iload_n 2, 1) := by decide +kernel
theorem dX11_doHours_107 : decode cX11_doHours 107 = .ok (.iload_n 3, 1) := by decide +kernel
theorem dX11_doHours_108 : decode cX11_doHours 108 = .ok (.invokestatic 214, 3) := by decide +kernel
theorem dX11_doHours_111 : decode cX11_doHours 111 = .ok (.putfield 51, 3) := by decide +kernel
theorem dX11_doHours_114 : decode cX11_doHours 114 = .ok (.goto 17, 3) := by decide +kernel
theorem dX11_doHours_117 : decode cX11_doHours 117 = .ok (.aload_n 0, 1) := by decide +kernel
theorem dX11_doHours_118 : decode cX11_doHours 118 = .ok (.aload_n 0, 1) := by decide +kernel
theorem dX11_doHours_119 : decode cX11_doHours 119 = .ok (.getfield 124, 3) := by decide +kernel
theorem dX11_doHours_122 : decode cX11_doHours 122 = .ok (.iconst 1, 1) := by decide +kernel
theorem dX11_doHours_123 : decode cX11_doHours 123 = .ok (.iload_n 2, 1) := by decide +kernel
theorem dX11_doHours_124 : decode cX11_doHours 124 = .ok (.ishl, 1) := by decide +kernel
theorem dX11_doHours_125 : decode cX11_doHours 125 = .ok (.iconst (-1), 1) := by decide +kernel
theorem dX11_doHours_126 : decode cX11_doHours 126 = .ok (.ixor, 1) := by decide +kernel
theorem dX11_doHours_127 : decode cX11_doHours 127 = .ok (.iand, 1) := by decide +kernel
theorem dX11_doHours_128 : decode cX11_doHours 128 = .ok (.putfield 124, 3) := by decide +kernel
theorem dX11_doHours_131 : decode cX11_doHours 131 = .ok (.return_, 1) := by decide +kernel
theorem dX11_week_0 : decode cX11_week 0 = .ok (.aload_n 0, 1) := by decide +kernel
theorem dX11_week_1 : decode cX11_week 1 = .ok (.invokevirtual 207, 3) := by decide +kernel
theorem dX11_week_4 : decode cX11_week 4 = .ok (.ifCond .ne 6, 3) := by decide +kernel
theorem dX11_week_7 : decode cX11_week 7 = .ok (.bipush (-4), 2) := by decide +kernel
theorem dX11_week_9 : decode cX11_week 9 = .ok (.ireturn, 1) := by decide +kernel
theorem dX11_week_10 : decode cX11_week 10 = .ok (.iconst 0, 1) := by decide +kernel
theorem dX11_week_11 : decode cX11_week 11 = .ok (.istore_n 1, 1) := by decide +kernel
theorem dX11_week_12 : decode cX11_week 12 = .ok (.iload_n 1, 1) := by decide +kernel
theorem dX11_week_13 : decode cX11_week 13 = .ok (.aload_n 0, 1) := by decide +kernel
theorem dX11_week_14 : decode cX11_week 14 = .ok (.getfield 201, 3) := by decide +kernel
theorem dX11_week_17 : decode cX11_week 17 = .ok (.if_icmp .ge 17, 3) := by decide +kernel
theorem dX11_week_20 : decode cX11_week 20 = .ok (.aload_n 0, 1) := by decide +kernel
theorem dX11_week_21 : decode cX11_week 21 = .ok (.bipush 6, 2) := by decide +kernel
theorem dX11_week_23 : decode cX11_week 23 = .ok (.iload_n 1, 1) := by decide +kernel
theorem dX11_week_24 : decode cX11_week 24 = .ok (.imul, 1) := by decide +kernel
theorem dX11_week_25 : decode cX11_week 25 = .ok (.invokevirtual 218, 3) := by decide +kernel
theorem dX11_week_28 : decode cX11_week 28 = .ok (.iinc 1 1, 3) := by decide +kernel
theorem dX11_week_31 : decode cX11_week 31 = .ok (.goto (-19), 3) := by decide +kernel
theorem dX11_week_34 : decode cX11_week 34 = .ok (.aload_n 0, 1) := by decide +kernel
theorem dX11_week_35 : decode cX11_week 35 = .ok (.iconst 0, 1) := by decide +kernel
theorem dX11_week_36 : decode cX11_week 36 = .ok (.putfield 131, 3) := by decide +kernel
theorem dX11_week_39 : decode cX11_week 39 = .ok (.aload_n 0, 1) := by decide +kernel
theorem dX11_week_40 : decode cX11_week 40 = .ok (.getfield 201, 3) := by decide +kernel
theorem dX11_week_43 : decode cX11_week 43 = .ok (.ireturn, 1) := by decide +kernel
theorem dX11_room_0 : decode cX11_room 0 = .ok (.aload_n 0, 1) := by decide +kernel
theorem dX11_room_1 : decode cX11_room 1 = .ok (.iload_n 1, 1) := by decide +kernel
theorem dX11_room_2 : decode cX11_room 2 = .ok (.invokevirtual 222, 3) := by decide +kernel
theorem dX11_room_5 : decode cX11_room 5 = .ok (.ifCond .ne 6, 3) := by decide +kernel
theorem dX11_room_8 : decode cX11_room 8 = .ok (.bipush (-2), 2) := by decide +kernel
theorem dX11_room_10 : decode cX11_room 10 = .ok (.ireturn, 1) := by decide +kernel
theorem dX11_room_11 : decode cX11_room 11 = .ok (.iload_n 2, 1) := by decide +kernel
theorem dX11_room_12 : decode cX11_room 12 = .ok (.tableswitch 76 0 6 #[44, 44, 44, 44, 55, 62, 69], 44) := by decide +kernel
theorem dX11_room_56 : decode cX11_room 56 = .ok (.aload_n 0, 1) := by decide +kernel
theorem dX11_room_57 : decode cX11_room 57 = .ok (.getfield 7, 3) := by decide +kernel
theorem dX11_room_60 : decode cX11_room 60 = .ok (.iconst 4, 1) := by decide +kernel
theorem dX11_room_61 : decode cX11_room 61 = .ok (.iload_n 1, 1) := by decide +kernel
theorem dX11_room_62 : decode cX11_room 62 = .ok (.imul, 1) := by decide +kernel
theorem dX11_room_63 : decode cX11_room 63 = .ok (.iload_n 2, 1) := by decide +kernel
theorem dX11_room_64 : decode cX11_room 64 = .ok (.iadd, 1) := by decide +kernel
theorem dX11_room_65 : decode cX11_room 65 = .ok (.iaload, 1) := by decide +kernel
theorem dX11_room_66 : decode cX11_room 66 = .ok (.ireturn, 1) := by decide +kernel
theorem dX11_room_67 : decode cX11_room 67 = .ok (.aload_n 0, 1) := by decide +kernel
theorem dX11_room_68 : decode cX11_room 68 = .ok (.getfield 13, 3) := by decide +kernel
theorem dX11_room_71 : decode cX11_room 71 = .ok (.iload_n 1, 1) := by decide +kernel
theorem dX11_room_72 : decode cX11_room 72 = .ok (.iaload, 1) := by decide +kernel
theorem dX11_room_73 : decode cX11_room 73 = .ok (.ireturn, 1) := by decide +kernel
theorem dX11_room_74 : decode cX11_room 74 = .ok (.aload_n 0, 1) := by decide +kernel
theorem dX11_room_75 : decode cX11_room 75 = .ok (.getfield 16, 3) := by decide +kernel
theorem dX11_room_78 : decode cX11_room 78 = .ok (.iload_n 1, 1) := by decide +kernel
theorem dX11_room_79 : decode cX11_room 79 = .ok (.iaload, 1) := by decide +kernel
theorem dX11_room_80 : decode cX11_room 80 = .ok (.ireturn, 1) := by decide +kernel
theorem dX11_room_81 : decode cX11_room 81 = .ok (.aload_n 0, 1) := by decide +kernel
theorem dX11_room_82 : decode cX11_room 82 = .ok (.getfield 19, 3) := by decide +kernel
theorem dX11_room_85 : decode cX11_room 85 = .ok (.iload_n 1, 1) := by decide +kernel
theorem dX11_room_86 : decode cX11_room 86 = .ok (.iaload, 1) := by decide +kernel
theorem dX11_room_87 : decode cX11_room 87 = .ok (.ireturn, 1) := by decide +kernel
theorem dX11_room_88 : decode cX11_room 88 = .ok (.bipush (-3), 2) := by decide +kernel
theorem dX11_room_90 : decode cX11_room 90 = .ok (.ireturn, 1) := by decide +kernel
theorem dX11_door_0 : decode cX11_door 0 = .ok (.iload_n 1, 1) := by decide +kernel
theorem dX11_door_1 : decode cX11_door 1 = .ok (.iconst 0, 1) := by decide +kernel
theorem dX11_door_2 : decode cX11_door 2 = .ok (.iconst 4, 1) := by decide +kernel
theorem dX11_door_3 : decode cX11_door 3 = .ok (.invokestatic 120, 3) := by decide +kernel
theorem dX11_door_6 : decode cX11_door 6 = .ok (.ifCond .eq 30, 3) := by decide +kernel
theorem dX11_door_9 : decode cX11_door 9 = .ok (.iload_n 2, 1) := by decide +kernel
theorem dX11_door_10 : decode cX11_door 10 = .ok (.iconst 0, 1) := by decide +kernel
theorem dX11_door_11 : decode cX11_door 11 = .ok (.iconst 4, 1) := by decide +kernel
theorem dX11_door_12 : decode cX11_door 12 = .ok (.invokestatic 120, 3) := by decide +kernel
theorem dX11_door_15 : decode cX11_door 15 = .ok (.ifCond .eq 21, 3) := by decide +kernel
theorem dX11_door_18 : decode cX11_door 18 = .ok (.iload_n 1, 1) := by decide +kernel
theorem dX11_door_19 : decode cX11_door 19 = .ok (.iload_n 2, 1) := by decide +kernel
theorem dX11_door_20 : decode cX11_door 20 = .ok (.if_icmp .eq 16, 3) := by decide +kernel
theorem dX11_door_23 : decode cX11_door 23 = .ok (.aload_n 0, 1) := by decide +kernel
theorem dX11_door_24 : decode cX11_door 24 = .ok (.getfield 22, 3) := by decide +kernel
theorem dX11_door_27 : decode cX11_door 27 = .ok (.iconst 5, 1) := by decide +kernel
theorem dX11_door_28 : decode cX11_door 28 = .ok (.iload_n 1, 1) := by decide +kernel
theorem dX11_door_29 : decode cX11_door 29 = .ok (.imul, 1) := by decide +kernel
theorem dX11_door_30 : decode cX11_door 30 = .ok (.iload_n 2, 1) := by decide +kernel
theorem dX11_door_31 : decode cX11_door 31 = .ok (.iadd, 1) := by decide +kernel
theorem dX11_door_32 : decode cX11_door 32 = .ok (.iaload, 1) := by decide +kernel
theorem dX11_door_33 : decode cX11_door 33 = .ok (.goto 5, 3) := by decide +kernel
theorem dX11_door_36 : decode cX11_door 36 = .ok (.bipush (-2), 2) := by decide +kernel
theorem dX11_door_38 : decode cX11_door 38 = .ok (.ireturn, 1) := by decide +kernel
theorem dX11_outAt_0 : decode cX11_outAt 0 = .ok (.iload_n 1, 1) := by decide +kernel
theorem dX11_outAt_1 : decode cX11_outAt 1 = .ok (.bipush 24, 2) := by decide +kernel
theorem dX11_outAt_3 : decode cX11_outAt 3 = .ok (.irem, 1) := by decide +kernel
theorem dX11_outAt_4 : decode cX11_outAt 4 = .ok (.istore_n 2, 1) := by decide +kernel
theorem dX11_outAt_5 : decode cX11_outAt 5 = .ok (.iload_n 2, 1) := by decide +kernel
theorem dX11_outAt_6 : decode cX11_outAt 6 = .ok (.iconst 5, 1) := by decide +kernel
theorem dX11_outAt_7 : decode cX11_outAt 7 = .ok (.if_icmp .ge 12, 3) := by decide +kernel
theorem dX11_outAt_10 : decode cX11_outAt 10 = .ok (.iload_n 1, 1) := by decide +kernel
theorem dX11_outAt_11 : decode cX11_outAt 11 = .ok (.bipush 24, 2) := by decide +kernel
theorem dX11_outAt_13 : decode cX11_outAt 13 = .ok (.idiv, 1) := by decide +kernel
theorem dX11_outAt_14 : decode cX11_outAt 14 = .ok (.iconst 1, 1) := by decide +kernel
theorem dX11_outAt_15 : decode cX11_outAt 15 = .ok (.isub, 1) := by decide +kernel
theorem dX11_outAt_16 : decode cX11_outAt 16 = .ok (.goto 7, 3) := by decide +kernel
theorem dX11_outAt_19 : decode cX11_outAt 19 = .ok (.iload_n 1, 1) := by decide +kernel
theorem dX11_outAt_20 : decode cX11_outAt 20 = .ok (.bipush 24, 2) := by decide +kernel
theorem dX11_outAt_22 : decode cX11_outAt 22 = .ok (.idiv, 1) := by decide +kernel
theorem dX11_outAt_23 : decode cX11_outAt 23 = .ok (.istore_n 3, 1) := by decide +kernel
theorem dX11_outAt_24 : decode cX11_outAt 24 = .ok (.aload_n 0, 1) := by decide +kernel
theorem dX11_outAt_25 : decode cX11_outAt 25 = .ok (.getfield 25, 3) := by decide +kernel
theorem dX11_outAt_28 : decode cX11_outAt 28 = .ok (.aload_n 0, 1) := by decide +kernel
theorem dX11_outAt_29 : decode cX11_outAt 29 = .ok (.getfield 32, 3) := by decide +kernel
theorem dX11_outAt_32 : decode cX11_outAt 32 = .ok (.iload_n 3, 1) := by decide +kernel
theorem dX11_outAt_33 : decode cX11_outAt 33 = .ok (.imul, 1) := by decide +kernel
theorem dX11_outAt_34 : decode cX11_outAt 34 = .ok (.iadd, 1) := by decide +kernel
theorem dX11_outAt_35 : decode cX11_outAt 35 = .ok (.istore 4, 2) := by decide +kernel
theorem dX11_outAt_37 : decode cX11_outAt 37 = .ok (.aload_n 0, 1) := by decide +kernel
theorem dX11_outAt_38 : decode cX11_outAt 38 = .ok (.getfield 29, 3) := by decide +kernel
theorem dX11_outAt_41 : decode cX11_outAt 41 = .ok (.aload_n 0, 1) := by decide +kernel
theorem dX11_outAt_42 : decode cX11_outAt 42 = .ok (.getfield 32, 3) := by decide +kernel
theorem dX11_outAt_45 : decode cX11_outAt 45 = .ok (.iload_n 3, 1) := by decide +kernel
theorem dX11_outAt_46 : decode cX11_outAt 46 = .ok (.imul, 1) := by decide +kernel
theorem dX11_outAt_47 : decode cX11_outAt 47 = .ok (.iadd, 1) := by decide +kernel
theorem dX11_outAt_48 : decode cX11_outAt 48 = .ok (.istore 5, 2) := by decide +kernel
theorem dX11_outAt_50 : decode cX11_outAt 50 = .ok (.iload_n 2, 1) := by decide +kernel
theorem dX11_outAt_51 : decode cX11_outAt 51 = .ok (.iconst 5, 1) := by decide +kernel
theorem dX11_outAt_52 : decode cX11_outAt 52 = .ok (.if_icmp .lt 25, 3) := by decide +kernel
theorem dX11_outAt_55 : decode cX11_outAt 55 = .ok (.iload_n 2, 1) := by decide +kernel
theorem dX11_outAt_56 : decode cX11_outAt 56 = .ok (.bipush 15, 2) := by decide +kernel
theorem dX11_outAt_58 : decode cX11_outAt 58 = .ok (.if_icmp .gt 19, 3) := by decide +kernel
theorem dX11_outAt_61 : decode cX11_outAt 61 = .ok (.iload 4, 2) := by decide +kernel
theorem dX11_outAt_63 : decode cX11_outAt 63 = .ok (.iload 5, 2) := by decide +kernel
theorem dX11_outAt_65 : decode cX11_outAt 65 = .ok (.iload 4, 2) := by decide +kernel
theorem dX11_outAt_67 : decode cX11_outAt 67 = .ok (.isub, 1) := by decide +kernel
theorem dX11_outAt_68 : decode cX11_outAt 68 = .ok (.iload_n 2, 1) := by decide +kernel
theorem dX11_outAt_69 : decode cX11_outAt 69 = .ok (.iconst 5, 1) := by decide +kernel
theorem dX11_outAt_70 : decode cX11_outAt 70 = .ok (.isub, 1) := by decide +kernel
theorem dX11_outAt_71 : decode cX11_outAt 71 = .ok (.imul, 1) := by decide +kernel
theorem dX11_outAt_72 : decode cX11_outAt 72 = .ok (.bipush 10, 2) := by decide +kernel
theorem dX11_outAt_74 : decode cX11_outAt 74 = .ok (.idiv, 1) := by decide +kernel
theorem dX11_outAt_75 : decode cX11_outAt 75 = .ok (.iadd, 1) := by decide +kernel
theorem dX11_outAt_76 : decode cX11_outAt 76 = .ok (.ireturn, 1) := by decide +kernel
theorem dX11_outAt_77 : decode cX11_outAt 77 = .ok (.iload_n 2, 1) := by decide +kernel
theorem dX11_outAt_78 : decode cX11_outAt 78 = .ok (.iconst 5, 1) := by decide +kernel
theorem dX11_outAt_79 : decode cX11_outAt 79 = .ok (.if_icmp .ge 10, 3) := by decide +kernel
theorem dX11_outAt_82 : decode cX11_outAt 82 = .ok (.iload_n 2, 1) := by decide +kernel
theorem dX11_outAt_83 : decode cX11_outAt 83 = .ok (.bipush 9, 2) := by decide +kernel
theorem dX11_outAt_85 : decode cX11_outAt 85 = .ok (.iadd, 1) := by decide +kernel
theorem dX11_outAt_86 : decode cX11_outAt 86 = .ok (.goto 7, 3) := by decide +kernel
theorem dX11_outAt_89 : decode cX11_outAt 89 = .ok (.iload_n 2, 1) := by decide +kernel
theorem dX11_outAt_90 : decode cX11_outAt 90 = .ok (.bipush 15, 2) := by decide +kernel
theorem dX11_outAt_92 : decode cX11_outAt 92 = .ok (.isub, 1) := by decide +kernel
theorem dX11_outAt_93 : decode cX11_outAt 93 = .ok (.istore 6, 2) := by decide +kernel
theorem dX11_outAt_95 : decode cX11_outAt 95 = .ok (.iload 5, 2) := by decide +kernel
theorem dX11_outAt_97 : decode cX11_outAt 97 = .ok (.iload 5, 2) := by decide +kernel
theorem dX11_outAt_99 : decode cX11_outAt 99 = .ok (.iload 4, 2) := by decide +kernel
theorem dX11_outAt_101 : decode cX11_outAt 101 = .ok (.isub, 1) := by decide +kernel
theorem dX11_outAt_102 : decode cX11_outAt 102 = .ok (.iload 6, 2) := by decide +kernel
theorem dX11_outAt_104 : decode cX11_outAt 104 = .ok (.imul, 1) := by decide +kernel
theorem dX11_outAt_105 : decode cX11_outAt 105 = .ok (.bipush 14, 2) := by decide +kernel
theorem dX11_outAt_107 : decode cX11_outAt 107 = .ok (.idiv, 1) := by decide +kernel
theorem dX11_outAt_108 : decode cX11_outAt 108 = .ok (.isub, 1) := by decide +kernel
theorem dX11_outAt_109 : decode cX11_outAt 109 = .ok (.ireturn, 1) := by decide +kernel
theorem dX11_out_0 : decode cX11_out 0 = .ok (.iload_n 1, 1) := by decide +kernel
theorem dX11_out_1 : decode cX11_out 1 = .ok (.iconst 0, 1) := by decide +kernel
theorem dX11_out_2 : decode cX11_out 2 = .ok (.bipush 95, 2) := by decide +kernel
theorem dX11_out_4 : decode cX11_out 4 = .ok (.invokestatic 120, 3) := by decide +kernel
theorem dX11_out_7 : decode cX11_out 7 = .ok (.ifCond .eq 11, 3) := by decide +kernel
theorem dX11_out_10 : decode cX11_out 10 = .ok (.aload_n 0, 1) := by decide +kernel
theorem dX11_out_11 : decode cX11_out 11 = .ok (.iload_n 1, 1) := by decide +kernel
theorem dX11_out_12 : decode cX11_out 12 = .ok (.invokevirtual 225, 3) := by decide +kernel
theorem dX11_out_15 : decode cX11_out 15 = .ok (.goto 5, 3) := by decide +kernel
theorem dX11_out_18 : decode cX11_out 18 = .ok (.bipush (-2), 2) := by decide +kernel
theorem dX11_out_20 : decode cX11_out 20 = .ok (.ireturn, 1) := by decide +kernel
theorem dX11_sunAt_0 : decode cX11_sunAt 0 = .ok (.aload_n 0, 1) := by decide +kernel
theorem dX11_sunAt_1 : decode cX11_sunAt 1 = .ok (.getfield 7, 3) := by decide +kernel
theorem dX11_sunAt_4 : decode cX11_sunAt 4 = .ok (.iconst 4, 1) := by decide +kernel
theorem dX11_sunAt_5 : decode cX11_sunAt 5 = .ok (.iload_n 1, 1) := by decide +kernel
theorem dX11_sunAt_6 : decode cX11_sunAt 6 = .ok (.imul, 1) := by decide +kernel
theorem dX11_sunAt_7 : decode cX11_sunAt 7 = .ok (.iconst 2, 1) := by decide +kernel
theorem dX11_sunAt_8 : decode cX11_sunAt 8 = .ok (.iadd, 1) := by decide +kernel
theorem dX11_sunAt_9 : decode cX11_sunAt 9 = .ok (.iaload, 1) := by decide +kernel
theorem dX11_sunAt_10 : decode cX11_sunAt 10 = .ok (.istore_n 3, 1) := by decide +kernel
theorem dX11_sunAt_11 : decode cX11_sunAt 11 = .ok (.iload_n 3, 1) := by decide +kernel
theorem dX11_sunAt_12 : decode cX11_sunAt 12 = .ok (.iconst 1, 1) := by decide +kernel
theorem dX11_sunAt_13 : decode cX11_sunAt 13 = .ok (.if_icmp .ne 14, 3) := by decide +kernel
theorem dX11_sunAt_16 : decode cX11_sunAt 16 = .ok (.iload_n 2, 1) := by decide +kernel
theorem dX11_sunAt_17 : decode cX11_sunAt 17 = .ok (.bipush 6, 2) := by decide +kernel
theorem dX11_sunAt_19 : decode cX11_sunAt 19 = .ok (.bipush 10, 2) := by decide +kernel
theorem dX11_sunAt_21 : decode cX11_sunAt 21 = .ok (.invokestatic 120, 3) := by decide +kernel
theorem dX11_sunAt_24 : decode cX11_sunAt 24 = .ok (.goto 40, 3) := by decide +kernel
theorem dX11_sunAt_27 : decode cX11_sunAt 27 = .ok (.iload_n 3, 1) := by decide +kernel
theorem dX11_sunAt_28 : decode cX11_sunAt 28 = .ok (.iconst 2, 1) := by decide +kernel
theorem dX11_sunAt_29 : decode cX11_sunAt 29 = .ok (.if_icmp .ne 14, 3) := by decide +kernel
theorem dX11_sunAt_32 : decode cX11_sunAt 32 = .ok (.iload_n 2, 1) := by decide +kernel
theorem dX11_sunAt_33 : decode cX11_sunAt 33 = .ok (.bipush 10, 2) := by decide +kernel
theorem dX11_sunAt_35 : decode cX11_sunAt 35 = .ok (.bipush 15, 2) := by decide +kernel
theorem dX11_sunAt_37 : decode cX11_sunAt 37 = .ok (.invokestatic 120, 3) := by decide +kernel
theorem dX11_sunAt_40 : decode cX11_sunAt 40 = .ok (.goto 24, 3) := by decide +kernel
theorem dX11_sunAt_43 : decode cX11_sunAt 43 = .ok (.iload_n 3, 1) := by decide +kernel
theorem dX11_sunAt_44 : decode cX11_sunAt 44 = .ok (.iconst 3, 1) := by decide +kernel
theorem dX11_sunAt_45 : decode cX11_sunAt 45 = .ok (.if_icmp .ne 18, 3) := by decide +kernel
theorem dX11_sunAt_48 : decode cX11_sunAt 48 = .ok (.iload_n 2, 1) := by decide +kernel
theorem dX11_sunAt_49 : decode cX11_sunAt 49 = .ok (.bipush 15, 2) := by decide +kernel
theorem dX11_sunAt_51 : decode cX11_sunAt 51 = .ok (.bipush 19, 2) := by decide +kernel
theorem dX11_sunAt_53 : decode cX11_sunAt 53 = .ok (.invokestatic 120, 3) := by decide +kernel
theorem dX11_sunAt_56 : decode cX11_sunAt 56 = .ok (.ifCond .eq 7, 3) := by decide +kernel
theorem dX11_sunAt_59 : decode cX11_sunAt 59 = .ok (.iconst 1, 1) := by decide +kernel
theorem dX11_sunAt_60 : decode cX11_sunAt 60 = .ok (.goto 4, 3) := by decide +kernel
theorem dX11_sunAt_63 : decode cX11_sunAt 63 = .ok (.iconst 0, 1) := by decide +kernel
theorem dX11_sunAt_64 : decode cX11_sunAt 64 = .ok (.istore 4, 2) := by decide +kernel
theorem dX11_sunAt_66 : decode cX11_sunAt 66 = .ok (.iload 4, 2) := by decide +kernel
theorem dX11_sunAt_68 : decode cX11_sunAt 68 = .ok (.ifCond .eq 10, 3) := by decide +kernel
theorem dX11_sunAt_71 : decode cX11_sunAt 71 = .ok (.aload_n 0, 1) := by decide +kernel
theorem dX11_sunAt_72 : decode cX11_sunAt 72 = .ok (.getfield 35, 3) := by decide +kernel
theorem dX11_sunAt_75 : decode cX11_sunAt 75 = .ok (.goto 4, 3) := by decide +kernel
theorem dX11_sunAt_78 : decode cX11_sunAt 78 = .ok (.iconst 0, 1) := by decide +kernel
theorem dX11_sunAt_79 : decode cX11_sunAt 79 = .ok (.istore 5, 2) := by decide +kernel
theorem dX11_sunAt_81 : decode cX11_sunAt 81 = .ok (.aload_n 0, 1) := by decide +kernel
theorem dX11_sunAt_82 : decode cX11_sunAt 82 = .ok (.getfield 19, 3) := by decide +kernel
theorem dX11_sunAt_85 : decode cX11_sunAt 85 = .ok (.iload_n 1, 1) := by decide +kernel
theorem dX11_sunAt_86 : decode cX11_sunAt 86 = .ok (.iaload, 1) := by decide +kernel
theorem dX11_sunAt_87 : decode cX11_sunAt 87 = .ok (.iload_n 2, 1) := by decide +kernel
theorem dX11_sunAt_88 : decode cX11_sunAt 88 = .ok (.invokestatic 127, 3) := by decide +kernel
theorem dX11_sunAt_91 : decode cX11_sunAt 91 = .ok (.ifCond .eq 10, 3) := by decide +kernel
theorem dX11_sunAt_94 : decode cX11_sunAt 94 = .ok (.iload 5, 2) := by decide +kernel
theorem dX11_sunAt_96 : decode cX11_sunAt 96 = .ok (.iconst 4, 1) := by decide +kernel
theorem dX11_sunAt_97 : decode cX11_sunAt 97 = .ok (.idiv, 1) := by decide +kernel
theorem dX11_sunAt_98 : decode cX11_sunAt 98 = .ok (.goto 5, 3) := by decide +kernel
theorem dX11_sunAt_101 : decode cX11_sunAt 101 = .ok (.iload 5, 2) := by decide +kernel
theorem dX11_sunAt_103 : decode cX11_sunAt 103 = .ok (.istore 5, 2) := by decide +kernel
theorem dX11_sunAt_105 : decode cX11_sunAt 105 = .ok (.iconst 0, 1) := by decide +kernel
theorem dX11_sunAt_106 : decode cX11_sunAt 106 = .ok (.istore 6, 2) := by decide +kernel
theorem dX11_sunAt_108 : decode cX11_sunAt 108 = .ok (.iload 6, 2) := by decide +kernel
theorem dX11_sunAt_110 : decode cX11_sunAt 110 = .ok (.aload_n 0, 1) := by decide +kernel
theorem dX11_sunAt_111 : decode cX11_sunAt 111 = .ok (.getfield 229, 3) := by decide +kernel
theorem dX11_sunAt_114 : decode cX11_sunAt 114 = .ok (.if_icmp .ge 55, 3) := by decide +kernel
theorem dX11_sunAt_117 : decode cX11_sunAt 117 = .ok (.aload_n 0, 1) := by decide +kernel
theorem dX11_sunAt_118 : decode cX11_sunAt 118 = .ok (.getfield 232, 3) := by decide +kernel
theorem dX11_sunAt_121 : decode cX11_sunAt 121 = .ok (.iload 6, 2) := by decide +kernel
theorem dX11_sunAt_123 : decode cX11_sunAt 123 = .ok (.invokestatic 127, 3) := by decide +kernel
theorem dX11_sunAt_126 : decode cX11_sunAt 126 = .ok (.ifCond .eq 33, 3) := by decide +kernel
theorem dX11_sunAt_129 : decode cX11_sunAt 129 = .ok (.aload_n 0, 1) := by decide +kernel
theorem dX11_sunAt_130 : decode cX11_sunAt 130 = .ok (.getfield 87, 3) := by decide +kernel
theorem dX11_sunAt_133 : decode cX11_sunAt 133 = .ok (.iload 6, 2) := by decide +kernel
theorem dX11_sunAt_135 : decode cX11_sunAt 135 = .ok (.iaload, 1) := by decide +kernel
theorem dX11_sunAt_136 : decode cX11_sunAt 136 = .ok (.iload_n 1, 1) := by decide +kernel
theorem dX11_sunAt_137 : decode cX11_sunAt 137 = .ok (.if_icmp .ne 22, 3) := by decide +kernel
theorem dX11_sunAt_140 : decode cX11_sunAt 140 = .ok (.iload 5, 2) := by decide +kernel
theorem dX11_sunAt_142 : decode cX11_sunAt 142 = .ok (.bipush 100, 2) := by decide +kernel
theorem dX11_sunAt_144 : decode cX11_sunAt 144 = .ok (.aload_n 0, 1) := by decide +kernel
theorem dX11_sunAt_145 : decode cX11_sunAt 145 = .ok (.getfield 93, 3) := by decide +kernel
theorem dX11_sunAt_148 : decode cX11_sunAt 148 = .ok (.iload 6, 2) := by decide +kernel
theorem dX11_sunAt_150 : decode cX11_sunAt 150 = .ok (.iaload, 1) := by decide +kernel
theorem dX11_sunAt_151 : decode cX11_sunAt 151 = .ok (.isub, 1) := by decide +kernel
theorem dX11_sunAt_152 : decode cX11_sunAt 152 = .ok (.imul, 1) := by decide +kernel
theorem dX11_sunAt_153 : decode cX11_sunAt 153 = .ok (.bipush 100, 2) := by decide +kernel
theorem dX11_sunAt_155 : decode cX11_sunAt 155 = .ok (.idiv, 1) := by decide +kernel
theorem dX11_sunAt_156 : decode cX11_sunAt 156 = .ok (.goto 5, 3) := by decide +kernel
theorem dX11_sunAt_159 : decode cX11_sunAt 159 = .ok (.iload 5, 2) := by decide +kernel
theorem dX11_sunAt_161 : decode cX11_sunAt 161 = .ok (.istore 5, 2) := by decide +kernel
theorem dX11_sunAt_163 : decode cX11_sunAt 163 = .ok (.iinc 6 1, 3) := by decide +kernel
theorem dX11_sunAt_166 : decode cX11_sunAt 166 = .ok (.goto (-58), 3) := by decide +kernel
theorem dX11_sunAt_169 : decode cX11_sunAt 169 = .ok (.iload 5, 2) := by decide +kernel
theorem dX11_sunAt_171 : decode cX11_sunAt 171 = .ok (.ireturn, 1) := by decide +kernel
theorem dX11_leaksOf_0 : decode cX11_leaksOf 0 = .ok (.aload_n 0, 1) := by decide +kernel
theorem dX11_leaksOf_1 : decode cX11_leaksOf 1 = .ok (.getfield 44, 3) := by decide +kernel
theorem dX11_leaksOf_4 : decode cX11_leaksOf 4 = .ok (.istore_n 2, 1) := by decide +kernel
theorem dX11_leaksOf_5 : decode cX11_leaksOf 5 = .ok (.iconst 0, 1) := by decide +kernel
theorem dX11_leaksOf_6 : decode cX11_leaksOf 6 = .ok (.istore_n 3, 1) := by decide +kernel
theorem dX11_leaksOf_7 : decode cX11_leaksOf 7 = .ok (.iload_n 3, 1) := by decide +kernel
theorem dX11_leaksOf_8 : decode cX11_leaksOf 8 = .ok (.aload_n 0, 1) := by decide +kernel
theorem dX11_leaksOf_9 : decode cX11_leaksOf 9 = .ok (.getfield 229, 3) := by decide +kernel
theorem dX11_leaksOf_12 : decode cX11_leaksOf 12 = .ok (.if_icmp .ge 53, 3) := by decide +kernel
theorem dX11_leaksOf_15 : decode cX11_leaksOf 15 = .ok (.aload_n 0, 1) := by decide +kernel
theorem dX11_leaksOf_16 : decode cX11_leaksOf 16 = .ok (.getfield 232, 3) := by decide +kernel
theorem dX11_leaksOf_19 : decode cX11_leaksOf 19 = .ok (.iload_n 3, 1) := by decide +kernel
theorem dX11_leaksOf_20 : decode cX11_leaksOf 20 = .ok (.invokestatic 127, 3) := by decide +kernel
theorem dX11_leaksOf_23 : decode cX11_leaksOf 23 = .ok (.ifCond .eq 24, 3) := by decide +kernel
theorem dX11_leaksOf_26 : decode cX11_leaksOf 26 = .ok (.aload_n 0, 1) := by decide +kernel
theorem dX11_leaksOf_27 : decode cX11_leaksOf 27 = .ok (.getfield 87, 3) := by decide +kernel
theorem dX11_leaksOf_30 : decode cX11_leaksOf 30 = .ok (.iload_n 3, 1) := by decide +kernel
theorem dX11_leaksOf_31 : decode cX11_leaksOf 31 = .ok (.iaload, 1) := by decide +kernel
theorem dX11_leaksOf_32 : decode cX11_leaksOf 32 = .ok (.iload_n 1, 1) := by decide +kernel
theorem dX11_leaksOf_33 : decode cX11_leaksOf 33 = .ok (.if_icmp .ne 14, 3) := by decide +kernel
theorem dX11_leaksOf_36 : decode cX11_leaksOf 36 = .ok (.iload_n 2, 1) := by decide +kernel
theorem dX11_leaksOf_37 : decode cX11_leaksOf 37 = .ok (.aload_n 0, 1) := by decide +kernel
theorem dX11_leaksOf_38 : decode cX11_leaksOf 38 = .ok (.getfield 96, 3) := by decide +kernel
theorem dX11_leaksOf_41 : decode cX11_leaksOf 41 = .ok (.iload_n 3, 1) := by decide +kernel
theorem dX11_leaksOf_42 : decode cX11_leaksOf 42 = .ok (.iaload, 1) := by decide +kernel
theorem dX11_leaksOf_43 : decode cX11_leaksOf 43 = .ok (.isub, 1) := by decide +kernel
theorem dX11_leaksOf_44 : decode cX11_leaksOf 44 = .ok (.goto 4, 3) := by decide +kernel
theorem dX11_leaksOf_47 : decode cX11_leaksOf 47 = .ok (.iload_n 2, 1) := by decide +kernel
theorem dX11_leaksOf_48 : decode cX11_leaksOf 48 = .ok (.istore_n 2, 1) := by decide +kernel
theorem dX11_leaksOf_49 : decode cX11_leaksOf 49 = .ok (.iload_n 2, 1) := by decide +kernel
theorem dX11_leaksOf_50 : decode cX11_leaksOf 50 = .ok (.ifCond .ge 7, 3) := by decide +kernel
theorem dX11_leaksOf_53 : decode cX11_leaksOf 53 = .ok (.iconst 0, 1) := by decide +kernel
theorem dX11_leaksOf_54 : decode cX11_leaksOf 54 = .ok (.goto 4, 3) := by decide +kernel
theorem dX11_leaksOf_57 : decode cX11_leaksOf 57 = .ok (.iload_n 2, 1) := by decide +kernel
theorem dX11_leaksOf_58 : decode cX11_leaksOf 58 = .ok (.istore_n 2, 1) := by decide +kernel
theorem dX11_leaksOf_59 : decode cX11_leaksOf 59 = .ok (.iinc 3 1, 3) := by decide +kernel
theorem dX11_leaksOf_62 : decode cX11_leaksOf 62 = .ok (.goto (-55), 3) := by decide +kernel
theorem dX11_leaksOf_65 : decode cX11_leaksOf 65 = .ok (.iload_n 2, 1) := by decide +kernel
theorem dX11_leaksOf_66 : decode cX11_leaksOf 66 = .ok (.ireturn, 1) := by decide +kernel
theorem dX11_isOpenAt_0 : decode cX11_isOpenAt 0 = .ok (.iload_n 2, 1) := by decide +kernel
theorem dX11_isOpenAt_1 : decode cX11_isOpenAt 1 = .ok (.bipush 24, 2) := by decide +kernel
theorem dX11_isOpenAt_3 : decode cX11_isOpenAt 3 = .ok (.irem, 1) := by decide +kernel
theorem dX11_isOpenAt_4 : decode cX11_isOpenAt 4 = .ok (.istore_n 3, 1) := by decide +kernel
theorem dX11_isOpenAt_5 : decode cX11_isOpenAt 5 = .ok (.aload_n 0, 1) := by decide +kernel
theorem dX11_isOpenAt_6 : decode cX11_isOpenAt 6 = .ok (.getfield 51, 3) := by decide +kernel
theorem dX11_isOpenAt_9 : decode cX11_isOpenAt 9 = .ok (.iload_n 3, 1) := by decide +kernel
theorem dX11_isOpenAt_10 : decode cX11_isOpenAt 10 = .ok (.invokestatic 127, 3) := by decide +kernel
theorem dX11_isOpenAt_13 : decode cX11_isOpenAt 13 = .ok (.ifCond .ne 5, 3) := by decide +kernel
theorem dX11_isOpenAt_16 : decode cX11_isOpenAt 16 = .ok (.iconst 0, 1) := by decide +kernel
theorem dX11_isOpenAt_17 : decode cX11_isOpenAt 17 = .ok (.ireturn, 1) := by decide +kernel
theorem dX11_isOpenAt_18 : decode cX11_isOpenAt 18 = .ok (.aload_n 0, 1) := by decide +kernel
theorem dX11_isOpenAt_19 : decode cX11_isOpenAt 19 = .ok (.getfield 81, 3) := by decide +kernel
theorem dX11_isOpenAt_22 : decode cX11_isOpenAt 22 = .ok (.iload_n 1, 1) := by decide +kernel
theorem dX11_isOpenAt_23 : decode cX11_isOpenAt 23 = .ok (.iaload, 1) := by decide +kernel
theorem dX11_isOpenAt_24 : decode cX11_isOpenAt 24 = .ok (.ifCond .ne 16, 3) := by decide +kernel
theorem dX11_isOpenAt_27 : decode cX11_isOpenAt 27 = .ok (.aload_n 0, 1) := by decide +kernel
theorem dX11_isOpenAt_28 : decode cX11_isOpenAt 28 = .ok (.getfield 84, 3) := by decide +kernel
theorem dX11_isOpenAt_31 : decode cX11_isOpenAt 31 = .ok (.iload_n 1, 1) := by decide +kernel
theorem dX11_isOpenAt_32 : decode cX11_isOpenAt 32 = .ok (.iaload, 1) := by decide +kernel
theorem dX11_isOpenAt_33 : decode cX11_isOpenAt 33 = .ok (.iload_n 3, 1) := by decide +kernel
theorem dX11_isOpenAt_34 : decode cX11_isOpenAt 34 = .ok (.invokestatic 127, 3) := by decide +kernel
theorem dX11_isOpenAt_37 : decode cX11_isOpenAt 37 = .ok (.goto 50, 3) := by decide +kernel
theorem dX11_isOpenAt_40 : decode cX11_isOpenAt 40 = .ok (.aload_n 0, 1) := by decide +kernel
theorem dX11_isOpenAt_41 : decode cX11_isOpenAt 41 = .ok (.getfield 81, 3) := by decide +kernel
theorem dX11_isOpenAt_44 : decode cX11_isOpenAt 44 = .ok (.iload_n 1, 1) := by decide +kernel
theorem dX11_isOpenAt_45 : decode cX11_isOpenAt 45 = .ok (.iaload, 1) := by decide +kernel
theorem dX11_isOpenAt_46 : decode cX11_isOpenAt 46 = .ok (.iconst 1, 1) := by decide +kernel
theorem dX11_isOpenAt_47 : decode cX11_isOpenAt 47 = .ok (.if_icmp .ne 25, 3) := by decide +kernel
theorem dX11_isOpenAt_50 : decode cX11_isOpenAt 50 = .ok (.aload_n 0, 1) := by decide +kernel
theorem dX11_isOpenAt_51 : decode cX11_isOpenAt 51 = .ok (.iload_n 2, 1) := by decide +kernel
theorem dX11_isOpenAt_52 : decode cX11_isOpenAt 52 = .ok (.invokevirtual 225, 3) := by decide +kernel
theorem dX11_isOpenAt_55 : decode cX11_isOpenAt 55 = .ok (.aload_n 0, 1) := by decide +kernel
theorem dX11_isOpenAt_56 : decode cX11_isOpenAt 56 = .ok (.getfield 69, 3) := by decide +kernel
theorem dX11_isOpenAt_59 : decode cX11_isOpenAt 59 = .ok (.iload_n 1, 1) := by decide +kernel
theorem dX11_isOpenAt_60 : decode cX11_isOpenAt 60 = .ok (.iaload, 1) := by decide +kernel
theorem dX11_isOpenAt_61 : decode cX11_isOpenAt 61 = .ok (.if_icmp .ge 7, 3) := by decide +kernel
theorem dX11_isOpenAt_64 : decode cX11_isOpenAt 64 = .ok (.iconst 1, 1) := by decide +kernel
theorem dX11_isOpenAt_65 : decode cX11_isOpenAt 65 = .ok (.goto 22, 3) := by decide +kernel
theorem dX11_isOpenAt_68 : decode cX11_isOpenAt 68 = .ok (.iconst 0, 1) := by decide +kernel
theorem dX11_isOpenAt_69 : decode cX11_isOpenAt 69 = .ok (.goto 18, 3) := by decide +kernel
theorem dX11_isOpenAt_72 : decode cX11_isOpenAt 72 = .ok (.aload_n 0, 1) := by decide +kernel
theorem dX11_isOpenAt_73 : decode cX11_isOpenAt 73 = .ok (.getfield 81, 3) := by decide +kernel
theorem dX11_isOpenAt_76 : decode cX11_isOpenAt 76 = .ok (.iload_n 1, 1) := by decide +kernel
theorem dX11_isOpenAt_77 : decode cX11_isOpenAt 77 = .ok (.iaload, 1) := by decide +kernel
theorem dX11_isOpenAt_78 : decode cX11_isOpenAt 78 = .ok (.iconst 2, 1) := by decide +kernel
theorem dX11_isOpenAt_79 : decode cX11_isOpenAt 79 = .ok (.if_icmp .ne 7, 3) := by decide +kernel
theorem dX11_isOpenAt_82 : decode cX11_isOpenAt 82 = .ok (.iconst 1, 1) := by decide +kernel
theorem dX11_isOpenAt_83 : decode cX11_isOpenAt 83 = .ok (.goto 4, 3) := by decide +kernel
theorem dX11_isOpenAt_86 : decode cX11_isOpenAt 86 = .ok (.iconst 0, 1) := by decide +kernel
theorem dX11_isOpenAt_87 : decode cX11_isOpenAt 87 = .ok (.ireturn, 1) := by decide +kernel
theorem dX11_goHour_0 : decode cX11_goHour 0 = .ok (.iload_n 1, 1) := by decide +kernel
theorem dX11_goHour_1 : decode cX11_goHour 1 = .ok (.bipush 24, 2) := by decide +kernel
theorem dX11_goHour_3 : decode cX11_goHour 3 = .ok (.irem, 1) := by decide +kernel
theorem dX11_goHour_4 : decode cX11_goHour 4 = .ok (.istore_n 2, 1) := by decide +kernel
theorem dX11_goHour_5 : decode cX11_goHour 5 = .ok (.aload_n 0, 1) := by decide +kernel
theorem dX11_goHour_6 : decode cX11_goHour 6 = .ok (.iload_n 1, 1) := by decide +kernel
theorem dX11_goHour_7 : decode cX11_goHour 7 = .ok (.invokevirtual 225, 3) := by decide +kernel
theorem dX11_goHour_10 : decode cX11_goHour 10 = .ok (.istore_n 3, 1) := by decide +kernel
theorem dX11_goHour_11 : decode cX11_goHour 11 = .ok (.iconst 0, 1) := by decide +kernel
theorem dX11_goHour_12 : decode cX11_goHour 12 = .ok (.istore 4, 2) := by decide +kernel
theorem dX11_goHour_14 : decode cX11_goHour 14 = .ok (.iload 4, 2) := by decide +kernel
theorem dX11_goHour_16 : decode cX11_goHour 16 = .ok (.iconst 5, 1) := by decide +kernel
theorem dX11_goHour_17 : decode cX11_goHour 17 = .ok (.if_icmp .ge 261, 3) := by decide +kernel
theorem dX11_goHour_20 : decode cX11_goHour 20 = .ok (.aload_n 0, 1) := by decide +kernel
theorem dX11_goHour_21 : decode cX11_goHour 21 = .ok (.iload 4, 2) := by decide +kernel
theorem dX11_goHour_23 : decode cX11_goHour 23 = .ok (.invokevirtual 222, 3) := by decide +kernel
theorem dX11_goHour_26 : decode cX11_goHour 26 = .ok (.ifCond .eq 246, 3) := by decide +kernel
theorem dX11_goHour_29 : decode cX11_goHour 29 = .ok (.aload_n 0, 1) := by decide +kernel
theorem dX11_goHour_30 : decode cX11_goHour 30 = .ok (.getfield 69, 3) := by decide +kernel
theorem dX11_goHour_33 : decode cX11_goHour 33 = .ok (.iload 4, 2) := by decide +kernel
theorem dX11_goHour_35 : decode cX11_goHour 35 = .ok (.iaload, 1) := by decide +kernel
theorem dX11_goHour_36 : decode cX11_goHour 36 = .ok (.istore 5, 2) := by decide +kernel
theorem dX11_goHour_38 : decode cX11_goHour 38 = .ok (.aload_n 0, 1) := by decide +kernel
theorem dX11_goHour_39 : decode cX11_goHour 39 = .ok (.getfield 72, 3) := by decide +kernel
theorem dX11_goHour_42 : decode cX11_goHour 42 = .ok (.iload 4, 2) := by decide +kernel
theorem dX11_goHour_44 : decode cX11_goHour 44 = .ok (.iaload, 1) := by decide +kernel
theorem dX11_goHour_45 : decode cX11_goHour 45 = .ok (.istore 6, 2) := by decide +kernel
theorem dX11_goHour_47 : decode cX11_goHour 47 = .ok (.aload_n 0, 1) := by decide +kernel
theorem dX11_goHour_48 : decode cX11_goHour 48 = .ok (.iload 4, 2) := by decide +kernel
theorem dX11_goHour_50 : decode cX11_goHour 50 = .ok (.iload_n 2, 1) := by decide +kernel
theorem dX11_goHour_51 : decode cX11_goHour 51 = .ok (.invokevirtual 235, 3) := by decide +kernel
theorem dX11_goHour_54 : decode cX11_goHour 54 = .ok (.aload_n 0, 1) := by decide +kernel
theorem dX11_goHour_55 : decode cX11_goHour 55 = .ok (.getfield 51, 3) := by decide +kernel
theorem dX11_goHour_58 : decode cX11_goHour 58 = .ok (.iload_n 2, 1) := by decide +kernel
theorem dX11_goHour_59 : decode cX11_goHour 59 = .ok (.invokestatic 127, 3) := by decide +kernel
theorem dX11_goHour_62 : decode cX11_goHour 62 = .ok (.ifCond .eq 19, 3) := by decide +kernel
theorem dX11_goHour_65 : decode cX11_goHour 65 = .ok (.iconst 2, 1) := by decide +kernel
theorem dX11_goHour_66 : decode cX11_goHour 66 = .ok (.aload_n 0, 1) := by decide +kernel
theorem dX11_goHour_67 : decode cX11_goHour 67 = .ok (.getfield 7, 3) := by decide +kernel
theorem dX11_goHour_70 : decode cX11_goHour 70 = .ok (.iconst 4, 1) := by decide +kernel
theorem dX11_goHour_71 : decode cX11_goHour 71 = .ok (.iload 4, 2) := by decide +kernel
theorem dX11_goHour_73 : decode cX11_goHour 73 = .ok (.imul, 1) := by decide +kernel
theorem dX11_goHour_74 : decode cX11_goHour 74 = .ok (.iconst 3, 1) := by decide +kernel
theorem dX11_goHour_75 : decode cX11_goHour 75 = .ok (.iadd, 1) := by decide +kernel
theorem dX11_goHour_76 : decode cX11_goHour 76 = .ok (.iaload, 1) := by decide +kernel
theorem dX11_goHour_77 : decode cX11_goHour 77 = .ok (.imul, 1) := by decide +kernel
theorem dX11_goHour_78 : decode cX11_goHour 78 = .ok (.goto 4, 3) := by decide +kernel
theorem dX11_goHour_81 : decode cX11_goHour 81 = .ok (.iconst 0, 1) := by decide +kernel
theorem dX11_goHour_82 : decode cX11_goHour 82 = .ok (.iadd, 1) := by decide +kernel
theorem dX11_goHour_83 : decode cX11_goHour 83 = .ok (.iload 6, 2) := by decide +kernel
theorem dX11_goHour_85 : decode cX11_goHour 85 = .ok (.iload 5, 2) := by decide +kernel
theorem dX11_goHour_87 : decode cX11_goHour 87 = .ok (.isub, 1) := by decide +kernel
theorem dX11_goHour_88 : decode cX11_goHour 88 = .ok (.aload_n 0, 1) := by decide +kernel
theorem dX11_goHour_89 : decode cX11_goHour 89 = .ok (.getfield 41, 3) := by decide +kernel
theorem dX11_goHour_92 : decode cX11_goHour 92 = .ok (.imul, 1) := by decide +kernel
theorem dX11_goHour_93 : decode cX11_goHour 93 = .ok (.bipush 100, 2) := by decide +kernel
theorem dX11_goHour_95 : decode cX11_goHour 95 = .ok (.idiv, 1) := by decide +kernel
theorem dX11_goHour_96 : decode cX11_goHour 96 = .ok (.iadd, 1) := by decide +kernel
theorem dX11_goHour_97 : decode cX11_goHour 97 = .ok (.istore 7, 2) := by decide +kernel
theorem dX11_goHour_99 : decode cX11_goHour 99 = .ok (.iconst 0, 1) := by decide +kernel
theorem dX11_goHour_100 : decode cX11_goHour 100 = .ok (.istore 8, 2) := by decide +kernel
theorem dX11_goHour_102 : decode cX11_goHour 102 = .ok (.iload 8, 2) := by decide +kernel
theorem dX11_goHour_104 : decode cX11_goHour 104 = .ok (.iconst 5, 1) := by decide +kernel
theorem dX11_goHour_105 : decode cX11_goHour 105 = .ok (.if_icmp .ge 60, 3) := by decide +kernel
theorem dX11_goHour_108 : decode cX11_goHour 108 = .ok (.iload 7, 2) := by decide +kernel
theorem dX11_goHour_110 : decode cX11_goHour 110 = .ok (.iload 8, 2) := by decide +kernel
theorem dX11_goHour_112 : decode cX11_goHour 112 = .ok (.iload 4, 2) := by decide +kernel
theorem dX11_goHour_114 : decode cX11_goHour 114 = .ok (.if_icmp .eq 41, 3) := by decide +kernel
theorem dX11_goHour_117 : decode cX11_goHour 117 = .ok (.aload_n 0, 1) := by decide +kernel
theorem dX11_goHour_118 : decode cX11_goHour 118 = .ok (.iload 8, 2) := by decide +kernel
theorem dX11_goHour_120 : decode cX11_goHour 120 = .ok (.invokevirtual 222, 3) := by decide +kernel
theorem dX11_goHour_123 : decode cX11_goHour 123 = .ok (.ifCond .eq 32, 3) := by decide +kernel
theorem dX11_goHour_126 : decode cX11_goHour 126 = .ok (.aload_n 0, 1) := by decide +kernel
theorem dX11_goHour_127 : decode cX11_goHour 127 = .ok (.getfield 69, 3) := by decide +kernel
theorem dX11_goHour_130 : decode cX11_goHour 130 = .ok (.iload 8, 2) := by decide +kernel
theorem dX11_goHour_132 : decode cX11_goHour 132 = .ok (.iaload, 1) := by decide +kernel
theorem dX11_goHour_133 : decode cX11_goHour 133 = .ok (.iload 5, 2) := by decide +kernel
theorem dX11_goHour_135 : decode cX11_goHour 135 = .ok (.isub, 1) := by decide +kernel
theorem dX11_goHour_136 : decode cX11_goHour 136 = .ok (.aload_n 0, 1) := by decide +kernel
theorem dX11_goHour_137 : decode cX11_goHour 137 = .ok (.getfield 22, 3) := by decide +kernel
theorem dX11_goHour_140 : decode cX11_goHour 140 = .ok (.iconst 5, 1) := by decide +kernel
theorem dX11_goHour_141 : decode cX11_goHour 141 = .ok (.iload 4, 2) := by decide +kernel
theorem dX11_goHour_143 : decode cX11_goHour 143 = .ok (.imul, 1) := by decide +kernel
theorem dX11_goHour_144 : decode cX11_goHour 144 = .ok (.iload 8, 2) := by decide +kernel
theorem dX11_goHour_146 : decode cX11_goHour 146 = .ok (.iadd, 1) := by decide +kernel
theorem dX11_goHour_147 : decode cX11_goHour 147 = .ok (.iaload, 1) := by decide +kernel
theorem dX11_goHour_148 : decode cX11_goHour 148 = .ok (.imul, 1) := by decide +kernel
theorem dX11_goHour_149 : decode cX11_goHour 149 = .ok (.bipush 100, 2) := by decide +kernel
theorem dX11_goHour_151 : decode cX11_goHour 151 = .ok (.idiv, 1) := by decide +kernel
theorem dX11_goHour_152 : decode cX11_goHour 152 = .ok (.goto 4, 3) := by decide +kernel
theorem dX11_goHour_155 : decode cX11_goHour 155 = .ok (.iconst 0, 1) := by decide +kernel
theorem dX11_goHour_156 : decode cX11_goHour 156 = .ok (.iadd, 1) := by decide +kernel
theorem dX11_goHour_157 : decode cX11_goHour 157 = .ok (.istore 7, 2) := by decide +kernel
theorem dX11_goHour_159 : decode cX11_goHour 159 = .ok (.iinc 8 1, 3) := by decide +kernel
theorem dX11_goHour_162 : decode cX11_goHour 162 = .ok (.goto (-60), 3) := by decide +kernel
theorem dX11_goHour_165 : decode cX11_goHour 165 = .ok (.aload_n 0, 1) := by decide +kernel
theorem dX11_goHour_166 : decode cX11_goHour 166 = .ok (.iload 4, 2) := by decide +kernel
theorem dX11_goHour_168 : decode cX11_goHour 168 = .ok (.iload_n 1, 1) := by decide +kernel
theorem dX11_goHour_169 : decode cX11_goHour 169 = .ok (.invokevirtual 238, 3) := by decide +kernel
theorem dX11_goHour_172 : decode cX11_goHour 172 = .ok (.istore 8, 2) := by decide +kernel
theorem dX11_goHour_174 : decode cX11_goHour 174 = .ok (.iload 7, 2) := by decide +kernel
theorem dX11_goHour_176 : decode cX11_goHour 176 = .ok (.iload 8, 2) := by decide +kernel
theorem dX11_goHour_178 : decode cX11_goHour 178 = .ok (.ifCond .eq 18, 3) := by decide +kernel
theorem dX11_goHour_181 : decode cX11_goHour 181 = .ok (.iload_n 3, 1) := by decide +kernel
theorem dX11_goHour_182 : decode cX11_goHour 182 = .ok (.iload 5, 2) := by decide +kernel
theorem dX11_goHour_184 : decode cX11_goHour 184 = .ok (.isub, 1) := by decide +kernel
theorem dX11_goHour_185 : decode cX11_goHour 185 = .ok (.aload_n 0, 1) := by decide +kernel
theorem dX11_goHour_186 : decode cX11_goHour 186 = .ok (.getfield 47, 3) := by decide +kernel
theorem dX11_goHour_189 : decode cX11_goHour 189 = .ok (.imul, 1) := by decide +kernel
theorem dX11_goHour_190 : decode cX11_goHour 190 = .ok (.bipush 100, 2) := by decide +kernel
theorem dX11_goHour_192 : decode cX11_goHour 192 = .ok (.idiv, 1) := by decide +kernel
theorem dX11_goHour_193 : decode cX11_goHour 193 = .ok (.goto 4, 3) := by decide +kernel
theorem dX11_goHour_196 : decode cX11_goHour 196 = .ok (.iconst 0, 1) := by decide +kernel
theorem dX11_goHour_197 : decode cX11_goHour 197 = .ok (.iadd, 1) := by decide +kernel
theorem dX11_goHour_198 : decode cX11_goHour 198 = .ok (.istore 7, 2) := by decide +kernel
theorem dX11_goHour_200 : decode cX11_goHour 200 = .ok (.aload_n 0, 1) := by decide +kernel
theorem dX11_goHour_201 : decode cX11_goHour 201 = .ok (.getfield 75, 3) := by decide +kernel
theorem dX11_goHour_204 : decode cX11_goHour 204 = .ok (.iload 4, 2) := by decide +kernel
theorem dX11_goHour_206 : decode cX11_goHour 206 = .ok (.iload 5, 2) := by decide +kernel
theorem dX11_goHour_208 : decode cX11_goHour 208 = .ok (.iload 7, 2) := by decide +kernel
theorem dX11_goHour_210 : decode cX11_goHour 210 = .ok (.iadd, 1) := by decide +kernel
theorem dX11_goHour_211 : decode cX11_goHour 211 = .ok (.iastore, 1) := by decide +kernel
theorem dX11_goHour_212 : decode cX11_goHour 212 = .ok (.aload_n 0, 1) := by decide +kernel
theorem dX11_goHour_213 : decode cX11_goHour 213 = .ok (.getfield 78, 3) := by decide +kernel
theorem dX11_goHour_216 : decode cX11_goHour 216 = .ok (.iload 4, 2) := by decide +kernel
theorem dX11_goHour_218 : decode cX11_goHour 218 = .ok (.iload 6, 2) := by decide +kernel
theorem dX11_goHour_220 : decode cX11_goHour 220 = .ok (.iload 5, 2) := by decide +kernel
theorem dX11_goHour_222 : decode cX11_goHour 222 = .ok (.iload 6, 2) := by decide +kernel
theorem dX11_goHour_224 : decode cX11_goHour 224 = .ok (.isub, 1) := by decide +kernel
theorem dX11_goHour_225 : decode cX11_goHour 225 = .ok (.aload_n 0, 1) := by decide +kernel
theorem dX11_goHour_226 : decode cX11_goHour 226 = .ok (.getfield 38, 3) := by decide +kernel
theorem dX11_goHour_229 : decode cX11_goHour 229 = .ok (.imul, 1) := by decide +kernel
theorem dX11_goHour_230 : decode cX11_goHour 230 = .ok (.bipush 100, 2) := by decide +kernel
theorem dX11_goHour_232 : decode cX11_goHour 232 = .ok (.idiv, 1) := by decide +kernel
theorem dX11_goHour_233 : decode cX11_goHour 233 = .ok (.iadd, 1) := by decide +kernel
theorem dX11_goHour_234 : decode cX11_goHour 234 = .ok (.iload_n 3, 1) := by decide +kernel
theorem dX11_goHour_235 : decode cX11_goHour 235 = .ok (.iload 6, 2) := by decide +kernel
theorem dX11_goHour_237 : decode cX11_goHour 237 = .ok (.isub, 1) := by decide +kernel
theorem dX11_goHour_238 : decode cX11_goHour 238 = .ok (.aload_n 0, 1) := by decide +kernel
theorem dX11_goHour_239 : decode cX11_goHour 239 = .ok (.iload 4, 2) := by decide +kernel
theorem dX11_goHour_241 : decode cX11_goHour 241 = .ok (.invokevirtual 241, 3) := by decide +kernel
theorem dX11_goHour_244 : decode cX11_goHour 244 = .ok (.imul, 1) := by decide +kernel
theorem dX11_goHour_245 : decode cX11_goHour 245 = .ok (.bipush 100, 2) := by decide +kernel
theorem dX11_goHour_247 : decode cX11_goHour 247 = .ok (.idiv, 1) := by decide +kernel
theorem dX11_goHour_248 : decode cX11_goHour 248 = .ok (.iadd, 1) := by decide +kernel
theorem dX11_goHour_249 : decode cX11_goHour 249 = .ok (.iastore, 1) := by decide +kernel
theorem dX11_goHour_250 : decode cX11_goHour 250 = .ok (.aload_n 0, 1) := by decide +kernel
theorem dX11_goHour_251 : decode cX11_goHour 251 = .ok (.getfield 66, 3) := by decide +kernel
theorem dX11_goHour_254 : decode cX11_goHour 254 = .ok (.bipush 96, 2) := by decide +kernel
theorem dX11_goHour_256 : decode cX11_goHour 256 = .ok (.iload 4, 2) := by decide +kernel
theorem dX11_goHour_258 : decode cX11_goHour 258 = .ok (.imul, 1) := by decide +kernel
theorem dX11_goHour_259 : decode cX11_goHour 259 = .ok (.iload_n 1, 1) := by decide +kernel
theorem dX11_goHour_260 : decode cX11_goHour 260 = .ok (.iadd, 1) := by decide +kernel
theorem dX11_goHour_261 : decode cX11_goHour 261 = .ok (.iload 8, 2) := by decide +kernel
theorem dX11_goHour_263 : decode cX11_goHour 263 = .ok (.ifCond .eq 7, 3) := by decide +kernel
theorem dX11_goHour_266 : decode cX11_goHour 266 = .ok (.iconst 1, 1) := by decide +kernel
theorem dX11_goHour_267 : decode cX11_goHour 267 = .ok (.goto 4, 3) := by decide +kernel
theorem dX11_goHour_270 : decode cX11_goHour 270 = .ok (.iconst 0, 1) := by decide +kernel
theorem dX11_goHour_271 : decode cX11_goHour 271 = .ok (.iastore, 1) := by decide +kernel
theorem dX11_goHour_272 : decode cX11_goHour 272 = .ok (.iinc 4 1, 3) := by decide +kernel
theorem dX11_goHour_275 : decode cX11_goHour 275 = .ok (.goto (-261), 3) := by decide +kernel
theorem dX11_goHour_278 : decode cX11_goHour 278 = .ok (.iconst 0, 1) := by decide +kernel
theorem dX11_goHour_279 : decode cX11_goHour 279 = .ok (.istore 4, 2) := by decide +kernel
theorem dX11_goHour_281 : decode cX11_goHour 281 = .ok (.iload 4, 2) := by decide +kernel
theorem dX11_goHour_283 : decode cX11_goHour 283 = .ok (.iconst 5, 1) := by decide +kernel
theorem dX11_goHour_284 : decode cX11_goHour 284 = .ok (.if_icmp .ge 75, 3) := by decide +kernel
theorem dX11_goHour_287 : decode cX11_goHour 287 = .ok (.aload_n 0, 1) := by decide +kernel
theorem dX11_goHour_288 : decode cX11_goHour 288 = .ok (.getfield 69, 3) := by decide +kernel
theorem dX11_goHour_291 : decode cX11_goHour 291 = .ok (.iload 4, 2) := by decide +kernel
theorem dX11_goHour_293 : decode cX11_goHour 293 = .ok (.aload_n 0, 1) := by decide +kernel
theorem dX11_goHour_294 : decode cX11_goHour 294 = .ok (.getfield 75, 3) := by decide +kernel
theorem dX11_goHour_297 : decode cX11_goHour 297 = .ok (.iload 4, 2) := by decide +kernel
theorem dX11_goHour_299 : decode cX11_goHour 299 = .ok (.iaload, 1) := by decide +kernel
theorem dX11_goHour_300 : decode cX11_goHour 300 = .ok (.iastore, 1) := by decide +kernel
theorem dX11_goHour_301 : decode cX11_goHour 301 = .ok (.aload_n 0, 1) := by decide +kernel
theorem dX11_goHour_302 : decode cX11_goHour 302 = .ok (.getfield 72, 3) := by decide +kernel
theorem dX11_goHour_305 : decode cX11_goHour 305 = .ok (.iload 4, 2) := by decide +kernel
theorem dX11_goHour_307 : decode cX11_goHour 307 = .ok (.aload_n 0, 1) := by decide +kernel
theorem dX11_goHour_308 : decode cX11_goHour 308 = .ok (.getfield 78, 3) := by decide +kernel
theorem dX11_goHour_311 : decode cX11_goHour 311 = .ok (.iload 4, 2) := by decide +kernel
theorem dX11_goHour_313 : decode cX11_goHour 313 = .ok (.iaload, 1) := by decide +kernel
theorem dX11_goHour_314 : decode cX11_goHour 314 = .ok (.iastore, 1) := by decide +kernel
theorem dX11_goHour_315 : decode cX11_goHour 315 = .ok (.aload_n 0, 1) := by decide +kernel
theorem dX11_goHour_316 : decode cX11_goHour 316 = .ok (.getfield 60, 3) := by decide +kernel
theorem dX11_goHour_319 : decode cX11_goHour 319 = .ok (.bipush 96, 2) := by decide +kernel
theorem dX11_goHour_321 : decode cX11_goHour 321 = .ok (.iload 4, 2) := by decide +kernel
theorem dX11_goHour_323 : decode cX11_goHour 323 = .ok (.imul, 1) := by decide +kernel
theorem dX11_goHour_324 : decode cX11_goHour 324 = .ok (.iload_n 1, 1) := by decide +kernel
theorem dX11_goHour_325 : decode cX11_goHour 325 = .ok (.iadd, 1) := by decide +kernel
theorem dX11_goHour_326 : decode cX11_goHour 326 = .ok (.aload_n 0, 1) := by decide +kernel
theorem dX11_goHour_327 : decode cX11_goHour 327 = .ok (.getfield 69, 3) := by decide +kernel
theorem dX11_goHour_330 : decode cX11_goHour 330 = .ok (.iload 4, 2) := by decide +kernel
theorem dX11_goHour_332 : decode cX11_goHour 332 = .ok (.iaload, 1) := by decide +kernel
theorem dX11_goHour_333 : decode cX11_goHour 333 = .ok (.iastore, 1) := by decide +kernel
theorem dX11_goHour_334 : decode cX11_goHour 334 = .ok (.aload_n 0, 1) := by decide +kernel
theorem dX11_goHour_335 : decode cX11_goHour 335 = .ok (.getfield 63, 3) := by decide +kernel
theorem dX11_goHour_338 : decode cX11_goHour 338 = .ok (.bipush 96, 2) := by decide +kernel
theorem dX11_goHour_340 : decode cX11_goHour 340 = .ok (.iload 4, 2) := by decide +kernel
theorem dX11_goHour_342 : decode cX11_goHour 342 = .ok (.imul, 1) := by decide +kernel
theorem dX11_goHour_343 : decode cX11_goHour 343 = .ok (.iload_n 1, 1) := by decide +kernel
theorem dX11_goHour_344 : decode cX11_goHour 344 = .ok (.iadd, 1) := by decide +kernel
theorem dX11_goHour_345 : decode cX11_goHour 345 = .ok (.aload_n 0, 1) := by decide +kernel
theorem dX11_goHour_346 : decode cX11_goHour 346 = .ok (.getfield 72, 3) := by decide +kernel
theorem dX11_goHour_349 : decode cX11_goHour 349 = .ok (.iload 4, 2) := by decide +kernel
theorem dX11_goHour_351 : decode cX11_goHour 351 = .ok (.iaload, 1) := by decide +kernel
theorem dX11_goHour_352 : decode cX11_goHour 352 = .ok (.iastore, 1) := by decide +kernel
theorem dX11_goHour_353 : decode cX11_goHour 353 = .ok (.iinc 4 1, 3) := by decide +kernel
theorem dX11_goHour_356 : decode cX11_goHour 356 = .ok (.goto (-75), 3) := by decide +kernel
theorem dX11_goHour_359 : decode cX11_goHour 359 = .ok (.return_, 1) := by decide +kernel
theorem dX11_asTold_0 : decode cX11_asTold 0 = .ok (.iconst 0, 1) := by decide +kernel
theorem dX11_asTold_1 : decode cX11_asTold 1 = .ok (.istore_n 1, 1) := by decide +kernel
theorem dX11_asTold_2 : decode cX11_asTold 2 = .ok (.iload_n 1, 1) := by decide +kernel
theorem dX11_asTold_3 : decode cX11_asTold 3 = .ok (.iconst 5, 1) := by decide +kernel
theorem dX11_asTold_4 : decode cX11_asTold 4 = .ok (.if_icmp .ge 33, 3) := by decide +kernel
theorem dX11_asTold_7 : decode cX11_asTold 7 = .ok (.aload_n 0, 1) := by decide +kernel
theorem dX11_asTold_8 : decode cX11_asTold 8 = .ok (.getfield 81, 3) := by decide +kernel
theorem dX11_asTold_11 : decode cX11_asTold 11 = .ok (.iload_n 1, 1) := by decide +kernel
theorem dX11_asTold_12 : decode cX11_asTold 12 = .ok (.aload_n 0, 1) := by decide +kernel
theorem dX11_asTold_13 : decode cX11_asTold 13 = .ok (.getfield 13, 3) := by decide +kernel
theorem dX11_asTold_16 : decode cX11_asTold 16 = .ok (.iload_n 1, 1) := by decide +kernel
theorem dX11_asTold_17 : decode cX11_asTold 17 = .ok (.iaload, 1) := by decide +kernel
theorem dX11_asTold_18 : decode cX11_asTold 18 = .ok (.iastore, 1) := by decide +kernel
theorem dX11_asTold_19 : decode cX11_asTold 19 = .ok (.aload_n 0, 1) := by decide +kernel
theorem dX11_asTold_20 : decode cX11_asTold 20 = .ok (.getfield 84, 3) := by decide +kernel
theorem dX11_asTold_23 : decode cX11_asTold 23 = .ok (.iload_n 1, 1) := by decide +kernel
theorem dX11_asTold_24 : decode cX11_asTold 24 = .ok (.aload_n 0, 1) := by decide +kernel
theorem dX11_asTold_25 : decode cX11_asTold 25 = .ok (.getfield 16, 3) := by decide +kernel
theorem dX11_asTold_28 : decode cX11_asTold 28 = .ok (.iload_n 1, 1) := by decide +kernel
theorem dX11_asTold_29 : decode cX11_asTold 29 = .ok (.iaload, 1) := by decide +kernel
theorem dX11_asTold_30 : decode cX11_asTold 30 = .ok (.iastore, 1) := by decide +kernel
theorem dX11_asTold_31 : decode cX11_asTold 31 = .ok (.iinc 1 1, 3) := by decide +kernel
theorem dX11_asTold_34 : decode cX11_asTold 34 = .ok (.goto (-32), 3) := by decide +kernel
theorem dX11_asTold_37 : decode cX11_asTold 37 = .ok (.aload_n 0, 1) := by decide +kernel
theorem dX11_asTold_38 : decode cX11_asTold 38 = .ok (.iconst 0, 1) := by decide +kernel
theorem dX11_asTold_39 : decode cX11_asTold 39 = .ok (.putfield 232, 3) := by decide +kernel
theorem dX11_asTold_42 : decode cX11_asTold 42 = .ok (.return_, 1) := by decide +kernel
theorem dX11_goWeek_0 : decode cX11_goWeek 0 = .ok (.iconst 0, 1) := by decide +kernel
theorem dX11_goWeek_1 : decode cX11_goWeek 1 = .ok (.istore_n 1, 1) := by decide +kernel
theorem dX11_goWeek_2 : decode cX11_goWeek 2 = .ok (.iload_n 1, 1) := by decide +kernel
theorem dX11_goWeek_3 : decode cX11_goWeek 3 = .ok (.iconst 5, 1) := by decide +kernel
theorem dX11_goWeek_4 : decode cX11_goWeek 4 = .ok (.if_icmp .ge 53, 3) := by decide +kernel
theorem dX11_goWeek_7 : decode cX11_goWeek 7 = .ok (.aload_n 0, 1) := by decide +kernel
theorem dX11_goWeek_8 : decode cX11_goWeek 8 = .ok (.getfield 69, 3) := by decide +kernel
theorem dX11_goWeek_11 : decode cX11_goWeek 11 = .ok (.iload_n 1, 1) := by decide +kernel
theorem dX11_goWeek_12 : decode cX11_goWeek 12 = .ok (.aload_n 0, 1) := by decide +kernel
theorem dX11_goWeek_13 : decode cX11_goWeek 13 = .ok (.getfield 7, 3) := by decide +kernel
theorem dX11_goWeek_16 : decode cX11_goWeek 16 = .ok (.iconst 4, 1) := by decide +kernel
theorem dX11_goWeek_17 : decode cX11_goWeek 17 = .ok (.iload_n 1, 1) := by decide +kernel
theorem dX11_goWeek_18 : decode cX11_goWeek 18 = .ok (.imul, 1) := by decide +kernel
theorem dX11_goWeek_19 : decode cX11_goWeek 19 = .ok (.iaload, 1) := by decide +kernel
theorem dX11_goWeek_20 : decode cX11_goWeek 20 = .ok (.iastore, 1) := by decide +kernel
theorem dX11_goWeek_21 : decode cX11_goWeek 21 = .ok (.aload_n 0, 1) := by decide +kernel
theorem dX11_goWeek_22 : decode cX11_goWeek 22 = .ok (.getfield 72, 3) := by decide +kernel
theorem dX11_goWeek_25 : decode cX11_goWeek 25 = .ok (.iload_n 1, 1) := by decide +kernel
theorem dX11_goWeek_26 : decode cX11_goWeek 26 = .ok (.aload_n 0, 1) := by decide +kernel
theorem dX11_goWeek_27 : decode cX11_goWeek 27 = .ok (.getfield 7, 3) := by decide +kernel
theorem dX11_goWeek_30 : decode cX11_goWeek 30 = .ok (.iconst 4, 1) := by decide +kernel
theorem dX11_goWeek_31 : decode cX11_goWeek 31 = .ok (.iload_n 1, 1) := by decide +kernel
theorem dX11_goWeek_32 : decode cX11_goWeek 32 = .ok (.imul, 1) := by decide +kernel
theorem dX11_goWeek_33 : decode cX11_goWeek 33 = .ok (.iconst 1, 1) := by decide +kernel
theorem dX11_goWeek_34 : decode cX11_goWeek 34 = .ok (.iadd, 1) := by decide +kernel
theorem dX11_goWeek_35 : decode cX11_goWeek 35 = .ok (.iaload, 1) := by decide +kernel
theorem dX11_goWeek_36 : decode cX11_goWeek 36 = .ok (.iastore, 1) := by decide +kernel
theorem dX11_goWeek_37 : decode cX11_goWeek 37 = .ok (.aload_n 0, 1) := by decide +kernel
theorem dX11_goWeek_38 : decode cX11_goWeek 38 = .ok (.getfield 75, 3) := by decide +kernel
theorem dX11_goWeek_41 : decode cX11_goWeek 41 = .ok (.iload_n 1, 1) := by decide +kernel
theorem dX11_goWeek_42 : decode cX11_goWeek 42 = .ok (.iconst 0, 1) := by decide +kernel
theorem dX11_goWeek_43 : decode cX11_goWeek 43 = .ok (.iastore, 1) := by decide +kernel
theorem dX11_goWeek_44 : decode cX11_goWeek 44 = .ok (.aload_n 0, 1) := by decide +kernel
theorem dX11_goWeek_45 : decode cX11_goWeek 45 = .ok (.getfield 78, 3) := by decide +kernel
theorem dX11_goWeek_48 : decode cX11_goWeek 48 = .ok (.iload_n 1, 1) := by decide +kernel
theorem dX11_goWeek_49 : decode cX11_goWeek 49 = .ok (.iconst 0, 1) := by decide +kernel
theorem dX11_goWeek_50 : decode cX11_goWeek 50 = .ok (.iastore, 1) := by decide +kernel
theorem dX11_goWeek_51 : decode cX11_goWeek 51 = .ok (.iinc 1 1, 3) := by decide +kernel
theorem dX11_goWeek_54 : decode cX11_goWeek 54 = .ok (.goto (-52), 3) := by decide +kernel
theorem dX11_goWeek_57 : decode cX11_goWeek 57 = .ok (.iconst 0, 1) := by decide +kernel
theorem dX11_goWeek_58 : decode cX11_goWeek 58 = .ok (.istore_n 1, 1) := by decide +kernel
theorem dX11_goWeek_59 : decode cX11_goWeek 59 = .ok (.iload_n 1, 1) := by decide +kernel
theorem dX11_goWeek_60 : decode cX11_goWeek 60 = .ok (.bipush 96, 2) := by decide +kernel
theorem dX11_goWeek_62 : decode cX11_goWeek 62 = .ok (.if_icmp .ge 14, 3) := by decide +kernel
theorem dX11_goWeek_65 : decode cX11_goWeek 65 = .ok (.aload_n 0, 1) := by decide +kernel
theorem dX11_goWeek_66 : decode cX11_goWeek 66 = .ok (.iload_n 1, 1) := by decide +kernel
theorem dX11_goWeek_67 : decode cX11_goWeek 67 = .ok (.invokevirtual 244, 3) := by decide +kernel
theorem dX11_goWeek_70 : decode cX11_goWeek 70 = .ok (.iinc 1 1, 3) := by decide +kernel
theorem dX11_goWeek_73 : decode cX11_goWeek 73 = .ok (.goto (-14), 3) := by decide +kernel
theorem dX11_goWeek_76 : decode cX11_goWeek 76 = .ok (.return_, 1) := by decide +kernel
theorem dX11_nightOf_0 : decode cX11_nightOf 0 = .ok (.iconst 0, 1) := by decide +kernel
theorem dX11_nightOf_1 : decode cX11_nightOf 1 = .ok (.istore_n 2, 1) := by decide +kernel
theorem dX11_nightOf_2 : decode cX11_nightOf 2 = .ok (.iconst 0, 1) := by decide +kernel
theorem dX11_nightOf_3 : decode cX11_nightOf 3 = .ok (.istore_n 3, 1) := by decide +kernel
theorem dX11_nightOf_4 : decode cX11_nightOf 4 = .ok (.iload_n 3, 1) := by decide +kernel
theorem dX11_nightOf_5 : decode cX11_nightOf 5 = .ok (.bipush 96, 2) := by decide +kernel
theorem dX11_nightOf_7 : decode cX11_nightOf 7 = .ok (.if_icmp .ge 47, 3) := by decide +kernel
theorem dX11_nightOf_10 : decode cX11_nightOf 10 = .ok (.iload_n 3, 1) := by decide +kernel
theorem dX11_nightOf_11 : decode cX11_nightOf 11 = .ok (.bipush 24, 2) := by decide +kernel
theorem dX11_nightOf_13 : decode cX11_nightOf 13 = .ok (.irem, 1) := by decide +kernel
theorem dX11_nightOf_14 : decode cX11_nightOf 14 = .ok (.istore 4, 2) := by decide +kernel
theorem dX11_nightOf_16 : decode cX11_nightOf 16 = .ok (.iload_n 2, 1) := by decide +kernel
theorem dX11_nightOf_17 : decode cX11_nightOf 17 = .ok (.iload 4, 2) := by decide +kernel
theorem dX11_nightOf_19 : decode cX11_nightOf 19 = .ok (.bipush 21, 2) := by decide +kernel
theorem dX11_nightOf_21 : decode cX11_nightOf 21 = .ok (.if_icmp .gt 10, 3) := by decide +kernel
theorem dX11_nightOf_24 : decode cX11_nightOf 24 = .ok (.iload 4, 2) := by decide +kernel
theorem dX11_nightOf_26 : decode cX11_nightOf 26 = .ok (.bipush 6, 2) := by decide +kernel
theorem dX11_nightOf_28 : decode cX11_nightOf 28 = .ok (.if_icmp .ge 17, 3) := by decide +kernel
theorem dX11_nightOf_31 : decode cX11_nightOf 31 = .ok (.aload_n 0, 1) := by decide +kernel
theorem dX11_nightOf_32 : decode cX11_nightOf 32 = .ok (.getfield 60, 3) := by decide +kernel
theorem dX11_nightOf_35 : decode cX11_nightOf 35 = .ok (.bipush 96, 2) := by decide +kernel
theorem dX11_nightOf_37 : decode cX11_nightOf 37 = .ok (.iload_n 1, 1) := by decide +kernel
theorem dX11_nightOf_38 : decode cX11_nightOf 38 = .ok (.imul, 1) := by decide +kernel
theorem dX11_nightOf_39 : decode cX11_nightOf 39 = .ok (.iload_n 3, 1) := by decide +kernel
theorem dX11_nightOf_40 : decode cX11_nightOf 40 = .ok (.iadd, 1) := by decide +kernel
theorem dX11_nightOf_41 : decode cX11_nightOf 41 = .ok (.iaload, 1) := by decide +kernel
theorem dX11_nightOf_42 : decode cX11_nightOf 42 = .ok (.goto 4, 3) := by decide +kernel
theorem dX11_nightOf_45 : decode cX11_nightOf 45 = .ok (.iconst 0, 1) := by decide +kernel
theorem dX11_nightOf_46 : decode cX11_nightOf 46 = .ok (.iadd, 1) := by decide +kernel
theorem dX11_nightOf_47 : decode cX11_nightOf 47 = .ok (.istore_n 2, 1) := by decide +kernel
theorem dX11_nightOf_48 : decode cX11_nightOf 48 = .ok (.iinc 3 1, 3) := by decide +kernel
theorem dX11_nightOf_51 : decode cX11_nightOf 51 = .ok (.goto (-47), 3) := by decide +kernel
theorem dX11_nightOf_54 : decode cX11_nightOf 54 = .ok (.iload_n 2, 1) := by decide +kernel
theorem dX11_nightOf_55 : decode cX11_nightOf 55 = .ok (.ireturn, 1) := by decide +kernel
theorem dX11_nightOfAll_0 : decode cX11_nightOfAll 0 = .ok (.aload_n 0, 1) := by decide +kernel
theorem dX11_nightOfAll_1 : decode cX11_nightOfAll 1 = .ok (.invokevirtual 247, 3) := by decide +kernel
theorem dX11_nightOfAll_4 : decode cX11_nightOfAll 4 = .ok (.iconst 0, 1) := by decide +kernel
theorem dX11_nightOfAll_5 : decode cX11_nightOfAll 5 = .ok (.istore_n 1, 1) := by decide +kernel
theorem dX11_nightOfAll_6 : decode cX11_nightOfAll 6 = .ok (.iconst 0, 1) := by decide +kernel
theorem dX11_nightOfAll_7 : decode cX11_nightOfAll 7 = .ok (.istore_n 2, 1) := by decide +kernel
theorem dX11_nightOfAll_8 : decode cX11_nightOfAll 8 = .ok (.iload_n 2, 1) := by decide +kernel
theorem dX11_nightOfAll_9 : decode cX11_nightOfAll 9 = .ok (.iconst 5, 1) := by decide +kernel
theorem dX11_nightOfAll_10 : decode cX11_nightOfAll 10 = .ok (.if_icmp .ge 29, 3) := by decide +kernel
theorem dX11_nightOfAll_13 : decode cX11_nightOfAll 13 = .ok (.iload_n 1, 1) := by decide +kernel
theorem dX11_nightOfAll_14 : decode cX11_nightOfAll 14 = .ok (.aload_n 0, 1) := by decide +kernel
theorem dX11_nightOfAll_15 : decode cX11_nightOfAll 15 = .ok (.iload_n 2, 1) := by decide +kernel
theorem dX11_nightOfAll_16 : decode cX11_nightOfAll 16 = .ok (.invokevirtual 222, 3) := by decide +kernel
theorem dX11_nightOfAll_19 : decode cX11_nightOfAll 19 = .ok (.ifCond .eq 11, 3) := by decide +kernel
theorem dX11_nightOfAll_22 : decode cX11_nightOfAll 22 = .ok (.aload_n 0, 1) := by decide +kernel
theorem dX11_nightOfAll_23 : decode cX11_nightOfAll 23 = .ok (.iload_n 2, 1) := by decide +kernel
theorem dX11_nightOfAll_24 : decode cX11_nightOfAll 24 = .ok (.invokevirtual 250, 3) := by decide +kernel
theorem dX11_nightOfAll_27 : decode cX11_nightOfAll 27 = .ok (.goto 4, 3) := by decide +kernel
theorem dX11_nightOfAll_30 : decode cX11_nightOfAll 30 = .ok (.iconst 0, 1) := by decide +kernel
theorem dX11_nightOfAll_31 : decode cX11_nightOfAll 31 = .ok (.iadd, 1) := by decide +kernel
theorem dX11_nightOfAll_32 : decode cX11_nightOfAll 32 = .ok (.istore_n 1, 1) := by decide +kernel
theorem dX11_nightOfAll_33 : decode cX11_nightOfAll 33 = .ok (.iinc 2 1, 3) := by decide +kernel
theorem dX11_nightOfAll_36 : decode cX11_nightOfAll 36 = .ok (.goto (-28), 3) := by decide +kernel
theorem dX11_nightOfAll_39 : decode cX11_nightOfAll 39 = .ok (.iload_n 1, 1) := by decide +kernel
theorem dX11_nightOfAll_40 : decode cX11_nightOfAll 40 = .ok (.ireturn, 1) := by decide +kernel
theorem dX11_warm_0 : decode cX11_warm 0 = .ok (.aload_n 0, 1) := by decide +kernel
theorem dX11_warm_1 : decode cX11_warm 1 = .ok (.iload_n 1, 1) := by decide +kernel
theorem dX11_warm_2 : decode cX11_warm 2 = .ok (.invokevirtual 222, 3) := by decide +kernel
theorem dX11_warm_5 : decode cX11_warm 5 = .ok (.ifCond .eq 13, 3) := by decide +kernel
theorem dX11_warm_8 : decode cX11_warm 8 = .ok (.iload_n 2, 1) := by decide +kernel
theorem dX11_warm_9 : decode cX11_warm 9 = .ok (.iconst 0, 1) := by decide +kernel
theorem dX11_warm_10 : decode cX11_warm 10 = .ok (.bipush 95, 2) := by decide +kernel
theorem dX11_warm_12 : decode cX11_warm 12 = .ok (.invokestatic 120, 3) := by decide +kernel
theorem dX11_warm_15 : decode cX11_warm 15 = .ok (.ifCond .ne 6, 3) := by decide +kernel
theorem dX11_warm_18 : decode cX11_warm 18 = .ok (.bipush (-2), 2) := by decide +kernel
theorem dX11_warm_20 : decode cX11_warm 20 = .ok (.ireturn, 1) := by decide +kernel
theorem dX11_warm_21 : decode cX11_warm 21 = .ok (.iload_n 3, 1) := by decide +kernel
theorem dX11_warm_22 : decode cX11_warm 22 = .ok (.iconst 0, 1) := by decide +kernel
theorem dX11_warm_23 : decode cX11_warm 23 = .ok (.iconst 2, 1) := by decide +kernel
theorem dX11_warm_24 : decode cX11_warm 24 = .ok (.invokestatic 120, 3) := by decide +kernel
theorem dX11_warm_27 : decode cX11_warm 27 = .ok (.ifCond .ne 6, 3) := by decide +kernel
theorem dX11_warm_30 : decode cX11_warm 30 = .ok (.bipush (-3), 2) := by decide +kernel
theorem dX11_warm_32 : decode cX11_warm 32 = .ok (.ireturn, 1) := by decide +kernel
theorem dX11_warm_33 : decode cX11_warm 33 = .ok (.aload_n 0, 1) := by decide +kernel
theorem dX11_warm_34 : decode cX11_warm 34 = .ok (.invokevirtual 253, 3) := by decide +kernel
theorem dX11_warm_37 : decode cX11_warm 37 = .ok (.aload_n 0, 1) := by decide +kernel
theorem dX11_warm_38 : decode cX11_warm 38 = .ok (.invokevirtual 247, 3) := by decide +kernel
theorem dX11_warm_41 : decode cX11_warm 41 = .ok (.bipush 96, 2) := by decide +kernel
theorem dX11_warm_43 : decode cX11_warm 43 = .ok (.iload_n 1, 1) := by decide +kernel
theorem dX11_warm_44 : decode cX11_warm 44 = .ok (.imul, 1) := by decide +kernel
theorem dX11_warm_45 : decode cX11_warm 45 = .ok (.iload_n 2, 1) := by decide +kernel
theorem dX11_warm_46 : decode cX11_warm 46 = .ok (.iadd, 1) := by decide +kernel
theorem dX11_warm_47 : decode cX11_warm 47 = .ok (.istore 4, 2) := by decide +kernel
theorem dX11_warm_49 : decode cX11_warm 49 = .ok (.iload_n 3, 1) := by decide +kernel
theorem dX11_warm_50 : decode cX11_warm 50 = .ok (.ifCond .ne 13, 3) := by decide +kernel
theorem dX11_warm_53 : decode cX11_warm 53 = .ok (.aload_n 0, 1) := by decide +kernel
theorem dX11_warm_54 : decode cX11_warm 54 = .ok (.getfield 60, 3) := by decide +kernel
theorem dX11_warm_57 : decode cX11_warm 57 = .ok (.iload 4, 2) := by decide +kernel
theorem dX11_warm_59 : decode cX11_warm 59 = .ok (.iaload, 1) := by decide +kernel
theorem dX11_warm_60 : decode cX11_warm 60 = .ok (.goto 25, 3) := by decide +kernel
theorem dX11_warm_63 : decode cX11_warm 63 = .ok (.iload_n 3, 1) := by decide +kernel
theorem dX11_warm_64 : decode cX11_warm 64 = .ok (.iconst 1, 1) := by decide +kernel
theorem dX11_warm_65 : decode cX11_warm 65 = .ok (.if_icmp .ne 13, 3) := by decide +kernel
theorem dX11_warm_68 : decode cX11_warm 68 = .ok (.aload_n 0, 1) := by decide +kernel
theorem dX11_warm_69 : decode cX11_warm 69 = .ok (.getfield 63, 3) := by decide +kernel
theorem dX11_warm_72 : decode cX11_warm 72 = .ok (.iload 4, 2) := by decide +kernel
theorem dX11_warm_74 : decode cX11_warm 74 = .ok (.iaload, 1) := by decide +kernel
theorem dX11_warm_75 : decode cX11_warm 75 = .ok (.goto 10, 3) := by decide +kernel
theorem dX11_warm_78 : decode cX11_warm 78 = .ok (.aload_n 0, 1) := by decide +kernel
theorem dX11_warm_79 : decode cX11_warm 79 = .ok (.getfield 66, 3) := by decide +kernel
theorem dX11_warm_82 : decode cX11_warm 82 = .ok (.iload 4, 2) := by decide +kernel
theorem dX11_warm_84 : decode cX11_warm 84 = .ok (.iaload, 1) := by decide +kernel
theorem dX11_warm_85 : decode cX11_warm 85 = .ok (.ireturn, 1) := by decide +kernel
theorem dX11_night_0 : decode cX11_night 0 = .ok (.iload_n 1, 1) := by decide +kernel
theorem dX11_night_1 : decode cX11_night 1 = .ok (.iconst (-1), 1) := by decide +kernel
theorem dX11_night_2 : decode cX11_night 2 = .ok (.if_icmp .eq 14, 3) := by decide +kernel
theorem dX11_night_5 : decode cX11_night 5 = .ok (.aload_n 0, 1) := by decide +kernel
theorem dX11_night_6 : decode cX11_night 6 = .ok (.iload_n 1, 1) := by decide +kernel
theorem dX11_night_7 : decode cX11_night 7 = .ok (.invokevirtual 222, 3) := by decide +kernel
theorem dX11_night_10 : decode cX11_night 10 = .ok (.ifCond .ne 6, 3) := by decide +kernel
theorem dX11_night_13 : decode cX11_night 13 = .ok (.bipush (-2), 2) := by decide +kernel
theorem dX11_night_15 : decode cX11_night 15 = .ok (.ireturn, 1) := by decide +kernel
theorem dX11_night_16 : decode cX11_night 16 = .ok (.aload_n 0, 1) := by decide +kernel
theorem dX11_night_17 : decode cX11_night 17 = .ok (.invokevirtual 253, 3) := by decide +kernel
theorem dX11_night_20 : decode cX11_night 20 = .ok (.aload_n 0, 1) := by decide +kernel
theorem dX11_night_21 : decode cX11_night 21 = .ok (.invokevirtual 256, 3) := by decide +kernel
theorem dX11_night_24 : decode cX11_night 24 = .ok (.istore_n 2, 1) := by decide +kernel
theorem dX11_night_25 : decode cX11_night 25 = .ok (.iload_n 1, 1) := by decide +kernel
theorem dX11_night_26 : decode cX11_night 26 = .ok (.iconst (-1), 1) := by decide +kernel
theorem dX11_night_27 : decode cX11_night 27 = .ok (.if_icmp .ne 7, 3) := by decide +kernel
theorem dX11_night_30 : decode cX11_night 30 = .ok (.iload_n 2, 1) := by decide +kernel
theorem dX11_night_31 : decode cX11_night 31 = .ok (.goto 8, 3) := by decide +kernel
theorem dX11_night_34 : decode cX11_night 34 = .ok (.aload_n 0, 1) := by decide +kernel
theorem dX11_night_35 : decode cX11_night 35 = .ok (.iload_n 1, 1) := by decide +kernel
theorem dX11_night_36 : decode cX11_night 36 = .ok (.invokevirtual 250, 3) := by decide +kernel
theorem dX11_night_39 : decode cX11_night 39 = .ok (.ireturn, 1) := by decide +kernel
theorem dX11_above_0 : decode cX11_above 0 = .ok (.aload_n 0, 1) := by decide +kernel
theorem dX11_above_1 : decode cX11_above 1 = .ok (.iload_n 1, 1) := by decide +kernel
theorem dX11_above_2 : decode cX11_above 2 = .ok (.invokevirtual 222, 3) := by decide +kernel
theorem dX11_above_5 : decode cX11_above 5 = .ok (.ifCond .ne 6, 3) := by decide +kernel
theorem dX11_above_8 : decode cX11_above 8 = .ok (.bipush (-2), 2) := by decide +kernel
theorem dX11_above_10 : decode cX11_above 10 = .ok (.ireturn, 1) := by decide +kernel
theorem dX11_above_11 : decode cX11_above 11 = .ok (.iload_n 2, 1) := by decide +kernel
theorem dX11_above_12 : decode cX11_above 12 = .ok (.sipush (-999), 3) := by decide +kernel
theorem dX11_above_15 : decode cX11_above 15 = .ok (.sipush 9999, 3) := by decide +kernel
theorem dX11_above_18 : decode cX11_above 18 = .ok (.invokestatic 120, 3) := by decide +kernel
theorem dX11_above_21 : decode cX11_above 21 = .ok (.ifCond .ne 6, 3) := by decide +kernel
theorem dX11_above_24 : decode cX11_above 24 = .ok (.bipush (-3), 2) := by decide +kernel
theorem dX11_above_26 : decode cX11_above 26 = .ok (.ireturn, 1) := by decide +kernel
theorem dX11_above_27 : decode cX11_above 27 = .ok (.aload_n 0, 1) := by decide +kernel
theorem dX11_above_28 : decode cX11_above 28 = .ok (.invokevirtual 253, 3) := by decide +kernel
theorem dX11_above_31 : decode cX11_above 31 = .ok (.aload_n 0, 1) := by decide +kernel
theorem dX11_above_32 : decode cX11_above 32 = .ok (.invokevirtual 247, 3) := by decide +kernel
theorem dX11_above_35 : decode cX11_above 35 = .ok (.iconst 0, 1) := by decide +kernel
theorem dX11_above_36 : decode cX11_above 36 = .ok (.istore_n 3, 1) := by decide +kernel
theorem dX11_above_37 : decode cX11_above 37 = .ok (.iconst 0, 1) := by decide +kernel
theorem dX11_above_38 : decode cX11_above 38 = .ok (.istore 4, 2) := by decide +kernel
theorem dX11_above_40 : decode cX11_above 40 = .ok (.iconst 0, 1) := by decide +kernel
theorem dX11_above_41 : decode cX11_above 41 = .ok (.istore 5, 2) := by decide +kernel
theorem dX11_above_43 : decode cX11_above 43 = .ok (.iload 5, 2) := by decide +kernel
theorem dX11_above_45 : decode cX11_above 45 = .ok (.bipush 96, 2) := by decide +kernel
theorem dX11_above_47 : decode cX11_above 47 = .ok (.if_icmp .ge 47, 3) := by decide +kernel
theorem dX11_above_50 : decode cX11_above 50 = .ok (.aload_n 0, 1) := by decide +kernel
theorem dX11_above_51 : decode cX11_above 51 = .ok (.getfield 60, 3) := by decide +kernel
theorem dX11_above_54 : decode cX11_above 54 = .ok (.bipush 96, 2) := by decide +kernel
theorem dX11_above_56 : decode cX11_above 56 = .ok (.iload_n 1, 1) := by decide +kernel
theorem dX11_above_57 : decode cX11_above 57 = .ok (.imul, 1) := by decide +kernel
theorem dX11_above_58 : decode cX11_above 58 = .ok (.iload 5, 2) := by decide +kernel
theorem dX11_above_60 : decode cX11_above 60 = .ok (.iadd, 1) := by decide +kernel
theorem dX11_above_61 : decode cX11_above 61 = .ok (.iaload, 1) := by decide +kernel
theorem dX11_above_62 : decode cX11_above 62 = .ok (.iload_n 2, 1) := by decide +kernel
theorem dX11_above_63 : decode cX11_above 63 = .ok (.if_icmp .le 9, 3) := by decide +kernel
theorem dX11_above_66 : decode cX11_above 66 = .ok (.iload_n 3, 1) := by decide +kernel
theorem dX11_above_67 : decode cX11_above 67 = .ok (.iconst 1, 1) := by decide +kernel
theorem dX11_above_68 : decode cX11_above 68 = .ok (.iadd, 1) := by decide +kernel
theorem dX11_above_69 : decode cX11_above 69 = .ok (.goto 4, 3) := by decide +kernel
theorem dX11_above_72 : decode cX11_above 72 = .ok (.iconst 0, 1) := by decide +kernel
theorem dX11_above_73 : decode cX11_above 73 = .ok (.istore_n 3, 1) := by decide +kernel
theorem dX11_above_74 : decode cX11_above 74 = .ok (.iload_n 3, 1) := by decide +kernel
theorem dX11_above_75 : decode cX11_above 75 = .ok (.iload 4, 2) := by decide +kernel
theorem dX11_above_77 : decode cX11_above 77 = .ok (.if_icmp .le 7, 3) := by decide +kernel
theorem dX11_above_80 : decode cX11_above 80 = .ok (.iload_n 3, 1) := by decide +kernel
theorem dX11_above_81 : decode cX11_above 81 = .ok (.goto 5, 3) := by decide +kernel
theorem dX11_above_84 : decode cX11_above 84 = .ok (.iload 4, 2) := by decide +kernel
theorem dX11_above_86 : decode cX11_above 86 = .ok (.istore 4, 2) := by decide +kernel
theorem dX11_above_88 : decode cX11_above 88 = .ok (.iinc 5 1, 3) := by decide +kernel
theorem dX11_above_91 : decode cX11_above 91 = .ok (.goto (-48), 3) := by decide +kernel
theorem dX11_above_94 : decode cX11_above 94 = .ok (.iload 4, 2) := by decide +kernel
theorem dX11_above_96 : decode cX11_above 96 = .ok (.ireturn, 1) := by decide +kernel
theorem dX11_costs_0 : decode cX11_costs 0 = .ok (.aload_n 0, 1) := by decide +kernel
theorem dX11_costs_1 : decode cX11_costs 1 = .ok (.iload_n 1, 1) := by decide +kernel
theorem dX11_costs_2 : decode cX11_costs 2 = .ok (.invokevirtual 222, 3) := by decide +kernel
theorem dX11_costs_5 : decode cX11_costs 5 = .ok (.ifCond .ne 6, 3) := by decide +kernel
theorem dX11_costs_8 : decode cX11_costs 8 = .ok (.bipush (-2), 2) := by decide +kernel
theorem dX11_costs_10 : decode cX11_costs 10 = .ok (.ireturn, 1) := by decide +kernel
theorem dX11_costs_11 : decode cX11_costs 11 = .ok (.aload_n 0, 1) := by decide +kernel
theorem dX11_costs_12 : decode cX11_costs 12 = .ok (.invokevirtual 253, 3) := by decide +kernel
theorem dX11_costs_15 : decode cX11_costs 15 = .ok (.aload_n 0, 1) := by decide +kernel
theorem dX11_costs_16 : decode cX11_costs 16 = .ok (.invokevirtual 256, 3) := by decide +kernel
theorem dX11_costs_19 : decode cX11_costs 19 = .ok (.istore_n 2, 1) := by decide +kernel
theorem dX11_costs_20 : decode cX11_costs 20 = .ok (.aload_n 0, 1) := by decide +kernel
theorem dX11_costs_21 : decode cX11_costs 21 = .ok (.getfield 81, 3) := by decide +kernel
theorem dX11_costs_24 : decode cX11_costs 24 = .ok (.iload_n 1, 1) := by decide +kernel
theorem dX11_costs_25 : decode cX11_costs 25 = .ok (.iconst 1, 1) := by decide +kernel
theorem dX11_costs_26 : decode cX11_costs 26 = .ok (.iastore, 1) := by decide +kernel
theorem dX11_costs_27 : decode cX11_costs 27 = .ok (.iload_n 2, 1) := by decide +kernel
theorem dX11_costs_28 : decode cX11_costs 28 = .ok (.aload_n 0, 1) := by decide +kernel
theorem dX11_costs_29 : decode cX11_costs 29 = .ok (.invokevirtual 256, 3) := by decide +kernel
theorem dX11_costs_32 : decode cX11_costs 32 = .ok (.isub, 1) := by decide +kernel
theorem dX11_costs_33 : decode cX11_costs 33 = .ok (.ldc_w 260, 3) := by decide +kernel
theorem dX11_costs_36 : decode cX11_costs 36 = .ok (.iadd, 1) := by decide +kernel
theorem dX11_costs_37 : decode cX11_costs 37 = .ok (.ireturn, 1) := by decide +kernel
theorem dX11_nightByClock_0 : decode cX11_nightByClock 0 = .ok (.iconst 0, 1) := by decide +kernel
theorem dX11_nightByClock_1 : decode cX11_nightByClock 1 = .ok (.istore_n 3, 1) := by decide +kernel
theorem dX11_nightByClock_2 : decode cX11_nightByClock 2 = .ok (.iload_n 3, 1) := by decide +kernel
theorem dX11_nightByClock_3 : decode cX11_nightByClock 3 = .ok (.iconst 5, 1) := by decide +kernel
theorem dX11_nightByClock_4 : decode cX11_nightByClock 4 = .ok (.if_icmp .ge 27, 3) := by decide +kernel
theorem dX11_nightByClock_7 : decode cX11_nightByClock 7 = .ok (.aload_n 0, 1) := by decide +kernel
theorem dX11_nightByClock_8 : decode cX11_nightByClock 8 = .ok (.getfield 81, 3) := by decide +kernel
theorem dX11_nightByClock_11 : decode cX11_nightByClock 11 = .ok (.iload_n 3, 1) := by decide +kernel
theorem dX11_nightByClock_12 : decode cX11_nightByClock 12 = .ok (.iconst 0, 1) := by decide +kernel
theorem dX11_nightByClock_13 : decode cX11_nightByClock 13 = .ok (.iastore, 1) := by decide +kernel
theorem dX11_nightByClock_14 : decode cX11_nightByClock 14 = .ok (.aload_n 0, 1) := by decide +kernel
theorem dX11_nightByClock_15 : decode cX11_nightByClock 15 = .ok (.getfield 84, 3) := by decide +kernel
theorem dX11_nightByClock_18 : decode cX11_nightByClock 18 = .ok (.iload_n 3, 1) := by decide +kernel
theorem dX11_nightByClock_19 : decode cX11_nightByClock 19 = .ok (.iload_n 1, 1) := by decide +kernel
theorem dX11_nightByClock_20 : decode cX11_nightByClock 20 = .ok (.iload_n 2, 1) := by decide +kernel
theorem dX11_nightByClock_21 : decode cX11_nightByClock 21 = .ok (.invokestatic 214, 3) := by decide +kernel
theorem dX11_nightByClock_24 : decode cX11_nightByClock 24 = .ok (.iastore, 1) := by decide +kernel
theorem dX11_nightByClock_25 : decode cX11_nightByClock 25 = .ok (.iinc 3 1, 3) := by decide +kernel
theorem dX11_nightByClock_28 : decode cX11_nightByClock 28 = .ok (.goto (-26), 3) := by decide +kernel
theorem dX11_nightByClock_31 : decode cX11_nightByClock 31 = .ok (.aload_n 0, 1) := by decide +kernel
theorem dX11_nightByClock_32 : decode cX11_nightByClock 32 = .ok (.invokevirtual 256, 3) := by decide +kernel
theorem dX11_nightByClock_35 : decode cX11_nightByClock 35 = .ok (.ireturn, 1) := by decide +kernel
theorem dX11_nightByGlass_0 : decode cX11_nightByGlass 0 = .ok (.iconst 0, 1) := by decide +kernel
theorem dX11_nightByGlass_1 : decode cX11_nightByGlass 1 = .ok (.istore_n 1, 1) := by decide +kernel
theorem dX11_nightByGlass_2 : decode cX11_nightByGlass 2 = .ok (.iload_n 1, 1) := by decide +kernel
theorem dX11_nightByGlass_3 : decode cX11_nightByGlass 3 = .ok (.iconst 5, 1) := by decide +kernel
theorem dX11_nightByGlass_4 : decode cX11_nightByGlass 4 = .ok (.if_icmp .ge 16, 3) := by decide +kernel
theorem dX11_nightByGlass_7 : decode cX11_nightByGlass 7 = .ok (.aload_n 0, 1) := by decide +kernel
theorem dX11_nightByGlass_8 : decode cX11_nightByGlass 8 = .ok (.getfield 81, 3) := by decide +kernel
theorem dX11_nightByGlass_11 : decode cX11_nightByGlass 11 = .ok (.iload_n 1, 1) := by decide +kernel
theorem dX11_nightByGlass_12 : decode cX11_nightByGlass 12 = .ok (.iconst 1, 1) := by decide +kernel
theorem dX11_nightByGlass_13 : decode cX11_nightByGlass 13 = .ok (.iastore, 1) := by decide +kernel
theorem dX11_nightByGlass_14 : decode cX11_nightByGlass 14 = .ok (.iinc 1 1, 3) := by decide +kernel
theorem dX11_nightByGlass_17 : decode cX11_nightByGlass 17 = .ok (.goto (-15), 3) := by decide +kernel
theorem dX11_nightByGlass_20 : decode cX11_nightByGlass 20 = .ok (.aload_n 0, 1) := by decide +kernel
theorem dX11_nightByGlass_21 : decode cX11_nightByGlass 21 = .ok (.invokevirtual 256, 3) := by decide +kernel
theorem dX11_nightByGlass_24 : decode cX11_nightByGlass 24 = .ok (.ireturn, 1) := by decide +kernel
theorem dX11_clock_0 : decode cX11_clock 0 = .ok (.iload_n 1, 1) := by decide +kernel
theorem dX11_clock_1 : decode cX11_clock 1 = .ok (.iconst 0, 1) := by decide +kernel
theorem dX11_clock_2 : decode cX11_clock 2 = .ok (.iconst 3, 1) := by decide +kernel
theorem dX11_clock_3 : decode cX11_clock 3 = .ok (.invokestatic 120, 3) := by decide +kernel
theorem dX11_clock_6 : decode cX11_clock 6 = .ok (.ifCond .ne 6, 3) := by decide +kernel
theorem dX11_clock_9 : decode cX11_clock 9 = .ok (.bipush (-3), 2) := by decide +kernel
theorem dX11_clock_11 : decode cX11_clock 11 = .ok (.ireturn, 1) := by decide +kernel
theorem dX11_clock_12 : decode cX11_clock 12 = .ok (.aload_n 0, 1) := by decide +kernel
theorem dX11_clock_13 : decode cX11_clock 13 = .ok (.iconst 0, 1) := by decide +kernel
theorem dX11_clock_14 : decode cX11_clock 14 = .ok (.putfield 232, 3) := by decide +kernel
theorem dX11_clock_17 : decode cX11_clock 17 = .ok (.iconst (-1), 1) := by decide +kernel
theorem dX11_clock_18 : decode cX11_clock 18 = .ok (.istore_n 2, 1) := by decide +kernel
theorem dX11_clock_19 : decode cX11_clock 19 = .ok (.iconst 0, 1) := by decide +kernel
theorem dX11_clock_20 : decode cX11_clock 20 = .ok (.istore_n 3, 1) := by decide +kernel
theorem dX11_clock_21 : decode cX11_clock 21 = .ok (.iconst 0, 1) := by decide +kernel
theorem dX11_clock_22 : decode cX11_clock 22 = .ok (.istore 4, 2) := by decide +kernel
theorem dX11_clock_24 : decode cX11_clock 24 = .ok (.iload 4, 2) := by decide +kernel
theorem dX11_clock_26 : decode cX11_clock 26 = .ok (.sipush 576, 3) := by decide +kernel
theorem dX11_clock_29 : decode cX11_clock 29 = .ok (.if_icmp .ge 42, 3) := by decide +kernel
theorem dX11_clock_32 : decode cX11_clock 32 = .ok (.aload_n 0, 1) := by decide +kernel
theorem dX11_clock_33 : decode cX11_clock 33 = .ok (.iload 4, 2) := by decide +kernel
theorem dX11_clock_35 : decode cX11_clock 35 = .ok (.bipush 24, 2) := by decide +kernel
theorem dX11_clock_37 : decode cX11_clock 37 = .ok (.idiv, 1) := by decide +kernel
theorem dX11_clock_38 : decode cX11_clock 38 = .ok (.iload 4, 2) := by decide +kernel
theorem dX11_clock_40 : decode cX11_clock 40 = .ok (.bipush 24, 2) := by decide +kernel
theorem dX11_clock_42 : decode cX11_clock 42 = .ok (.irem, 1) := by decide +kernel
theorem dX11_clock_43 : decode cX11_clock 43 = .ok (.invokevirtual 261, 3) := by decide +kernel
theorem dX11_clock_46 : decode cX11_clock 46 = .ok (.istore 5, 2) := by decide +kernel
theorem dX11_clock_48 : decode cX11_clock 48 = .ok (.iload_n 2, 1) := by decide +kernel
theorem dX11_clock_49 : decode cX11_clock 49 = .ok (.iconst (-1), 1) := by decide +kernel
theorem dX11_clock_50 : decode cX11_clock 50 = .ok (.if_icmp .eq 9, 3) := by decide +kernel
theorem dX11_clock_53 : decode cX11_clock 53 = .ok (.iload 5, 2) := by decide +kernel
theorem dX11_clock_55 : decode cX11_clock 55 = .ok (.iload_n 3, 1) := by decide +kernel
theorem dX11_clock_56 : decode cX11_clock 56 = .ok (.if_icmp .ge 9, 3) := by decide +kernel
theorem dX11_clock_59 : decode cX11_clock 59 = .ok (.iload 4, 2) := by decide +kernel
theorem dX11_clock_61 : decode cX11_clock 61 = .ok (.istore_n 2, 1) := by decide +kernel
theorem dX11_clock_62 : decode cX11_clock 62 = .ok (.iload 5, 2) := by decide +kernel
theorem dX11_clock_64 : decode cX11_clock 64 = .ok (.istore_n 3, 1) := by decide +kernel
theorem dX11_clock_65 : decode cX11_clock 65 = .ok (.iinc 4 1, 3) := by decide +kernel
theorem dX11_clock_68 : decode cX11_clock 68 = .ok (.goto (-44), 3) := by decide +kernel
theorem dX11_clock_71 : decode cX11_clock 71 = .ok (.iload_n 1, 1) := by decide +kernel
theorem dX11_clock_72 : decode cX11_clock 72 = .ok (.ifCond .ne 10, 3) := by decide +kernel
theorem dX11_clock_75 : decode cX11_clock 75 = .ok (.iload_n 2, 1) := by decide +kernel
theorem dX11_clock_76 : decode cX11_clock 76 = .ok (.bipush 24, 2) := by decide +kernel
theorem dX11_clock_78 : decode cX11_clock 78 = .ok (.idiv, 1) := by decide +kernel
theorem dX11_clock_79 : decode cX11_clock 79 = .ok (.goto 34, 3) := by decide +kernel
theorem dX11_clock_82 : decode cX11_clock 82 = .ok (.iload_n 1, 1) := by decide +kernel
theorem dX11_clock_83 : decode cX11_clock 83 = .ok (.iconst 1, 1) := by decide +kernel
theorem dX11_clock_84 : decode cX11_clock 84 = .ok (.if_icmp .ne 10, 3) := by decide +kernel
theorem dX11_clock_87 : decode cX11_clock 87 = .ok (.iload_n 2, 1) := by decide +kernel
theorem dX11_clock_88 : decode cX11_clock 88 = .ok (.bipush 24, 2) := by decide +kernel
theorem dX11_clock_90 : decode cX11_clock 90 = .ok (.irem, 1) := by decide +kernel
theorem dX11_clock_91 : decode cX11_clock 91 = .ok (.goto 22, 3) := by decide +kernel
theorem dX11_clock_94 : decode cX11_clock 94 = .ok (.iload_n 1, 1) := by decide +kernel
theorem dX11_clock_95 : decode cX11_clock 95 = .ok (.iconst 2, 1) := by decide +kernel
theorem dX11_clock_96 : decode cX11_clock 96 = .ok (.if_icmp .ne 7, 3) := by decide +kernel
theorem dX11_clock_99 : decode cX11_clock 99 = .ok (.iload_n 3, 1) := by decide +kernel
theorem dX11_clock_100 : decode cX11_clock 100 = .ok (.goto 13, 3) := by decide +kernel
theorem dX11_clock_103 : decode cX11_clock 103 = .ok (.iload_n 3, 1) := by decide +kernel
theorem dX11_clock_104 : decode cX11_clock 104 = .ok (.aload_n 0, 1) := by decide +kernel
theorem dX11_clock_105 : decode cX11_clock 105 = .ok (.invokevirtual 264, 3) := by decide +kernel
theorem dX11_clock_108 : decode cX11_clock 108 = .ok (.isub, 1) := by decide +kernel
theorem dX11_clock_109 : decode cX11_clock 109 = .ok (.ldc_w 260, 3) := by decide +kernel
theorem dX11_clock_112 : decode cX11_clock 112 = .ok (.iadd, 1) := by decide +kernel
theorem dX11_clock_113 : decode cX11_clock 113 = .ok (.ireturn, 1) := by decide +kernel
theorem dX11_work_0 : decode cX11_work 0 = .ok (.iload_n 1, 1) := by decide +kernel
theorem dX11_work_1 : decode cX11_work 1 = .ok (.iconst 0, 1) := by decide +kernel
theorem dX11_work_2 : decode cX11_work 2 = .ok (.iconst 4, 1) := by decide +kernel
theorem dX11_work_3 : decode cX11_work 3 = .ok (.invokestatic 120, 3) := by decide +kernel
theorem dX11_work_6 : decode cX11_work 6 = .ok (.ifCond .ne 6, 3) := by decide +kernel
theorem dX11_work_9 : decode cX11_work 9 = .ok (.bipush (-2), 2) := by decide +kernel
theorem dX11_work_11 : decode cX11_work 11 = .ok (.ireturn, 1) := by decide +kernel
theorem dX11_work_12 : decode cX11_work 12 = .ok (.iload_n 2, 1) := by decide +kernel
theorem dX11_work_13 : decode cX11_work 13 = .ok (.iconst 1, 1) := by decide +kernel
theorem dX11_work_14 : decode cX11_work 14 = .ok (.sipush 999, 3) := by decide +kernel
theorem dX11_work_17 : decode cX11_work 17 = .ok (.invokestatic 120, 3) := by decide +kernel
theorem dX11_work_20 : decode cX11_work 20 = .ok (.ifCond .eq 24, 3) := by decide +kernel
theorem dX11_work_23 : decode cX11_work 23 = .ok (.iload_n 3, 1) := by decide +kernel
theorem dX11_work_24 : decode cX11_work 24 = .ok (.iconst 0, 1) := by decide +kernel
theorem dX11_work_25 : decode cX11_work 25 = .ok (.bipush 100, 2) := by decide +kernel
theorem dX11_work_27 : decode cX11_work 27 = .ok (.invokestatic 120, 3) := by decide +kernel
theorem dX11_work_30 : decode cX11_work 30 = .ok (.ifCond .eq 14, 3) := by decide +kernel
theorem dX11_work_33 : decode cX11_work 33 = .ok (.iload 4, 2) := by decide +kernel
theorem dX11_work_35 : decode cX11_work 35 = .ok (.iconst 0, 1) := by decide +kernel
theorem dX11_work_36 : decode cX11_work 36 = .ok (.bipush 20, 2) := by decide +kernel
theorem dX11_work_38 : decode cX11_work 38 = .ok (.invokestatic 120, 3) := by decide +kernel
theorem dX11_work_41 : decode cX11_work 41 = .ok (.ifCond .ne 6, 3) := by decide +kernel
theorem dX11_work_44 : decode cX11_work 44 = .ok (.bipush (-3), 2) := by decide +kernel
theorem dX11_work_46 : decode cX11_work 46 = .ok (.ireturn, 1) := by decide +kernel
theorem dX11_work_47 : decode cX11_work 47 = .ok (.aload_n 0, 1) := by decide +kernel
theorem dX11_work_48 : decode cX11_work 48 = .ok (.getfield 229, 3) := by decide +kernel
theorem dX11_work_51 : decode cX11_work 51 = .ok (.bipush 6, 2) := by decide +kernel
theorem dX11_work_53 : decode cX11_work 53 = .ok (.if_icmp .ne 6, 3) := by decide +kernel
theorem dX11_work_56 : decode cX11_work 56 = .ok (.bipush (-5), 2) := by decide +kernel
theorem dX11_work_58 : decode cX11_work 58 = .ok (.ireturn, 1) := by decide +kernel
theorem dX11_work_59 : decode cX11_work 59 = .ok (.aload_n 0, 1) := by decide +kernel
theorem dX11_work_60 : decode cX11_work 60 = .ok (.getfield 87, 3) := by decide +kernel
theorem dX11_work_63 : decode cX11_work 63 = .ok (.aload_n 0, 1) := by decide +kernel
theorem dX11_work_64 : decode cX11_work 64 = .ok (.getfield 229, 3) := by decide +kernel
theorem dX11_work_67 : decode cX11_work 67 = .ok (.iload_n 1, 1) := by decide +kernel
theorem dX11_work_68 : decode cX11_work 68 = .ok (.iastore, 1) := by decide +kernel
theorem dX11_work_69 : decode cX11_work 69 = .ok (.aload_n 0, 1) := by decide +kernel
theorem dX11_work_70 : decode cX11_work 70 = .ok (.getfield 90, 3) := by decide +kernel
theorem dX11_work_73 : decode cX11_work 73 = .ok (.aload_n 0, 1) := by decide +kernel
theorem dX11_work_74 : decode cX11_work 74 = .ok (.getfield 229, 3) := by decide +kernel
theorem dX11_work_77 : decode cX11_work 77 = .ok (.iload_n 2, 1) := by decide +kernel
theorem dX11_work_78 : decode cX11_work 78 = .ok (.iastore, 1) := by decide +kernel
theorem dX11_work_79 : decode cX11_work 79 = .ok (.aload_n 0, 1) := by decide +kernel
theorem dX11_work_80 : decode cX11_work 80 = .ok (.getfield 93, 3) := by decide +kernel
theorem dX11_work_83 : decode cX11_work 83 = .ok (.aload_n 0, 1) := by decide +kernel
theorem dX11_work_84 : decode cX11_work 84 = .ok (.getfield 229, 3) := by decide +kernel
theorem dX11_work_87 : decode cX11_work 87 = .ok (.iload_n 3, 1) := by decide +kernel
theorem dX11_work_88 : decode cX11_work 88 = .ok (.iastore, 1) := by decide +kernel
theorem dX11_work_89 : decode cX11_work 89 = .ok (.aload_n 0, 1) := by decide +kernel
theorem dX11_work_90 : decode cX11_work 90 = .ok (.getfield 96, 3) := by decide +kernel
theorem dX11_work_93 : decode cX11_work 93 = .ok (.aload_n 0, 1) := by decide +kernel
theorem dX11_work_94 : decode cX11_work 94 = .ok (.getfield 229, 3) := by decide +kernel
theorem dX11_work_97 : decode cX11_work 97 = .ok (.iload 4, 2) := by decide +kernel
theorem dX11_work_99 : decode cX11_work 99 = .ok (.iastore, 1) := by decide +kernel
theorem dX11_work_100 : decode cX11_work 100 = .ok (.aload_n 0, 1) := by decide +kernel
theorem dX11_work_101 : decode cX11_work 101 = .ok (.dup, 1) := by decide +kernel
theorem dX11_work_102 : decode cX11_work 102 = .ok (.getfield 229, 3) := by decide +kernel
theorem dX11_work_105 : decode cX11_work 105 = .ok (.iconst 1, 1) := by decide +kernel
theorem dX11_work_106 : decode cX11_work 106 = .ok (.iadd, 1) := by decide +kernel
theorem dX11_work_107 : decode cX11_work 107 = .ok (.putfield 229, 3) := by decide +kernel
theorem dX11_work_110 : decode cX11_work 110 = .ok (.aload_n 0, 1) := by decide +kernel
theorem dX11_work_111 : decode cX11_work 111 = .ok (.getfield 229, 3) := by decide +kernel
theorem dX11_work_114 : decode cX11_work 114 = .ok (.iconst 1, 1) := by decide +kernel
theorem dX11_work_115 : decode cX11_work 115 = .ok (.isub, 1) := by decide +kernel
theorem dX11_work_116 : decode cX11_work 116 = .ok (.ireturn, 1) := by decide +kernel
theorem dX11_costOf_0 : decode cX11_costOf 0 = .ok (.iconst 0, 1) := by decide +kernel
theorem dX11_costOf_1 : decode cX11_costOf 1 = .ok (.istore_n 2, 1) := by decide +kernel
theorem dX11_costOf_2 : decode cX11_costOf 2 = .ok (.iconst 0, 1) := by decide +kernel
theorem dX11_costOf_3 : decode cX11_costOf 3 = .ok (.istore_n 3, 1) := by decide +kernel
theorem dX11_costOf_4 : decode cX11_costOf 4 = .ok (.iload_n 3, 1) := by decide +kernel
theorem dX11_costOf_5 : decode cX11_costOf 5 = .ok (.aload_n 0, 1) := by decide +kernel
theorem dX11_costOf_6 : decode cX11_costOf 6 = .ok (.getfield 229, 3) := by decide +kernel
theorem dX11_costOf_9 : decode cX11_costOf 9 = .ok (.if_icmp .ge 30, 3) := by decide +kernel
theorem dX11_costOf_12 : decode cX11_costOf 12 = .ok (.iload_n 2, 1) := by decide +kernel
theorem dX11_costOf_13 : decode cX11_costOf 13 = .ok (.iload_n 1, 1) := by decide +kernel
theorem dX11_costOf_14 : decode cX11_costOf 14 = .ok (.iload_n 3, 1) := by decide +kernel
theorem dX11_costOf_15 : decode cX11_costOf 15 = .ok (.invokestatic 127, 3) := by decide +kernel
theorem dX11_costOf_18 : decode cX11_costOf 18 = .ok (.ifCond .eq 12, 3) := by decide +kernel
theorem dX11_costOf_21 : decode cX11_costOf 21 = .ok (.aload_n 0, 1) := by decide +kernel
theorem dX11_costOf_22 : decode cX11_costOf 22 = .ok (.getfield 90, 3) := by decide +kernel
theorem dX11_costOf_25 : decode cX11_costOf 25 = .ok (.iload_n 3, 1) := by decide +kernel
theorem dX11_costOf_26 : decode cX11_costOf 26 = .ok (.iaload, 1) := by decide +kernel
theorem dX11_costOf_27 : decode cX11_costOf 27 = .ok (.goto 4, 3) := by decide +kernel
theorem dX11_costOf_30 : decode cX11_costOf 30 = .ok (.iconst 0, 1) := by decide +kernel
theorem dX11_costOf_31 : decode cX11_costOf 31 = .ok (.iadd, 1) := by decide +kernel
theorem dX11_costOf_32 : decode cX11_costOf 32 = .ok (.istore_n 2, 1) := by decide +kernel
theorem dX11_costOf_33 : decode cX11_costOf 33 = .ok (.iinc 3 1, 3) := by decide +kernel
theorem dX11_costOf_36 : decode cX11_costOf 36 = .ok (.goto (-32), 3) := by decide +kernel
theorem dX11_costOf_39 : decode cX11_costOf 39 = .ok (.iload_n 2, 1) := by decide +kernel
theorem dX11_costOf_40 : decode cX11_costOf 40 = .ok (.ireturn, 1) := by decide +kernel
theorem dX11_works_0 : decode cX11_works 0 = .ok (.iload_n 1, 1) := by decide +kernel
theorem dX11_works_1 : decode cX11_works 1 = .ok (.iconst 0, 1) := by decide +kernel
theorem dX11_works_2 : decode cX11_works 2 = .ok (.sipush 9999, 3) := by decide +kernel
theorem dX11_works_5 : decode cX11_works 5 = .ok (.invokestatic 120, 3) := by decide +kernel
theorem dX11_works_8 : decode cX11_works 8 = .ok (.ifCond .eq 12, 3) := by decide +kernel
theorem dX11_works_11 : decode cX11_works 11 = .ok (.iload_n 2, 1) := by decide +kernel
theorem dX11_works_12 : decode cX11_works 12 = .ok (.iconst 0, 1) := by decide +kernel
theorem dX11_works_13 : decode cX11_works 13 = .ok (.iconst 1, 1) := by decide +kernel
theorem dX11_works_14 : decode cX11_works 14 = .ok (.invokestatic 120, 3) := by decide +kernel
theorem dX11_works_17 : decode cX11_works 17 = .ok (.ifCond .ne 6, 3) := by decide +kernel
theorem dX11_works_20 : decode cX11_works 20 = .ok (.bipush (-3), 2) := by decide +kernel
theorem dX11_works_22 : decode cX11_works 22 = .ok (.ireturn, 1) := by decide +kernel
theorem dX11_works_23 : decode cX11_works 23 = .ok (.aload_n 0, 1) := by decide +kernel
theorem dX11_works_24 : decode cX11_works 24 = .ok (.invokevirtual 253, 3) := by decide +kernel
theorem dX11_works_27 : decode cX11_works 27 = .ok (.iconst (-1), 1) := by decide +kernel
theorem dX11_works_28 : decode cX11_works 28 = .ok (.istore_n 3, 1) := by decide +kernel
theorem dX11_works_29 : decode cX11_works 29 = .ok (.iconst 0, 1) := by decide +kernel
theorem dX11_works_30 : decode cX11_works 30 = .ok (.istore 4, 2) := by decide +kernel
theorem dX11_works_32 : decode cX11_works 32 = .ok (.iconst 0, 1) := by decide +kernel
theorem dX11_works_33 : decode cX11_works 33 = .ok (.istore 5, 2) := by decide +kernel
theorem dX11_works_35 : decode cX11_works 35 = .ok (.iload 5, 2) := by decide +kernel
theorem dX11_works_37 : decode cX11_works 37 = .ok (.iconst 1, 1) := by decide +kernel
theorem dX11_works_38 : decode cX11_works 38 = .ok (.aload_n 0, 1) := by decide +kernel
theorem dX11_works_39 : decode cX11_works 39 = .ok (.getfield 229, 3) := by decide +kernel
theorem dX11_works_42 : decode cX11_works 42 = .ok (.ishl, 1) := by decide +kernel
theorem dX11_works_43 : decode cX11_works 43 = .ok (.if_icmp .ge 50, 3) := by decide +kernel
theorem dX11_works_46 : decode cX11_works 46 = .ok (.aload_n 0, 1) := by decide +kernel
theorem dX11_works_47 : decode cX11_works 47 = .ok (.iload 5, 2) := by decide +kernel
theorem dX11_works_49 : decode cX11_works 49 = .ok (.invokevirtual 267, 3) := by decide +kernel
theorem dX11_works_52 : decode cX11_works 52 = .ok (.iload_n 1, 1) := by decide +kernel
theorem dX11_works_53 : decode cX11_works 53 = .ok (.if_icmp .gt 34, 3) := by decide +kernel
theorem dX11_works_56 : decode cX11_works 56 = .ok (.aload_n 0, 1) := by decide +kernel
theorem dX11_works_57 : decode cX11_works 57 = .ok (.iload 5, 2) := by decide +kernel
theorem dX11_works_59 : decode cX11_works 59 = .ok (.putfield 232, 3) := by decide +kernel
theorem dX11_works_62 : decode cX11_works 62 = .ok (.aload_n 0, 1) := by decide +kernel
theorem dX11_works_63 : decode cX11_works 63 = .ok (.invokevirtual 256, 3) := by decide +kernel
theorem dX11_works_66 : decode cX11_works 66 = .ok (.istore 6, 2) := by decide +kernel
theorem dX11_works_68 : decode cX11_works 68 = .ok (.iload_n 3, 1) := by decide +kernel
theorem dX11_works_69 : decode cX11_works 69 = .ok (.iconst (-1), 1) := by decide +kernel
theorem dX11_works_70 : decode cX11_works 70 = .ok (.if_icmp .eq 10, 3) := by decide +kernel
theorem dX11_works_73 : decode cX11_works 73 = .ok (.iload 6, 2) := by decide +kernel
theorem dX11_works_75 : decode cX11_works 75 = .ok (.iload 4, 2) := by decide +kernel
theorem dX11_works_77 : decode cX11_works 77 = .ok (.if_icmp .ge 10, 3) := by decide +kernel
theorem dX11_works_80 : decode cX11_works 80 = .ok (.iload 5, 2) := by decide +kernel
theorem dX11_works_82 : decode cX11_works 82 = .ok (.istore_n 3, 1) := by decide +kernel
theorem dX11_works_83 : decode cX11_works 83 = .ok (.iload 6, 2) := by decide +kernel
theorem dX11_works_85 : decode cX11_works 85 = .ok (.istore 4, 2) := by decide +kernel
theorem dX11_works_87 : decode cX11_works 87 = .ok (.iinc 5 1, 3) := by decide +kernel
theorem dX11_works_90 : decode cX11_works 90 = .ok (.goto (-55), 3) := by decide +kernel
theorem dX11_works_93 : decode cX11_works 93 = .ok (.aload_n 0, 1) := by decide +kernel
theorem dX11_works_94 : decode cX11_works 94 = .ok (.iconst 0, 1) := by decide +kernel
theorem dX11_works_95 : decode cX11_works 95 = .ok (.putfield 232, 3) := by decide +kernel
theorem dX11_works_98 : decode cX11_works 98 = .ok (.iload_n 2, 1) := by decide +kernel
theorem dX11_works_99 : decode cX11_works 99 = .ok (.ifCond .ne 7, 3) := by decide +kernel
theorem dX11_works_102 : decode cX11_works 102 = .ok (.iload_n 3, 1) := by decide +kernel
theorem dX11_works_103 : decode cX11_works 103 = .ok (.goto 5, 3) := by decide +kernel
theorem dX11_works_106 : decode cX11_works 106 = .ok (.iload 4, 2) := by decide +kernel
theorem dX11_works_108 : decode cX11_works 108 = .ok (.ireturn, 1) := by decide +kernel
theorem dX11_read_0 : decode cX11_read 0 = .ok (.iload_n 1, 1) := by decide +kernel
theorem dX11_read_1 : decode cX11_read 1 = .ok (.iconst 0, 1) := by decide +kernel
theorem dX11_read_2 : decode cX11_read 2 = .ok (.iconst 4, 1) := by decide +kernel
theorem dX11_read_3 : decode cX11_read 3 = .ok (.invokestatic 120, 3) := by decide +kernel
theorem dX11_read_6 : decode cX11_read 6 = .ok (.ifCond .eq 13, 3) := by decide +kernel
theorem dX11_read_9 : decode cX11_read 9 = .ok (.iload_n 2, 1) := by decide +kernel
theorem dX11_read_10 : decode cX11_read 10 = .ok (.iconst 0, 1) := by decide +kernel
theorem dX11_read_11 : decode cX11_read 11 = .ok (.bipush 95, 2) := by decide +kernel
theorem dX11_read_13 : decode cX11_read 13 = .ok (.invokestatic 120, 3) := by decide +kernel
theorem dX11_read_16 : decode cX11_read 16 = .ok (.ifCond .ne 6, 3) := by decide +kernel
theorem dX11_read_19 : decode cX11_read 19 = .ok (.bipush (-2), 2) := by decide +kernel
theorem dX11_read_21 : decode cX11_read 21 = .ok (.ireturn, 1) := by decide +kernel
theorem dX11_read_22 : decode cX11_read 22 = .ok (.iload_n 3, 1) := by decide +kernel
theorem dX11_read_23 : decode cX11_read 23 = .ok (.sipush (-999), 3) := by decide +kernel
theorem dX11_read_26 : decode cX11_read 26 = .ok (.sipush 9999, 3) := by decide +kernel
theorem dX11_read_29 : decode cX11_read 29 = .ok (.invokestatic 120, 3) := by decide +kernel
theorem dX11_read_32 : decode cX11_read 32 = .ok (.ifCond .ne 6, 3) := by decide +kernel
theorem dX11_read_35 : decode cX11_read 35 = .ok (.bipush (-3), 2) := by decide +kernel
theorem dX11_read_37 : decode cX11_read 37 = .ok (.ireturn, 1) := by decide +kernel
theorem dX11_read_38 : decode cX11_read 38 = .ok (.aload_n 0, 1) := by decide +kernel
theorem dX11_read_39 : decode cX11_read 39 = .ok (.getfield 270, 3) := by decide +kernel
theorem dX11_read_42 : decode cX11_read 42 = .ok (.bipush 8, 2) := by decide +kernel
theorem dX11_read_44 : decode cX11_read 44 = .ok (.if_icmp .ne 6, 3) := by decide +kernel
theorem dX11_read_47 : decode cX11_read 47 = .ok (.bipush (-5), 2) := by decide +kernel
theorem dX11_read_49 : decode cX11_read 49 = .ok (.ireturn, 1) := by decide +kernel
theorem dX11_read_50 : decode cX11_read 50 = .ok (.aload_n 0, 1) := by decide +kernel
theorem dX11_read_51 : decode cX11_read 51 = .ok (.getfield 99, 3) := by decide +kernel
theorem dX11_read_54 : decode cX11_read 54 = .ok (.aload_n 0, 1) := by decide +kernel
theorem dX11_read_55 : decode cX11_read 55 = .ok (.getfield 270, 3) := by decide +kernel
theorem dX11_read_58 : decode cX11_read 58 = .ok (.iload_n 1, 1) := by decide +kernel
theorem dX11_read_59 : decode cX11_read 59 = .ok (.iastore, 1) := by decide +kernel
theorem dX11_read_60 : decode cX11_read 60 = .ok (.aload_n 0, 1) := by decide +kernel
theorem dX11_read_61 : decode cX11_read 61 = .ok (.getfield 102, 3) := by decide +kernel
theorem dX11_read_64 : decode cX11_read 64 = .ok (.aload_n 0, 1) := by decide +kernel
theorem dX11_read_65 : decode cX11_read 65 = .ok (.getfield 270, 3) := by decide +kernel
theorem dX11_read_68 : decode cX11_read 68 = .ok (.iload_n 2, 1) := by decide +kernel
theorem dX11_read_69 : decode cX11_read 69 = .ok (.iastore, 1) := by decide +kernel
theorem dX11_read_70 : decode cX11_read 70 = .ok (.aload_n 0, 1) := by decide +kernel
theorem dX11_read_71 : decode cX11_read 71 = .ok (.getfield 105, 3) := by decide +kernel
theorem dX11_read_74 : decode cX11_read 74 = .ok (.aload_n 0, 1) := by decide +kernel
theorem dX11_read_75 : decode cX11_read 75 = .ok (.getfield 270, 3) := by decide +kernel
theorem dX11_read_78 : decode cX11_read 78 = .ok (.iload_n 3, 1) := by decide +kernel
theorem dX11_read_79 : decode cX11_read 79 = .ok (.iastore, 1) := by decide +kernel
theorem dX11_read_80 : decode cX11_read 80 = .ok (.aload_n 0, 1) := by decide +kernel
theorem dX11_read_81 : decode cX11_read 81 = .ok (.dup, 1) := by decide +kernel
theorem dX11_read_82 : decode cX11_read 82 = .ok (.getfield 270, 3) := by decide +kernel
theorem dX11_read_85 : decode cX11_read 85 = .ok (.iconst 1, 1) := by decide +kernel
theorem dX11_read_86 : decode cX11_read 86 = .ok (.iadd, 1) := by decide +kernel
theorem dX11_read_87 : decode cX11_read 87 = .ok (.putfield 270, 3) := by decide +kernel
theorem dX11_read_90 : decode cX11_read 90 = .ok (.aload_n 0, 1) := by decide +kernel
theorem dX11_read_91 : decode cX11_read 91 = .ok (.getfield 270, 3) := by decide +kernel
theorem dX11_read_94 : decode cX11_read 94 = .ok (.ireturn, 1) := by decide +kernel
theorem dX11_doHold_0 : decode cX11_doHold 0 = .ok (.iconst 0, 1) := by decide +kernel
theorem dX11_doHold_1 : decode cX11_doHold 1 = .ok (.istore_n 2, 1) := by decide +kernel
theorem dX11_doHold_2 : decode cX11_doHold 2 = .ok (.iload_n 2, 1) := by decide +kernel
theorem dX11_doHold_3 : decode cX11_doHold 3 = .ok (.aload_n 0, 1) := by decide +kernel
theorem dX11_doHold_4 : decode cX11_doHold 4 = .ok (.getfield 270, 3) := by decide +kernel
theorem dX11_doHold_7 : decode cX11_doHold 7 = .ok (.if_icmp .ge 64, 3) := by decide +kernel
theorem dX11_doHold_10 : decode cX11_doHold 10 = .ok (.aload_n 0, 1) := by decide +kernel
theorem dX11_doHold_11 : decode cX11_doHold 11 = .ok (.getfield 60, 3) := by decide +kernel
theorem dX11_doHold_14 : decode cX11_doHold 14 = .ok (.bipush 96, 2) := by decide +kernel
theorem dX11_doHold_16 : decode cX11_doHold 16 = .ok (.aload_n 0, 1) := by decide +kernel
theorem dX11_doHold_17 : decode cX11_doHold 17 = .ok (.getfield 99, 3) := by decide +kernel
theorem dX11_doHold_20 : decode cX11_doHold 20 = .ok (.iload_n 2, 1) := by decide +kernel
theorem dX11_doHold_21 : decode cX11_doHold 21 = .ok (.iaload, 1) := by decide +kernel
theorem dX11_doHold_22 : decode cX11_doHold 22 = .ok (.imul, 1) := by decide +kernel
theorem dX11_doHold_23 : decode cX11_doHold 23 = .ok (.aload_n 0, 1) := by decide +kernel
theorem dX11_doHold_24 : decode cX11_doHold 24 = .ok (.getfield 102, 3) := by decide +kernel
theorem dX11_doHold_27 : decode cX11_doHold 27 = .ok (.iload_n 2, 1) := by decide +kernel
theorem dX11_doHold_28 : decode cX11_doHold 28 = .ok (.iaload, 1) := by decide +kernel
theorem dX11_doHold_29 : decode cX11_doHold 29 = .ok (.iadd, 1) := by decide +kernel
theorem dX11_doHold_30 : decode cX11_doHold 30 = .ok (.iaload, 1) := by decide +kernel
theorem dX11_doHold_31 : decode cX11_doHold 31 = .ok (.aload_n 0, 1) := by decide +kernel
theorem dX11_doHold_32 : decode cX11_doHold 32 = .ok (.getfield 105, 3) := by decide +kernel
theorem dX11_doHold_35 : decode cX11_doHold 35 = .ok (.iload_n 2, 1) := by decide +kernel
theorem dX11_doHold_36 : decode cX11_doHold 36 = .ok (.iaload, 1) := by decide +kernel
theorem dX11_doHold_37 : decode cX11_doHold 37 = .ok (.isub, 1) := by decide +kernel
theorem dX11_doHold_38 : decode cX11_doHold 38 = .ok (.istore_n 3, 1) := by decide +kernel
theorem dX11_doHold_39 : decode cX11_doHold 39 = .ok (.aload_n 0, 1) := by decide +kernel
theorem dX11_doHold_40 : decode cX11_doHold 40 = .ok (.aload_n 0, 1) := by decide +kernel
theorem dX11_doHold_41 : decode cX11_doHold 41 = .ok (.getfield 99, 3) := by decide +kernel
theorem dX11_doHold_44 : decode cX11_doHold 44 = .ok (.iload_n 2, 1) := by decide +kernel
theorem dX11_doHold_45 : decode cX11_doHold 45 = .ok (.iaload, 1) := by decide +kernel
theorem dX11_doHold_46 : decode cX11_doHold 46 = .ok (.invokevirtual 222, 3) := by decide +kernel
theorem dX11_doHold_49 : decode cX11_doHold 49 = .ok (.ifCond .eq 14, 3) := by decide +kernel
theorem dX11_doHold_52 : decode cX11_doHold 52 = .ok (.iload_n 3, 1) := by decide +kernel
theorem dX11_doHold_53 : decode cX11_doHold 53 = .ok (.iload_n 1, 1) := by decide +kernel
theorem dX11_doHold_54 : decode cX11_doHold 54 = .ok (.if_icmp .gt 9, 3) := by decide +kernel
theorem dX11_doHold_57 : decode cX11_doHold 57 = .ok (.iload_n 3, 1) := by decide +kernel
theorem dX11_doHold_58 : decode cX11_doHold 58 = .ok (.ineg, 1) := by decide +kernel
theorem dX11_doHold_59 : decode cX11_doHold 59 = .ok (.iload_n 1, 1) := by decide +kernel
theorem dX11_doHold_60 : decode cX11_doHold 60 = .ok (.if_icmp .le 5, 3) := by decide +kernel
theorem dX11_doHold_63 : decode cX11_doHold 63 = .ok (.iconst 0, 1) := by decide +kernel
theorem dX11_doHold_64 : decode cX11_doHold 64 = .ok (.ireturn, 1) := by decide +kernel
theorem dX11_doHold_65 : decode cX11_doHold 65 = .ok (.iinc 2 1, 3) := by decide +kernel
theorem dX11_doHold_68 : decode cX11_doHold 68 = .ok (.goto (-66), 3) := by decide +kernel
theorem dX11_doHold_71 : decode cX11_doHold 71 = .ok (.iconst 1, 1) := by decide +kernel
theorem dX11_doHold_72 : decode cX11_doHold 72 = .ok (.ireturn, 1) := by decide +kernel
theorem dX11_learnt_0 : decode cX11_learnt 0 = .ok (.iload_n 1, 1) := by decide +kernel
theorem dX11_learnt_1 : decode cX11_learnt 1 = .ok (.iconst 0, 1) := by decide +kernel
theorem dX11_learnt_2 : decode cX11_learnt 2 = .ok (.sipush 999, 3) := by decide +kernel
theorem dX11_learnt_5 : decode cX11_learnt 5 = .ok (.invokestatic 120, 3) := by decide +kernel
theorem dX11_learnt_8 : decode cX11_learnt 8 = .ok (.ifCond .eq 12, 3) := by decide +kernel
theorem dX11_learnt_11 : decode cX11_learnt 11 = .ok (.iload_n 2, 1) := by decide +kernel
theorem dX11_learnt_12 : decode cX11_learnt 12 = .ok (.iconst 0, 1) := by decide +kernel
theorem dX11_learnt_13 : decode cX11_learnt 13 = .ok (.iconst 4, 1) := by decide +kernel
theorem dX11_learnt_14 : decode cX11_learnt 14 = .ok (.invokestatic 120, 3) := by decide +kernel
theorem dX11_learnt_17 : decode cX11_learnt 17 = .ok (.ifCond .ne 6, 3) := by decide +kernel
theorem dX11_learnt_20 : decode cX11_learnt 20 = .ok (.bipush (-3), 2) := by decide +kernel
theorem dX11_learnt_22 : decode cX11_learnt 22 = .ok (.ireturn, 1) := by decide +kernel
theorem dX11_learnt_23 : decode cX11_learnt 23 = .ok (.aload_n 0, 1) := by decide +kernel
theorem dX11_learnt_24 : decode cX11_learnt 24 = .ok (.invokevirtual 253, 3) := by decide +kernel
theorem dX11_learnt_27 : decode cX11_learnt 27 = .ok (.aload_n 0, 1) := by decide +kernel
theorem dX11_learnt_28 : decode cX11_learnt 28 = .ok (.getfield 41, 3) := by decide +kernel
theorem dX11_learnt_31 : decode cX11_learnt 31 = .ok (.istore_n 3, 1) := by decide +kernel
theorem dX11_learnt_32 : decode cX11_learnt 32 = .ok (.aload_n 0, 1) := by decide +kernel
theorem dX11_learnt_33 : decode cX11_learnt 33 = .ok (.getfield 38, 3) := by decide +kernel
theorem dX11_learnt_36 : decode cX11_learnt 36 = .ok (.istore 4, 2) := by decide +kernel
theorem dX11_learnt_38 : decode cX11_learnt 38 = .ok (.aload_n 0, 1) := by decide +kernel
theorem dX11_learnt_39 : decode cX11_learnt 39 = .ok (.getfield 117, 3) := by decide +kernel
theorem dX11_learnt_42 : decode cX11_learnt 42 = .ok (.iconst 0, 1) := by decide +kernel
theorem dX11_learnt_43 : decode cX11_learnt 43 = .ok (.iconst 0, 1) := by decide +kernel
theorem dX11_learnt_44 : decode cX11_learnt 44 = .ok (.iastore, 1) := by decide +kernel
theorem dX11_learnt_45 : decode cX11_learnt 45 = .ok (.iconst 0, 1) := by decide +kernel
theorem dX11_learnt_46 : decode cX11_learnt 46 = .ok (.istore 5, 2) := by decide +kernel
theorem dX11_learnt_48 : decode cX11_learnt 48 = .ok (.iload 5, 2) := by decide +kernel
theorem dX11_learnt_50 : decode cX11_learnt 50 = .ok (.bipush 81, 2) := by decide +kernel
theorem dX11_learnt_52 : decode cX11_learnt 52 = .ok (.if_icmp .ge 217, 3) := by decide +kernel
theorem dX11_learnt_55 : decode cX11_learnt 55 = .ok (.aload_n 0, 1) := by decide +kernel
theorem dX11_learnt_56 : decode cX11_learnt 56 = .ok (.iconst 5, 1) := by decide +kernel
theorem dX11_learnt_57 : decode cX11_learnt 57 = .ok (.iload 5, 2) := by decide +kernel
theorem dX11_learnt_59 : decode cX11_learnt 59 = .ok (.bipush 9, 2) := by decide +kernel
theorem dX11_learnt_61 : decode cX11_learnt 61 = .ok (.idiv, 1) := by decide +kernel
theorem dX11_learnt_62 : decode cX11_learnt 62 = .ok (.imul, 1) := by decide +kernel
theorem dX11_learnt_63 : decode cX11_learnt 63 = .ok (.putfield 41, 3) := by decide +kernel
theorem dX11_learnt_66 : decode cX11_learnt 66 = .ok (.aload_n 0, 1) := by decide +kernel
theorem dX11_learnt_67 : decode cX11_learnt 67 = .ok (.iconst 5, 1) := by decide +kernel
theorem dX11_learnt_68 : decode cX11_learnt 68 = .ok (.iload 5, 2) := by decide +kernel
theorem dX11_learnt_70 : decode cX11_learnt 70 = .ok (.bipush 9, 2) := by decide +kernel
theorem dX11_learnt_72 : decode cX11_learnt 72 = .ok (.irem, 1) := by decide +kernel
theorem dX11_learnt_73 : decode cX11_learnt 73 = .ok (.imul, 1) := by decide +kernel
theorem dX11_learnt_74 : decode cX11_learnt 74 = .ok (.putfield 38, 3) := by decide +kernel
theorem dX11_learnt_77 : decode cX11_learnt 77 = .ok (.aload_n 0, 1) := by decide +kernel
theorem dX11_learnt_78 : decode cX11_learnt 78 = .ok (.invokevirtual 247, 3) := by decide +kernel
theorem dX11_learnt_81 : decode cX11_learnt 81 = .ok (.aload_n 0, 1) := by decide +kernel
theorem dX11_learnt_82 : decode cX11_learnt 82 = .ok (.iload_n 1, 1) := by decide +kernel
theorem dX11_learnt_83 : decode cX11_learnt 83 = .ok (.invokevirtual 273, 3) := by decide +kernel
theorem dX11_learnt_86 : decode cX11_learnt 86 = .ok (.ifCond .eq 177, 3) := by decide +kernel
theorem dX11_learnt_89 : decode cX11_learnt 89 = .ok (.aload_n 0, 1) := by decide +kernel
theorem dX11_learnt_90 : decode cX11_learnt 90 = .ok (.getfield 117, 3) := by decide +kernel
theorem dX11_learnt_93 : decode cX11_learnt 93 = .ok (.iconst 0, 1) := by decide +kernel
theorem dX11_learnt_94 : decode cX11_learnt 94 = .ok (.iaload, 1) := by decide +kernel
theorem dX11_learnt_95 : decode cX11_learnt 95 = .ok (.ifCond .ne 7, 3) := by decide +kernel
theorem dX11_learnt_98 : decode cX11_learnt 98 = .ok (.iconst 1, 1) := by decide +kernel
theorem dX11_learnt_99 : decode cX11_learnt 99 = .ok (.goto 4, 3) := by decide +kernel
theorem dX11_learnt_102 : decode cX11_learnt 102 = .ok (.iconst 0, 1) := by decide +kernel
theorem dX11_learnt_103 : decode cX11_learnt 103 = .ok (.istore 6, 2) := by decide +kernel
theorem dX11_learnt_105 : decode cX11_learnt 105 = .ok (.aload_n 0, 1) := by decide +kernel
theorem dX11_learnt_106 : decode cX11_learnt 106 = .ok (.getfield 117, 3) := by decide +kernel
theorem dX11_learnt_109 : decode cX11_learnt 109 = .ok (.iconst 0, 1) := by decide +kernel
theorem dX11_learnt_110 : decode cX11_learnt 110 = .ok (.dup2, 1) := by decide +kernel
theorem dX11_learnt_111 : decode cX11_learnt 111 = .ok (.iaload, 1) := by decide +kernel
theorem dX11_learnt_112 : decode cX11_learnt 112 = .ok (.iconst 1, 1) := by decide +kernel
theorem dX11_learnt_113 : decode cX11_learnt 113 = .ok (.iadd, 1) := by decide +kernel
theorem dX11_learnt_114 : decode cX11_learnt 114 = .ok (.iastore, 1) := by decide +kernel
theorem dX11_learnt_115 : decode cX11_learnt 115 = .ok (.aload_n 0, 1) := by decide +kernel
theorem dX11_learnt_116 : decode cX11_learnt 116 = .ok (.getfield 117, 3) := by decide +kernel
theorem dX11_learnt_119 : decode cX11_learnt 119 = .ok (.iconst 1, 1) := by decide +kernel
theorem dX11_learnt_120 : decode cX11_learnt 120 = .ok (.iload 6, 2) := by decide +kernel
theorem dX11_learnt_122 : decode cX11_learnt 122 = .ok (.ifCond .ne 16, 3) := by decide +kernel
theorem dX11_learnt_125 : decode cX11_learnt 125 = .ok (.aload_n 0, 1) := by decide +kernel
theorem dX11_learnt_126 : decode cX11_learnt 126 = .ok (.getfield 41, 3) := by decide +kernel
theorem dX11_learnt_129 : decode cX11_learnt 129 = .ok (.aload_n 0, 1) := by decide +kernel
theorem dX11_learnt_130 : decode cX11_learnt 130 = .ok (.getfield 117, 3) := by decide +kernel
theorem dX11_learnt_133 : decode cX11_learnt 133 = .ok (.iconst 1, 1) := by decide +kernel
theorem dX11_learnt_134 : decode cX11_learnt 134 = .ok (.iaload, 1) := by decide +kernel
theorem dX11_learnt_135 : decode cX11_learnt 135 = .ok (.if_icmp .ge 10, 3) := by decide +kernel
theorem dX11_learnt_138 : decode cX11_learnt 138 = .ok (.aload_n 0, 1) := by decide +kernel
theorem dX11_learnt_139 : decode cX11_learnt 139 = .ok (.getfield 41, 3) := by decide +kernel
theorem dX11_learnt_142 : decode cX11_learnt 142 = .ok (.goto 9, 3) := by decide +kernel
theorem dX11_learnt_145 : decode cX11_learnt 145 = .ok (.aload_n 0, 1) := by decide +kernel
theorem dX11_learnt_146 : decode cX11_learnt 146 = .ok (.getfield 117, 3) := by decide +kernel
theorem dX11_learnt_149 : decode cX11_learnt 149 = .ok (.iconst 1, 1) := by decide +kernel
theorem dX11_learnt_150 : decode cX11_learnt 150 = .ok (.iaload, 1) := by decide +kernel
theorem dX11_learnt_151 : decode cX11_learnt 151 = .ok (.iastore, 1) := by decide +kernel
theorem dX11_learnt_152 : decode cX11_learnt 152 = .ok (.aload_n 0, 1) := by decide +kernel
theorem dX11_learnt_153 : decode cX11_learnt 153 = .ok (.getfield 117, 3) := by decide +kernel
theorem dX11_learnt_156 : decode cX11_learnt 156 = .ok (.iconst 2, 1) := by decide +kernel
theorem dX11_learnt_157 : decode cX11_learnt 157 = .ok (.iload 6, 2) := by decide +kernel
theorem dX11_learnt_159 : decode cX11_learnt 159 = .ok (.ifCond .ne 16, 3) := by decide +kernel
theorem dX11_learnt_162 : decode cX11_learnt 162 = .ok (.aload_n 0, 1) := by decide +kernel
theorem dX11_learnt_163 : decode cX11_learnt 163 = .ok (.getfield 41, 3) := by decide +kernel
theorem dX11_learnt_166 : decode cX11_learnt 166 = .ok (.aload_n 0, 1) := by decide +kernel
theorem dX11_learnt_167 : decode cX11_learnt 167 = .ok (.getfield 117, 3) := by decide +kernel
theorem dX11_learnt_170 : decode cX11_learnt 170 = .ok (.iconst 2, 1) := by decide +kernel
theorem dX11_learnt_171 : decode cX11_learnt 171 = .ok (.iaload, 1) := by decide +kernel
theorem dX11_learnt_172 : decode cX11_learnt 172 = .ok (.if_icmp .le 10, 3) := by decide +kernel
theorem dX11_learnt_175 : decode cX11_learnt 175 = .ok (.aload_n 0, 1) := by decide +kernel
theorem dX11_learnt_176 : decode cX11_learnt 176 = .ok (.getfield 41, 3) := by decide +kernel
theorem dX11_learnt_179 : decode cX11_learnt 179 = .ok (.goto 9, 3) := by decide +kernel
theorem dX11_learnt_182 : decode cX11_learnt 182 = .ok (.aload_n 0, 1) := by decide +kernel
theorem dX11_learnt_183 : decode cX11_learnt 183 = .ok (.getfield 117, 3) := by decide +kernel
theorem dX11_learnt_186 : decode cX11_learnt 186 = .ok (.iconst 2, 1) := by decide +kernel
theorem dX11_learnt_187 : decode cX11_learnt 187 = .ok (.iaload, 1) := by decide +kernel
theorem dX11_learnt_188 : decode cX11_learnt 188 = .ok (.iastore, 1) := by decide +kernel
theorem dX11_learnt_189 : decode cX11_learnt 189 = .ok (.aload_n 0, 1) := by decide +kernel
theorem dX11_learnt_190 : decode cX11_learnt 190 = .ok (.getfield 117, 3) := by decide +kernel
theorem dX11_learnt_193 : decode cX11_learnt 193 = .ok (.iconst 3, 1) := by decide +kernel
theorem dX11_learnt_194 : decode cX11_learnt 194 = .ok (.iload 6, 2) := by decide +kernel
theorem dX11_learnt_196 : decode cX11_learnt 196 = .ok (.ifCond .ne 16, 3) := by decide +kernel
theorem dX11_learnt_199 : decode cX11_learnt 199 = .ok (.aload_n 0, 1) := by decide +kernel
theorem dX11_learnt_200 : decode cX11_learnt 200 = .ok (.getfield 38, 3) := by decide +kernel
theorem dX11_learnt_203 : decode cX11_learnt 203 = .ok (.aload_n 0, 1) := by decide +kernel
theorem dX11_learnt_204 : decode cX11_learnt 204 = .ok (.getfield 117, 3) := by decide +kernel
theorem dX11_learnt_207 : decode cX11_learnt 207 = .ok (.iconst 3, 1) := by decide +kernel
theorem dX11_learnt_208 : decode cX11_learnt 208 = .ok (.iaload, 1) := by decide +kernel
theorem dX11_learnt_209 : decode cX11_learnt 209 = .ok (.if_icmp .ge 10, 3) := by decide +kernel
theorem dX11_learnt_212 : decode cX11_learnt 212 = .ok (.aload_n 0, 1) := by decide +kernel
theorem dX11_learnt_213 : decode cX11_learnt 213 = .ok (.getfield 38, 3) := by decide +kernel
theorem dX11_learnt_216 : decode cX11_learnt 216 = .ok (.goto 9, 3) := by decide +kernel
theorem dX11_learnt_219 : decode cX11_learnt 219 = .ok (.aload_n 0, 1) := by decide +kernel
theorem dX11_learnt_220 : decode cX11_learnt 220 = .ok (.getfield 117, 3) := by decide +kernel
theorem dX11_learnt_223 : decode cX11_learnt 223 = .ok (.iconst 3, 1) := by decide +kernel
theorem dX11_learnt_224 : decode cX11_learnt 224 = .ok (.iaload, 1) := by decide +kernel
theorem dX11_learnt_225 : decode cX11_learnt 225 = .ok (.iastore, 1) := by decide +kernel
theorem dX11_learnt_226 : decode cX11_learnt 226 = .ok (.aload_n 0, 1) := by decide +kernel
theorem dX11_learnt_227 : decode cX11_learnt 227 = .ok (.getfield 117, 3) := by decide +kernel
theorem dX11_learnt_230 : decode cX11_learnt 230 = .ok (.iconst 4, 1) := by decide +kernel
theorem dX11_learnt_231 : decode cX11_learnt 231 = .ok (.iload 6, 2) := by decide +kernel
theorem dX11_learnt_233 : decode cX11_learnt 233 = .ok (.ifCond .ne 16, 3) := by decide +kernel
theorem dX11_learnt_236 : decode cX11_learnt 236 = .ok (.aload_n 0, 1) := by decide +kernel
theorem dX11_learnt_237 : decode cX11_learnt 237 = .ok (.getfield 38, 3) := by decide +kernel
theorem dX11_learnt_240 : decode cX11_learnt 240 = .ok (.aload_n 0, 1) := by decide +kernel
theorem dX11_learnt_241 : decode cX11_learnt 241 = .ok (.getfield 117, 3) := by decide +kernel
theorem dX11_learnt_244 : decode cX11_learnt 244 = .ok (.iconst 4, 1) := by decide +kernel
theorem dX11_learnt_245 : decode cX11_learnt 245 = .ok (.iaload, 1) := by decide +kernel
theorem dX11_learnt_246 : decode cX11_learnt 246 = .ok (.if_icmp .le 10, 3) := by decide +kernel
theorem dX11_learnt_249 : decode cX11_learnt 249 = .ok (.aload_n 0, 1) := by decide +kernel
theorem dX11_learnt_250 : decode cX11_learnt 250 = .ok (.getfield 38, 3) := by decide +kernel
theorem dX11_learnt_253 : decode cX11_learnt 253 = .ok (.goto 9, 3) := by decide +kernel
theorem dX11_learnt_256 : decode cX11_learnt 256 = .ok (.aload_n 0, 1) := by decide +kernel
theorem dX11_learnt_257 : decode cX11_learnt 257 = .ok (.getfield 117, 3) := by decide +kernel
theorem dX11_learnt_260 : decode cX11_learnt 260 = .ok (.iconst 4, 1) := by decide +kernel
theorem dX11_learnt_261 : decode cX11_learnt 261 = .ok (.iaload, 1) := by decide +kernel
theorem dX11_learnt_262 : decode cX11_learnt 262 = .ok (.iastore, 1) := by decide +kernel
theorem dX11_learnt_263 : decode cX11_learnt 263 = .ok (.iinc 5 1, 3) := by decide +kernel
theorem dX11_learnt_266 : decode cX11_learnt 266 = .ok (.goto (-218), 3) := by decide +kernel
theorem dX11_learnt_269 : decode cX11_learnt 269 = .ok (.aload_n 0, 1) := by decide +kernel
theorem dX11_learnt_270 : decode cX11_learnt 270 = .ok (.iload_n 3, 1) := by decide +kernel
theorem dX11_learnt_271 : decode cX11_learnt 271 = .ok (.putfield 41, 3) := by decide +kernel
theorem dX11_learnt_274 : decode cX11_learnt 274 = .ok (.aload_n 0, 1) := by decide +kernel
theorem dX11_learnt_275 : decode cX11_learnt 275 = .ok (.iload 4, 2) := by decide +kernel
theorem dX11_learnt_277 : decode cX11_learnt 277 = .ok (.putfield 38, 3) := by decide +kernel
theorem dX11_learnt_280 : decode cX11_learnt 280 = .ok (.iload_n 2, 1) := by decide +kernel
theorem dX11_learnt_281 : decode cX11_learnt 281 = .ok (.ifCond .ne 12, 3) := by decide +kernel
theorem dX11_learnt_284 : decode cX11_learnt 284 = .ok (.aload_n 0, 1) := by decide +kernel
theorem dX11_learnt_285 : decode cX11_learnt 285 = .ok (.getfield 117, 3) := by decide +kernel
theorem dX11_learnt_288 : decode cX11_learnt 288 = .ok (.iconst 0, 1) := by decide +kernel
theorem dX11_learnt_289 : decode cX11_learnt 289 = .ok (.iaload, 1) := by decide +kernel
theorem dX11_learnt_290 : decode cX11_learnt 290 = .ok (.goto 22, 3) := by decide +kernel
theorem dX11_learnt_293 : decode cX11_learnt 293 = .ok (.aload_n 0, 1) := by decide +kernel
theorem dX11_learnt_294 : decode cX11_learnt 294 = .ok (.getfield 117, 3) := by decide +kernel
theorem dX11_learnt_297 : decode cX11_learnt 297 = .ok (.iconst 0, 1) := by decide +kernel
theorem dX11_learnt_298 : decode cX11_learnt 298 = .ok (.iaload, 1) := by decide +kernel
theorem dX11_learnt_299 : decode cX11_learnt 299 = .ok (.ifCond .ne 7, 3) := by decide +kernel
theorem dX11_learnt_302 : decode cX11_learnt 302 = .ok (.iconst (-1), 1) := by decide +kernel
theorem dX11_learnt_303 : decode cX11_learnt 303 = .ok (.goto 9, 3) := by decide +kernel
theorem dX11_learnt_306 : decode cX11_learnt 306 = .ok (.aload_n 0, 1) := by decide +kernel
theorem dX11_learnt_307 : decode cX11_learnt 307 = .ok (.getfield 117, 3) := by decide +kernel
theorem dX11_learnt_310 : decode cX11_learnt 310 = .ok (.iload_n 2, 1) := by decide +kernel
theorem dX11_learnt_311 : decode cX11_learnt 311 = .ok (.iaload, 1) := by decide +kernel
theorem dX11_learnt_312 : decode cX11_learnt 312 = .ok (.ireturn, 1) := by decide +kernel
theorem dX11_flat_0 : decode cX11_flat 0 = .ok (.iload_n 1, 1) := by decide +kernel
theorem dX11_flat_1 : decode cX11_flat 1 = .ok (.iconst 0, 1) := by decide +kernel
theorem dX11_flat_2 : decode cX11_flat 2 = .ok (.bipush 7, 2) := by decide +kernel
theorem dX11_flat_4 : decode cX11_flat 4 = .ok (.invokestatic 120, 3) := by decide +kernel
theorem dX11_flat_7 : decode cX11_flat 7 = .ok (.ifCond .ne 6, 3) := by decide +kernel
theorem dX11_flat_10 : decode cX11_flat 10 = .ok (.bipush (-2), 2) := by decide +kernel
theorem dX11_flat_12 : decode cX11_flat 12 = .ok (.ireturn, 1) := by decide +kernel
theorem dX11_flat_13 : decode cX11_flat 13 = .ok (.iload_n 2, 1) := by decide +kernel
theorem dX11_flat_14 : decode cX11_flat 14 = .ok (.iconst 0, 1) := by decide +kernel
theorem dX11_flat_15 : decode cX11_flat 15 = .ok (.bipush 99, 2) := by decide +kernel
theorem dX11_flat_17 : decode cX11_flat 17 = .ok (.invokestatic 120, 3) := by decide +kernel
theorem dX11_flat_20 : decode cX11_flat 20 = .ok (.ifCond .eq 13, 3) := by decide +kernel
theorem dX11_flat_23 : decode cX11_flat 23 = .ok (.iload_n 3, 1) := by decide +kernel
theorem dX11_flat_24 : decode cX11_flat 24 = .ok (.iconst 1, 1) := by decide +kernel
theorem dX11_flat_25 : decode cX11_flat 25 = .ok (.bipush 8, 2) := by decide +kernel
theorem dX11_flat_27 : decode cX11_flat 27 = .ok (.invokestatic 120, 3) := by decide +kernel
theorem dX11_flat_30 : decode cX11_flat 30 = .ok (.ifCond .ne 6, 3) := by decide +kernel
theorem dX11_flat_33 : decode cX11_flat 33 = .ok (.bipush (-3), 2) := by decide +kernel
theorem dX11_flat_35 : decode cX11_flat 35 = .ok (.ireturn, 1) := by decide +kernel
theorem dX11_flat_36 : decode cX11_flat 36 = .ok (.aload_n 0, 1) := by decide +kernel
theorem dX11_flat_37 : decode cX11_flat 37 = .ok (.getfield 108, 3) := by decide +kernel
theorem dX11_flat_40 : decode cX11_flat 40 = .ok (.iload_n 1, 1) := by decide +kernel
theorem dX11_flat_41 : decode cX11_flat 41 = .ok (.iload_n 2, 1) := by decide +kernel
theorem dX11_flat_42 : decode cX11_flat 42 = .ok (.iastore, 1) := by decide +kernel
theorem dX11_flat_43 : decode cX11_flat 43 = .ok (.aload_n 0, 1) := by decide +kernel
theorem dX11_flat_44 : decode cX11_flat 44 = .ok (.getfield 111, 3) := by decide +kernel
theorem dX11_flat_47 : decode cX11_flat 47 = .ok (.iload_n 1, 1) := by decide +kernel
theorem dX11_flat_48 : decode cX11_flat 48 = .ok (.iload_n 3, 1) := by decide +kernel
theorem dX11_flat_49 : decode cX11_flat 49 = .ok (.iastore, 1) := by decide +kernel
theorem dX11_flat_50 : decode cX11_flat 50 = .ok (.iconst 1, 1) := by decide +kernel
theorem dX11_flat_51 : decode cX11_flat 51 = .ok (.ireturn, 1) := by decide +kernel
theorem dX11_toldFlats_0 : decode cX11_toldFlats 0 = .ok (.iconst 0, 1) := by decide +kernel
theorem dX11_toldFlats_1 : decode cX11_toldFlats 1 = .ok (.istore_n 1, 1) := by decide +kernel
theorem dX11_toldFlats_2 : decode cX11_toldFlats 2 = .ok (.iconst 0, 1) := by decide +kernel
theorem dX11_toldFlats_3 : decode cX11_toldFlats 3 = .ok (.istore_n 2, 1) := by decide +kernel
theorem dX11_toldFlats_4 : decode cX11_toldFlats 4 = .ok (.iload_n 2, 1) := by decide +kernel
theorem dX11_toldFlats_5 : decode cX11_toldFlats 5 = .ok (.bipush 8, 2) := by decide +kernel
theorem dX11_toldFlats_7 : decode cX11_toldFlats 7 = .ok (.if_icmp .ge 28, 3) := by decide +kernel
theorem dX11_toldFlats_10 : decode cX11_toldFlats 10 = .ok (.iload_n 1, 1) := by decide +kernel
theorem dX11_toldFlats_11 : decode cX11_toldFlats 11 = .ok (.aload_n 0, 1) := by decide +kernel
theorem dX11_toldFlats_12 : decode cX11_toldFlats 12 = .ok (.getfield 108, 3) := by decide +kernel
theorem dX11_toldFlats_15 : decode cX11_toldFlats 15 = .ok (.iload_n 2, 1) := by decide +kernel
theorem dX11_toldFlats_16 : decode cX11_toldFlats 16 = .ok (.iaload, 1) := by decide +kernel
theorem dX11_toldFlats_17 : decode cX11_toldFlats 17 = .ok (.ifCond .le 9, 3) := by decide +kernel
theorem dX11_toldFlats_20 : decode cX11_toldFlats 20 = .ok (.iconst 1, 1) := by decide +kernel
theorem dX11_toldFlats_21 : decode cX11_toldFlats 21 = .ok (.iload_n 2, 1) := by decide +kernel
theorem dX11_toldFlats_22 : decode cX11_toldFlats 22 = .ok (.ishl, 1) := by decide +kernel
theorem dX11_toldFlats_23 : decode cX11_toldFlats 23 = .ok (.goto 4, 3) := by decide +kernel
theorem dX11_toldFlats_26 : decode cX11_toldFlats 26 = .ok (.iconst 0, 1) := by decide +kernel
theorem dX11_toldFlats_27 : decode cX11_toldFlats 27 = .ok (.ior, 1) := by decide +kernel
theorem dX11_toldFlats_28 : decode cX11_toldFlats 28 = .ok (.istore_n 1, 1) := by decide +kernel
theorem dX11_toldFlats_29 : decode cX11_toldFlats 29 = .ok (.iinc 2 1, 3) := by decide +kernel
theorem dX11_toldFlats_32 : decode cX11_toldFlats 32 = .ok (.goto (-28), 3) := by decide +kernel
theorem dX11_toldFlats_35 : decode cX11_toldFlats 35 = .ok (.iload_n 1, 1) := by decide +kernel
theorem dX11_toldFlats_36 : decode cX11_toldFlats 36 = .ok (.ireturn, 1) := by decide +kernel
theorem dX11_lostBy_0 : decode cX11_lostBy 0 = .ok (.aload_n 0, 1) := by decide +kernel
theorem dX11_lostBy_1 : decode cX11_lostBy 1 = .ok (.getfield 108, 3) := by decide +kernel
theorem dX11_lostBy_4 : decode cX11_lostBy 4 = .ok (.iload_n 1, 1) := by decide +kernel
theorem dX11_lostBy_5 : decode cX11_lostBy 5 = .ok (.iaload, 1) := by decide +kernel
theorem dX11_lostBy_6 : decode cX11_lostBy 6 = .ok (.iload_n 2, 1) := by decide +kernel
theorem dX11_lostBy_7 : decode cX11_lostBy 7 = .ok (.imul, 1) := by decide +kernel
theorem dX11_lostBy_8 : decode cX11_lostBy 8 = .ok (.iload_n 2, 1) := by decide +kernel
theorem dX11_lostBy_9 : decode cX11_lostBy 9 = .ok (.aload_n 0, 1) := by decide +kernel
theorem dX11_lostBy_10 : decode cX11_lostBy 10 = .ok (.getfield 111, 3) := by decide +kernel
theorem dX11_lostBy_13 : decode cX11_lostBy 13 = .ok (.iload_n 1, 1) := by decide +kernel
theorem dX11_lostBy_14 : decode cX11_lostBy 14 = .ok (.iaload, 1) := by decide +kernel
theorem dX11_lostBy_15 : decode cX11_lostBy 15 = .ok (.if_icmp .le 15, 3) := by decide +kernel
theorem dX11_lostBy_18 : decode cX11_lostBy 18 = .ok (.bipush 10, 2) := by decide +kernel
theorem dX11_lostBy_20 : decode cX11_lostBy 20 = .ok (.aload_n 0, 1) := by decide +kernel
theorem dX11_lostBy_21 : decode cX11_lostBy 21 = .ok (.getfield 108, 3) := by decide +kernel
theorem dX11_lostBy_24 : decode cX11_lostBy 24 = .ok (.iload_n 1, 1) := by decide +kernel
theorem dX11_lostBy_25 : decode cX11_lostBy 25 = .ok (.iaload, 1) := by decide +kernel
theorem dX11_lostBy_26 : decode cX11_lostBy 26 = .ok (.imul, 1) := by decide +kernel
theorem dX11_lostBy_27 : decode cX11_lostBy 27 = .ok (.goto 4, 3) := by decide +kernel
theorem dX11_lostBy_30 : decode cX11_lostBy 30 = .ok (.iconst 0, 1) := by decide +kernel
theorem dX11_lostBy_31 : decode cX11_lostBy 31 = .ok (.iadd, 1) := by decide +kernel
theorem dX11_lostBy_32 : decode cX11_lostBy 32 = .ok (.ireturn, 1) := by decide +kernel
theorem dX11_layRest_0 : decode cX11_layRest 0 = .ok (.sipush 255, 3) := by decide +kernel
theorem dX11_layRest_3 : decode cX11_layRest 3 = .ok (.istore_n 2, 1) := by decide +kernel
theorem dX11_layRest_4 : decode cX11_layRest 4 = .ok (.iload_n 2, 1) := by decide +kernel
theorem dX11_layRest_5 : decode cX11_layRest 5 = .ok (.ifCond .lt 108, 3) := by decide +kernel
theorem dX11_layRest_8 : decode cX11_layRest 8 = .ok (.iload_n 2, 1) := by decide +kernel
theorem dX11_layRest_9 : decode cX11_layRest 9 = .ok (.iload_n 1, 1) := by decide +kernel
theorem dX11_layRest_10 : decode cX11_layRest 10 = .ok (.iconst (-1), 1) := by decide +kernel
theorem dX11_layRest_11 : decode cX11_layRest 11 = .ok (.ixor, 1) := by decide +kernel
theorem dX11_layRest_12 : decode cX11_layRest 12 = .ok (.iand, 1) := by decide +kernel
theorem dX11_layRest_13 : decode cX11_layRest 13 = .ok (.ifCond .ne 94, 3) := by decide +kernel
theorem dX11_layRest_16 : decode cX11_layRest 16 = .ok (.iload_n 2, 1) := by decide +kernel
theorem dX11_layRest_17 : decode cX11_layRest 17 = .ok (.iload_n 1, 1) := by decide +kernel
theorem dX11_layRest_18 : decode cX11_layRest 18 = .ok (.if_icmp .ne 7, 3) := by decide +kernel
theorem dX11_layRest_21 : decode cX11_layRest 21 = .ok (.iconst 0, 1) := by decide +kernel
theorem dX11_layRest_22 : decode cX11_layRest 22 = .ok (.goto 4, 3) := by decide +kernel
theorem dX11_layRest_25 : decode cX11_layRest 25 = .ok (.iconst (-1), 1) := by decide +kernel
theorem dX11_layRest_26 : decode cX11_layRest 26 = .ok (.istore_n 3, 1) := by decide +kernel
theorem dX11_layRest_27 : decode cX11_layRest 27 = .ok (.iconst 0, 1) := by decide +kernel
theorem dX11_layRest_28 : decode cX11_layRest 28 = .ok (.istore 4, 2) := by decide +kernel
theorem dX11_layRest_30 : decode cX11_layRest 30 = .ok (.iload 4, 2) := by decide +kernel
theorem dX11_layRest_32 : decode cX11_layRest 32 = .ok (.bipush 8, 2) := by decide +kernel
theorem dX11_layRest_34 : decode cX11_layRest 34 = .ok (.if_icmp .ge 66, 3) := by decide +kernel
theorem dX11_layRest_37 : decode cX11_layRest 37 = .ok (.iload_n 1, 1) := by decide +kernel
theorem dX11_layRest_38 : decode cX11_layRest 38 = .ok (.iload_n 2, 1) := by decide +kernel
theorem dX11_layRest_39 : decode cX11_layRest 39 = .ok (.iconst (-1), 1) := by decide +kernel
theorem dX11_layRest_40 : decode cX11_layRest 40 = .ok (.ixor, 1) := by decide +kernel
theorem dX11_layRest_41 : decode cX11_layRest 41 = .ok (.iand, 1) := by decide +kernel
theorem dX11_layRest_42 : decode cX11_layRest 42 = .ok (.iload 4, 2) := by decide +kernel
theorem dX11_layRest_44 : decode cX11_layRest 44 = .ok (.invokestatic 127, 3) := by decide +kernel
theorem dX11_layRest_47 : decode cX11_layRest 47 = .ok (.ifCond .eq 47, 3) := by decide +kernel
theorem dX11_layRest_50 : decode cX11_layRest 50 = .ok (.aload_n 0, 1) := by decide +kernel
theorem dX11_layRest_51 : decode cX11_layRest 51 = .ok (.iload 4, 2) := by decide +kernel
theorem dX11_layRest_53 : decode cX11_layRest 53 = .ok (.iload_n 2, 1) := by decide +kernel
theorem dX11_layRest_54 : decode cX11_layRest 54 = .ok (.invokestatic 276, 3) := by decide +kernel
theorem dX11_layRest_57 : decode cX11_layRest 57 = .ok (.iconst 1, 1) := by decide +kernel
theorem dX11_layRest_58 : decode cX11_layRest 58 = .ok (.iadd, 1) := by decide +kernel
theorem dX11_layRest_59 : decode cX11_layRest 59 = .ok (.invokevirtual 279, 3) := by decide +kernel
theorem dX11_layRest_62 : decode cX11_layRest 62 = .ok (.aload_n 0, 1) := by decide +kernel
theorem dX11_layRest_63 : decode cX11_layRest 63 = .ok (.getfield 114, 3) := by decide +kernel
theorem dX11_layRest_66 : decode cX11_layRest 66 = .ok (.iload_n 2, 1) := by decide +kernel
theorem dX11_layRest_67 : decode cX11_layRest 67 = .ok (.iconst 1, 1) := by decide +kernel
theorem dX11_layRest_68 : decode cX11_layRest 68 = .ok (.iload 4, 2) := by decide +kernel
theorem dX11_layRest_70 : decode cX11_layRest 70 = .ok (.ishl, 1) := by decide +kernel
theorem dX11_layRest_71 : decode cX11_layRest 71 = .ok (.ior, 1) := by decide +kernel
theorem dX11_layRest_72 : decode cX11_layRest 72 = .ok (.iaload, 1) := by decide +kernel
theorem dX11_layRest_73 : decode cX11_layRest 73 = .ok (.iadd, 1) := by decide +kernel
theorem dX11_layRest_74 : decode cX11_layRest 74 = .ok (.istore 5, 2) := by decide +kernel
theorem dX11_layRest_76 : decode cX11_layRest 76 = .ok (.iload_n 3, 1) := by decide +kernel
theorem dX11_layRest_77 : decode cX11_layRest 77 = .ok (.iconst (-1), 1) := by decide +kernel
theorem dX11_layRest_78 : decode cX11_layRest 78 = .ok (.if_icmp .eq 9, 3) := by decide +kernel
theorem dX11_layRest_81 : decode cX11_layRest 81 = .ok (.iload 5, 2) := by decide +kernel
theorem dX11_layRest_83 : decode cX11_layRest 83 = .ok (.iload_n 3, 1) := by decide +kernel
theorem dX11_layRest_84 : decode cX11_layRest 84 = .ok (.if_icmp .ge 8, 3) := by decide +kernel
theorem dX11_layRest_87 : decode cX11_layRest 87 = .ok (.iload 5, 2) := by decide +kernel
theorem dX11_layRest_89 : decode cX11_layRest 89 = .ok (.goto 4, 3) := by decide +kernel
theorem dX11_layRest_92 : decode cX11_layRest 92 = .ok (.iload_n 3, 1) := by decide +kernel
theorem dX11_layRest_93 : decode cX11_layRest 93 = .ok (.istore_n 3, 1) := by decide +kernel
theorem dX11_layRest_94 : decode cX11_layRest 94 = .ok (.iinc 4 1, 3) := by decide +kernel
theorem dX11_layRest_97 : decode cX11_layRest 97 = .ok (.goto (-67), 3) := by decide +kernel
theorem dX11_layRest_100 : decode cX11_layRest 100 = .ok (.aload_n 0, 1) := by decide +kernel
theorem dX11_layRest_101 : decode cX11_layRest 101 = .ok (.getfield 114, 3) := by decide +kernel
theorem dX11_layRest_104 : decode cX11_layRest 104 = .ok (.iload_n 2, 1) := by decide +kernel
theorem dX11_layRest_105 : decode cX11_layRest 105 = .ok (.iload_n 3, 1) := by decide +kernel
theorem dX11_layRest_106 : decode cX11_layRest 106 = .ok (.iastore, 1) := by decide +kernel
theorem dX11_layRest_107 : decode cX11_layRest 107 = .ok (.iinc 2 (-1), 3) := by decide +kernel
theorem dX11_layRest_110 : decode cX11_layRest 110 = .ok (.goto (-106), 3) := by decide +kernel
theorem dX11_layRest_113 : decode cX11_layRest 113 = .ok (.return_, 1) := by decide +kernel
theorem dX11_ring_0 : decode cX11_ring 0 = .ok (.iload_n 1, 1) := by decide +kernel
theorem dX11_ring_1 : decode cX11_ring 1 = .ok (.iconst (-1), 1) := by decide +kernel
theorem dX11_ring_2 : decode cX11_ring 2 = .ok (.if_icmp .ge 6, 3) := by decide +kernel
theorem dX11_ring_5 : decode cX11_ring 5 = .ok (.bipush (-3), 2) := by decide +kernel
theorem dX11_ring_7 : decode cX11_ring 7 = .ok (.ireturn, 1) := by decide +kernel
theorem dX11_ring_8 : decode cX11_ring 8 = .ok (.aload_n 0, 1) := by decide +kernel
theorem dX11_ring_9 : decode cX11_ring 9 = .ok (.invokevirtual 282, 3) := by decide +kernel
theorem dX11_ring_12 : decode cX11_ring 12 = .ok (.istore_n 2, 1) := by decide +kernel
theorem dX11_ring_13 : decode cX11_ring 13 = .ok (.aload_n 0, 1) := by decide +kernel
theorem dX11_ring_14 : decode cX11_ring 14 = .ok (.iload_n 2, 1) := by decide +kernel
theorem dX11_ring_15 : decode cX11_ring 15 = .ok (.invokevirtual 285, 3) := by decide +kernel
theorem dX11_ring_18 : decode cX11_ring 18 = .ok (.iload_n 1, 1) := by decide +kernel
theorem dX11_ring_19 : decode cX11_ring 19 = .ok (.iconst (-1), 1) := by decide +kernel
theorem dX11_ring_20 : decode cX11_ring 20 = .ok (.if_icmp .ne 10, 3) := by decide +kernel
theorem dX11_ring_23 : decode cX11_ring 23 = .ok (.aload_n 0, 1) := by decide +kernel
theorem dX11_ring_24 : decode cX11_ring 24 = .ok (.getfield 114, 3) := by decide +kernel
theorem dX11_ring_27 : decode cX11_ring 27 = .ok (.iconst 0, 1) := by decide +kernel
theorem dX11_ring_28 : decode cX11_ring 28 = .ok (.iaload, 1) := by decide +kernel
theorem dX11_ring_29 : decode cX11_ring 29 = .ok (.ireturn, 1) := by decide +kernel
theorem dX11_ring_30 : decode cX11_ring 30 = .ok (.iconst 0, 1) := by decide +kernel
theorem dX11_ring_31 : decode cX11_ring 31 = .ok (.istore_n 3, 1) := by decide +kernel
theorem dX11_ring_32 : decode cX11_ring 32 = .ok (.iconst (-1), 1) := by decide +kernel
theorem dX11_ring_33 : decode cX11_ring 33 = .ok (.istore 4, 2) := by decide +kernel
theorem dX11_ring_35 : decode cX11_ring 35 = .ok (.iconst 0, 1) := by decide +kernel
theorem dX11_ring_36 : decode cX11_ring 36 = .ok (.istore 5, 2) := by decide +kernel
theorem dX11_ring_38 : decode cX11_ring 38 = .ok (.iload 5, 2) := by decide +kernel
theorem dX11_ring_40 : decode cX11_ring 40 = .ok (.iload_n 1, 1) := by decide +kernel
theorem dX11_ring_41 : decode cX11_ring 41 = .ok (.if_icmp .gt 104, 3) := by decide +kernel
theorem dX11_ring_44 : decode cX11_ring 44 = .ok (.iload 5, 2) := by decide +kernel
theorem dX11_ring_46 : decode cX11_ring 46 = .ok (.bipush 8, 2) := by decide +kernel
theorem dX11_ring_48 : decode cX11_ring 48 = .ok (.if_icmp .gt 97, 3) := by decide +kernel
theorem dX11_ring_51 : decode cX11_ring 51 = .ok (.iconst (-1), 1) := by decide +kernel
theorem dX11_ring_52 : decode cX11_ring 52 = .ok (.istore 4, 2) := by decide +kernel
theorem dX11_ring_54 : decode cX11_ring 54 = .ok (.bipush 7, 2) := by decide +kernel
theorem dX11_ring_56 : decode cX11_ring 56 = .ok (.istore 6, 2) := by decide +kernel
theorem dX11_ring_58 : decode cX11_ring 58 = .ok (.iload 6, 2) := by decide +kernel
theorem dX11_ring_60 : decode cX11_ring 60 = .ok (.ifCond .lt 62, 3) := by decide +kernel
theorem dX11_ring_63 : decode cX11_ring 63 = .ok (.iload_n 2, 1) := by decide +kernel
theorem dX11_ring_64 : decode cX11_ring 64 = .ok (.iload_n 3, 1) := by decide +kernel
theorem dX11_ring_65 : decode cX11_ring 65 = .ok (.iconst (-1), 1) := by decide +kernel
theorem dX11_ring_66 : decode cX11_ring 66 = .ok (.ixor, 1) := by decide +kernel
theorem dX11_ring_67 : decode cX11_ring 67 = .ok (.iand, 1) := by decide +kernel
theorem dX11_ring_68 : decode cX11_ring 68 = .ok (.iload 6, 2) := by decide +kernel
theorem dX11_ring_70 : decode cX11_ring 70 = .ok (.invokestatic 127, 3) := by decide +kernel
theorem dX11_ring_73 : decode cX11_ring 73 = .ok (.ifCond .eq 39, 3) := by decide +kernel
theorem dX11_ring_76 : decode cX11_ring 76 = .ok (.aload_n 0, 1) := by decide +kernel
theorem dX11_ring_77 : decode cX11_ring 77 = .ok (.iload 6, 2) := by decide +kernel
theorem dX11_ring_79 : decode cX11_ring 79 = .ok (.iload 5, 2) := by decide +kernel
theorem dX11_ring_81 : decode cX11_ring 81 = .ok (.iconst 1, 1) := by decide +kernel
theorem dX11_ring_82 : decode cX11_ring 82 = .ok (.iadd, 1) := by decide +kernel
theorem dX11_ring_83 : decode cX11_ring 83 = .ok (.invokevirtual 279, 3) := by decide +kernel
theorem dX11_ring_86 : decode cX11_ring 86 = .ok (.aload_n 0, 1) := by decide +kernel
theorem dX11_ring_87 : decode cX11_ring 87 = .ok (.getfield 114, 3) := by decide +kernel
theorem dX11_ring_90 : decode cX11_ring 90 = .ok (.iload_n 3, 1) := by decide +kernel
theorem dX11_ring_91 : decode cX11_ring 91 = .ok (.iconst 1, 1) := by decide +kernel
theorem dX11_ring_92 : decode cX11_ring 92 = .ok (.iload 6, 2) := by decide +kernel
theorem dX11_ring_94 : decode cX11_ring 94 = .ok (.ishl, 1) := by decide +kernel
theorem dX11_ring_95 : decode cX11_ring 95 = .ok (.ior, 1) := by decide +kernel
theorem dX11_ring_96 : decode cX11_ring 96 = .ok (.iaload, 1) := by decide +kernel
theorem dX11_ring_97 : decode cX11_ring 97 = .ok (.iadd, 1) := by decide +kernel
theorem dX11_ring_98 : decode cX11_ring 98 = .ok (.aload_n 0, 1) := by decide +kernel
theorem dX11_ring_99 : decode cX11_ring 99 = .ok (.getfield 114, 3) := by decide +kernel
theorem dX11_ring_102 : decode cX11_ring 102 = .ok (.iload_n 3, 1) := by decide +kernel
theorem dX11_ring_103 : decode cX11_ring 103 = .ok (.iaload, 1) := by decide +kernel
theorem dX11_ring_104 : decode cX11_ring 104 = .ok (.if_icmp .ne 8, 3) := by decide +kernel
theorem dX11_ring_107 : decode cX11_ring 107 = .ok (.iload 6, 2) := by decide +kernel
theorem dX11_ring_109 : decode cX11_ring 109 = .ok (.goto 5, 3) := by decide +kernel
theorem dX11_ring_112 : decode cX11_ring 112 = .ok (.iload 4, 2) := by decide +kernel
theorem dX11_ring_114 : decode cX11_ring 114 = .ok (.istore 4, 2) := by decide +kernel
theorem dX11_ring_116 : decode cX11_ring 116 = .ok (.iinc 6 (-1), 3) := by decide +kernel
theorem dX11_ring_119 : decode cX11_ring 119 = .ok (.goto (-61), 3) := by decide +kernel
theorem dX11_ring_122 : decode cX11_ring 122 = .ok (.iload 4, 2) := by decide +kernel
theorem dX11_ring_124 : decode cX11_ring 124 = .ok (.iconst (-1), 1) := by decide +kernel
theorem dX11_ring_125 : decode cX11_ring 125 = .ok (.if_icmp .ne 7, 3) := by decide +kernel
theorem dX11_ring_128 : decode cX11_ring 128 = .ok (.iload_n 3, 1) := by decide +kernel
theorem dX11_ring_129 : decode cX11_ring 129 = .ok (.goto 9, 3) := by decide +kernel
theorem dX11_ring_132 : decode cX11_ring 132 = .ok (.iload_n 3, 1) := by decide +kernel
theorem dX11_ring_133 : decode cX11_ring 133 = .ok (.iconst 1, 1) := by decide +kernel
theorem dX11_ring_134 : decode cX11_ring 134 = .ok (.iload 4, 2) := by decide +kernel
theorem dX11_ring_136 : decode cX11_ring 136 = .ok (.ishl, 1) := by decide +kernel
theorem dX11_ring_137 : decode cX11_ring 137 = .ok (.ior, 1) := by decide +kernel
theorem dX11_ring_138 : decode cX11_ring 138 = .ok (.istore_n 3, 1) := by decide +kernel
theorem dX11_ring_139 : decode cX11_ring 139 = .ok (.iinc 5 1, 3) := by decide +kernel
theorem dX11_ring_142 : decode cX11_ring 142 = .ok (.goto (-104), 3) := by decide +kernel
theorem dX11_ring_145 : decode cX11_ring 145 = .ok (.iload 4, 2) := by decide +kernel
theorem dX11_ring_147 : decode cX11_ring 147 = .ok (.ireturn, 1) := by decide +kernel
theorem dX11_hasBy_0 : decode cX11_hasBy 0 = .ok (.iload_n 0, 1) := by decide +kernel
theorem dX11_hasBy_1 : decode cX11_hasBy 1 = .ok (.iload_n 1, 1) := by decide +kernel
theorem dX11_hasBy_2 : decode cX11_hasBy 2 = .ok (.invokestatic 127, 3) := by decide +kernel
theorem dX11_hasBy_5 : decode cX11_hasBy 5 = .ok (.ifCond .eq 10, 3) := by decide +kernel
theorem dX11_hasBy_8 : decode cX11_hasBy 8 = .ok (.iload_n 3, 1) := by decide +kernel
theorem dX11_hasBy_9 : decode cX11_hasBy 9 = .ok (.iload 5, 2) := by decide +kernel
theorem dX11_hasBy_11 : decode cX11_hasBy 11 = .ok (.isub, 1) := by decide +kernel
theorem dX11_hasBy_12 : decode cX11_hasBy 12 = .ok (.goto 4, 3) := by decide +kernel
theorem dX11_hasBy_15 : decode cX11_hasBy 15 = .ok (.iconst 0, 1) := by decide +kernel
theorem dX11_hasBy_16 : decode cX11_hasBy 16 = .ok (.istore 6, 2) := by decide +kernel
theorem dX11_hasBy_18 : decode cX11_hasBy 18 = .ok (.iload_n 0, 1) := by decide +kernel
theorem dX11_hasBy_19 : decode cX11_hasBy 19 = .ok (.iload_n 1, 1) := by decide +kernel
theorem dX11_hasBy_20 : decode cX11_hasBy 20 = .ok (.invokestatic 127, 3) := by decide +kernel
theorem dX11_hasBy_23 : decode cX11_hasBy 23 = .ok (.ifCond .eq 8, 3) := by decide +kernel
theorem dX11_hasBy_26 : decode cX11_hasBy 26 = .ok (.iload 4, 2) := by decide +kernel
theorem dX11_hasBy_28 : decode cX11_hasBy 28 = .ok (.goto 7, 3) := by decide +kernel
theorem dX11_hasBy_31 : decode cX11_hasBy 31 = .ok (.iconst 2, 1) := by decide +kernel
theorem dX11_hasBy_32 : decode cX11_hasBy 32 = .ok (.iload 4, 2) := by decide +kernel
theorem dX11_hasBy_34 : decode cX11_hasBy 34 = .ok (.imul, 1) := by decide +kernel
theorem dX11_hasBy_35 : decode cX11_hasBy 35 = .ok (.istore 7, 2) := by decide +kernel
theorem dX11_hasBy_37 : decode cX11_hasBy 37 = .ok (.iload 6, 2) := by decide +kernel
theorem dX11_hasBy_39 : decode cX11_hasBy 39 = .ok (.iload_n 1, 1) := by decide +kernel
theorem dX11_hasBy_40 : decode cX11_hasBy 40 = .ok (.ifCond .le 18, 3) := by decide +kernel
theorem dX11_hasBy_43 : decode cX11_hasBy 43 = .ok (.iload_n 0, 1) := by decide +kernel
theorem dX11_hasBy_44 : decode cX11_hasBy 44 = .ok (.iload_n 1, 1) := by decide +kernel
theorem dX11_hasBy_45 : decode cX11_hasBy 45 = .ok (.iconst 1, 1) := by decide +kernel
theorem dX11_hasBy_46 : decode cX11_hasBy 46 = .ok (.isub, 1) := by decide +kernel
theorem dX11_hasBy_47 : decode cX11_hasBy 47 = .ok (.invokestatic 127, 3) := by decide +kernel
theorem dX11_hasBy_50 : decode cX11_hasBy 50 = .ok (.ifCond .eq 8, 3) := by decide +kernel
theorem dX11_hasBy_53 : decode cX11_hasBy 53 = .ok (.iload 7, 2) := by decide +kernel
theorem dX11_hasBy_55 : decode cX11_hasBy 55 = .ok (.goto 4, 3) := by decide +kernel
theorem dX11_hasBy_58 : decode cX11_hasBy 58 = .ok (.iconst 0, 1) := by decide +kernel
theorem dX11_hasBy_59 : decode cX11_hasBy 59 = .ok (.isub, 1) := by decide +kernel
theorem dX11_hasBy_60 : decode cX11_hasBy 60 = .ok (.istore 6, 2) := by decide +kernel
theorem dX11_hasBy_62 : decode cX11_hasBy 62 = .ok (.iload_n 1, 1) := by decide +kernel
theorem dX11_hasBy_63 : decode cX11_hasBy 63 = .ok (.iload_n 2, 1) := by decide +kernel
theorem dX11_hasBy_64 : decode cX11_hasBy 64 = .ok (.iconst 1, 1) := by decide +kernel
theorem dX11_hasBy_65 : decode cX11_hasBy 65 = .ok (.isub, 1) := by decide +kernel
theorem dX11_hasBy_66 : decode cX11_hasBy 66 = .ok (.if_icmp .ge 21, 3) := by decide +kernel
theorem dX11_hasBy_69 : decode cX11_hasBy 69 = .ok (.iload_n 0, 1) := by decide +kernel
theorem dX11_hasBy_70 : decode cX11_hasBy 70 = .ok (.iload_n 1, 1) := by decide +kernel
theorem dX11_hasBy_71 : decode cX11_hasBy 71 = .ok (.iconst 1, 1) := by decide +kernel
theorem dX11_hasBy_72 : decode cX11_hasBy 72 = .ok (.iadd, 1) := by decide +kernel
theorem dX11_hasBy_73 : decode cX11_hasBy 73 = .ok (.invokestatic 127, 3) := by decide +kernel
theorem dX11_hasBy_76 : decode cX11_hasBy 76 = .ok (.ifCond .eq 11, 3) := by decide +kernel
theorem dX11_hasBy_79 : decode cX11_hasBy 79 = .ok (.iload 6, 2) := by decide +kernel
theorem dX11_hasBy_81 : decode cX11_hasBy 81 = .ok (.iload 7, 2) := by decide +kernel
theorem dX11_hasBy_83 : decode cX11_hasBy 83 = .ok (.isub, 1) := by decide +kernel
theorem dX11_hasBy_84 : decode cX11_hasBy 84 = .ok (.goto 5, 3) := by decide +kernel
theorem dX11_hasBy_87 : decode cX11_hasBy 87 = .ok (.iload 6, 2) := by decide +kernel
theorem dX11_hasBy_89 : decode cX11_hasBy 89 = .ok (.ireturn, 1) := by decide +kernel
theorem dX11_street_0 : decode cX11_street 0 = .ok (.iload_n 1, 1) := by decide +kernel
theorem dX11_street_1 : decode cX11_street 1 = .ok (.iconst 1, 1) := by decide +kernel
theorem dX11_street_2 : decode cX11_street 2 = .ok (.bipush 8, 2) := by decide +kernel
theorem dX11_street_4 : decode cX11_street 4 = .ok (.invokestatic 120, 3) := by decide +kernel
theorem dX11_street_7 : decode cX11_street 7 = .ok (.ifCond .eq 44, 3) := by decide +kernel
theorem dX11_street_10 : decode cX11_street 10 = .ok (.iload_n 2, 1) := by decide +kernel
theorem dX11_street_11 : decode cX11_street 11 = .ok (.iconst 0, 1) := by decide +kernel
theorem dX11_street_12 : decode cX11_street 12 = .ok (.bipush 99, 2) := by decide +kernel
theorem dX11_street_14 : decode cX11_street 14 = .ok (.invokestatic 120, 3) := by decide +kernel
theorem dX11_street_17 : decode cX11_street 17 = .ok (.ifCond .eq 34, 3) := by decide +kernel
theorem dX11_street_20 : decode cX11_street 20 = .ok (.iload_n 3, 1) := by decide +kernel
theorem dX11_street_21 : decode cX11_street 21 = .ok (.iconst 0, 1) := by decide +kernel
theorem dX11_street_22 : decode cX11_street 22 = .ok (.bipush 99, 2) := by decide +kernel
theorem dX11_street_24 : decode cX11_street 24 = .ok (.invokestatic 120, 3) := by decide +kernel
theorem dX11_street_27 : decode cX11_street 27 = .ok (.ifCond .eq 24, 3) := by decide +kernel
theorem dX11_street_30 : decode cX11_street 30 = .ok (.iload 4, 2) := by decide +kernel
theorem dX11_street_32 : decode cX11_street 32 = .ok (.iconst 0, 1) := by decide +kernel
theorem dX11_street_33 : decode cX11_street 33 = .ok (.bipush 99, 2) := by decide +kernel
theorem dX11_street_35 : decode cX11_street 35 = .ok (.invokestatic 120, 3) := by decide +kernel
theorem dX11_street_38 : decode cX11_street 38 = .ok (.ifCond .eq 13, 3) := by decide +kernel
theorem dX11_street_41 : decode cX11_street 41 = .ok (.iload 5, 2) := by decide +kernel
theorem dX11_street_43 : decode cX11_street 43 = .ok (.iconst 0, 1) := by decide +kernel
theorem dX11_street_44 : decode cX11_street 44 = .ok (.iconst 3, 1) := by decide +kernel
theorem dX11_street_45 : decode cX11_street 45 = .ok (.invokestatic 120, 3) := by decide +kernel
theorem dX11_street_48 : decode cX11_street 48 = .ok (.ifCond .ne 6, 3) := by decide +kernel
theorem dX11_street_51 : decode cX11_street 51 = .ok (.bipush (-3), 2) := by decide +kernel
theorem dX11_street_53 : decode cX11_street 53 = .ok (.ireturn, 1) := by decide +kernel
theorem dX11_street_54 : decode cX11_street 54 = .ok (.iconst 0, 1) := by decide +kernel
theorem dX11_street_55 : decode cX11_street 55 = .ok (.istore 6, 2) := by decide +kernel
theorem dX11_street_57 : decode cX11_street 57 = .ok (.iconst (-1), 1) := by decide +kernel
theorem dX11_street_58 : decode cX11_street 58 = .ok (.istore 7, 2) := by decide +kernel
theorem dX11_street_60 : decode cX11_street 60 = .ok (.iconst 0, 1) := by decide +kernel
theorem dX11_street_61 : decode cX11_street 61 = .ok (.istore 8, 2) := by decide +kernel
theorem dX11_street_63 : decode cX11_street 63 = .ok (.iconst 0, 1) := by decide +kernel
theorem dX11_street_64 : decode cX11_street 64 = .ok (.istore 9, 2) := by decide +kernel
theorem dX11_street_66 : decode cX11_street 66 = .ok (.iconst 0, 1) := by decide +kernel
theorem dX11_street_67 : decode cX11_street 67 = .ok (.istore 10, 2) := by decide +kernel
theorem dX11_street_69 : decode cX11_street 69 = .ok (.iload 10, 2) := by decide +kernel
theorem dX11_street_71 : decode cX11_street 71 = .ok (.iconst 1, 1) := by decide +kernel
theorem dX11_street_72 : decode cX11_street 72 = .ok (.iload_n 1, 1) := by decide +kernel
theorem dX11_street_73 : decode cX11_street 73 = .ok (.ishl, 1) := by decide +kernel
theorem dX11_street_74 : decode cX11_street 74 = .ok (.if_icmp .ge 159, 3) := by decide +kernel
theorem dX11_street_77 : decode cX11_street 77 = .ok (.iconst 1, 1) := by decide +kernel
theorem dX11_street_78 : decode cX11_street 78 = .ok (.istore 11, 2) := by decide +kernel
theorem dX11_street_80 : decode cX11_street 80 = .ok (.iconst 0, 1) := by decide +kernel
theorem dX11_street_81 : decode cX11_street 81 = .ok (.istore 12, 2) := by decide +kernel
theorem dX11_street_83 : decode cX11_street 83 = .ok (.iconst 0, 1) := by decide +kernel
theorem dX11_street_84 : decode cX11_street 84 = .ok (.istore 13, 2) := by decide +kernel
theorem dX11_street_86 : decode cX11_street 86 = .ok (.iload 13, 2) := by decide +kernel
theorem dX11_street_88 : decode cX11_street 88 = .ok (.iload_n 1, 1) := by decide +kernel
theorem dX11_street_89 : decode cX11_street 89 = .ok (.if_icmp .ge 88, 3) := by decide +kernel
theorem dX11_street_92 : decode cX11_street 92 = .ok (.iload 10, 2) := by decide +kernel
theorem dX11_street_94 : decode cX11_street 94 = .ok (.iload 13, 2) := by decide +kernel
theorem dX11_street_96 : decode cX11_street 96 = .ok (.iload_n 1, 1) := by decide +kernel
theorem dX11_street_97 : decode cX11_street 97 = .ok (.iload_n 2, 1) := by decide +kernel
theorem dX11_street_98 : decode cX11_street 98 = .ok (.iload_n 3, 1) := by decide +kernel
theorem dX11_street_99 : decode cX11_street 99 = .ok (.iload 4, 2) := by decide +kernel
theorem dX11_street_101 : decode cX11_street 101 = .ok (.invokestatic 288, 3) := by decide +kernel
theorem dX11_street_104 : decode cX11_street 104 = .ok (.istore 14, 2) := by decide +kernel
theorem dX11_street_106 : decode cX11_street 106 = .ok (.iload 10, 2) := by decide +kernel
theorem dX11_street_108 : decode cX11_street 108 = .ok (.iconst 1, 1) := by decide +kernel
theorem dX11_street_109 : decode cX11_street 109 = .ok (.iload 13, 2) := by decide +kernel
theorem dX11_street_111 : decode cX11_street 111 = .ok (.ishl, 1) := by decide +kernel
theorem dX11_street_112 : decode cX11_street 112 = .ok (.ixor, 1) := by decide +kernel
theorem dX11_street_113 : decode cX11_street 113 = .ok (.iload 13, 2) := by decide +kernel
theorem dX11_street_115 : decode cX11_street 115 = .ok (.iload_n 1, 1) := by decide +kernel
theorem dX11_street_116 : decode cX11_street 116 = .ok (.iload_n 2, 1) := by decide +kernel
theorem dX11_street_117 : decode cX11_street 117 = .ok (.iload_n 3, 1) := by decide +kernel
theorem dX11_street_118 : decode cX11_street 118 = .ok (.iload 4, 2) := by decide +kernel
theorem dX11_street_120 : decode cX11_street 120 = .ok (.invokestatic 288, 3) := by decide +kernel
theorem dX11_street_123 : decode cX11_street 123 = .ok (.istore 15, 2) := by decide +kernel
theorem dX11_street_125 : decode cX11_street 125 = .ok (.iload 11, 2) := by decide +kernel
theorem dX11_street_127 : decode cX11_street 127 = .ok (.ifCond .eq 34, 3) := by decide +kernel
theorem dX11_street_130 : decode cX11_street 130 = .ok (.iload 10, 2) := by decide +kernel
theorem dX11_street_132 : decode cX11_street 132 = .ok (.iload 13, 2) := by decide +kernel
theorem dX11_street_134 : decode cX11_street 134 = .ok (.invokestatic 127, 3) := by decide +kernel
theorem dX11_street_137 : decode cX11_street 137 = .ok (.ifCond .eq 13, 3) := by decide +kernel
theorem dX11_street_140 : decode cX11_street 140 = .ok (.iload 14, 2) := by decide +kernel
theorem dX11_street_142 : decode cX11_street 142 = .ok (.iload 15, 2) := by decide +kernel
theorem dX11_street_144 : decode cX11_street 144 = .ok (.if_icmp .le 17, 3) := by decide +kernel
theorem dX11_street_147 : decode cX11_street 147 = .ok (.goto 10, 3) := by decide +kernel
theorem dX11_street_150 : decode cX11_street 150 = .ok (.iload 14, 2) := by decide +kernel
theorem dX11_street_152 : decode cX11_street 152 = .ok (.iload 15, 2) := by decide +kernel
theorem dX11_street_154 : decode cX11_street 154 = .ok (.if_icmp .lt 7, 3) := by decide +kernel
theorem dX11_street_157 : decode cX11_street 157 = .ok (.iconst 1, 1) := by decide +kernel
theorem dX11_street_158 : decode cX11_street 158 = .ok (.goto 4, 3) := by decide +kernel
theorem dX11_street_161 : decode cX11_street 161 = .ok (.iconst 0, 1) := by decide +kernel
theorem dX11_street_162 : decode cX11_street 162 = .ok (.istore 11, 2) := by decide +kernel
theorem dX11_street_164 : decode cX11_street 164 = .ok (.iload 12, 2) := by decide +kernel
theorem dX11_street_166 : decode cX11_street 166 = .ok (.iload 14, 2) := by decide +kernel
theorem dX11_street_168 : decode cX11_street 168 = .ok (.iadd, 1) := by decide +kernel
theorem dX11_street_169 : decode cX11_street 169 = .ok (.istore 12, 2) := by decide +kernel
theorem dX11_street_171 : decode cX11_street 171 = .ok (.iinc 13 1, 3) := by decide +kernel
theorem dX11_street_174 : decode cX11_street 174 = .ok (.goto (-88), 3) := by decide +kernel
theorem dX11_street_177 : decode cX11_street 177 = .ok (.iload 10, 2) := by decide +kernel
theorem dX11_street_179 : decode cX11_street 179 = .ok (.ifCond .eq 10, 3) := by decide +kernel
theorem dX11_street_182 : decode cX11_street 182 = .ok (.iload 12, 2) := by decide +kernel
theorem dX11_street_184 : decode cX11_street 184 = .ok (.iload 9, 2) := by decide +kernel
theorem dX11_street_186 : decode cX11_street 186 = .ok (.if_icmp .le 8, 3) := by decide +kernel
theorem dX11_street_189 : decode cX11_street 189 = .ok (.iload 12, 2) := by decide +kernel
theorem dX11_street_191 : decode cX11_street 191 = .ok (.goto 5, 3) := by decide +kernel
theorem dX11_street_194 : decode cX11_street 194 = .ok (.iload 9, 2) := by decide +kernel
theorem dX11_street_196 : decode cX11_street 196 = .ok (.istore 9, 2) := by decide +kernel
theorem dX11_street_198 : decode cX11_street 198 = .ok (.iload 11, 2) := by decide +kernel
theorem dX11_street_200 : decode cX11_street 200 = .ok (.ifCond .eq 27, 3) := by decide +kernel
theorem dX11_street_203 : decode cX11_street 203 = .ok (.iinc 6 1, 3) := by decide +kernel
theorem dX11_street_206 : decode cX11_street 206 = .ok (.iload 7, 2) := by decide +kernel
theorem dX11_street_208 : decode cX11_street 208 = .ok (.iconst (-1), 1) := by decide +kernel
theorem dX11_street_209 : decode cX11_street 209 = .ok (.if_icmp .eq 10, 3) := by decide +kernel
theorem dX11_street_212 : decode cX11_street 212 = .ok (.iload 12, 2) := by decide +kernel
theorem dX11_street_214 : decode cX11_street 214 = .ok (.iload 8, 2) := by decide +kernel
theorem dX11_street_216 : decode cX11_street 216 = .ok (.if_icmp .le 11, 3) := by decide +kernel
theorem dX11_street_219 : decode cX11_street 219 = .ok (.iload 10, 2) := by decide +kernel
theorem dX11_street_221 : decode cX11_street 221 = .ok (.istore 7, 2) := by decide +kernel
theorem dX11_street_223 : decode cX11_street 223 = .ok (.iload 12, 2) := by decide +kernel
theorem dX11_street_225 : decode cX11_street 225 = .ok (.istore 8, 2) := by decide +kernel
theorem dX11_street_227 : decode cX11_street 227 = .ok (.iinc 10 1, 3) := by decide +kernel
theorem dX11_street_230 : decode cX11_street 230 = .ok (.goto (-161), 3) := by decide +kernel
theorem dX11_street_233 : decode cX11_street 233 = .ok (.iload 5, 2) := by decide +kernel
theorem dX11_street_235 : decode cX11_street 235 = .ok (.ifCond .ne 8, 3) := by decide +kernel
theorem dX11_street_238 : decode cX11_street 238 = .ok (.iload 6, 2) := by decide +kernel
theorem dX11_street_240 : decode cX11_street 240 = .ok (.goto 41, 3) := by decide +kernel
theorem dX11_street_243 : decode cX11_street 243 = .ok (.iload 5, 2) := by decide +kernel
theorem dX11_street_245 : decode cX11_street 245 = .ok (.iconst 3, 1) := by decide +kernel
theorem dX11_street_246 : decode cX11_street 246 = .ok (.if_icmp .ne 12, 3) := by decide +kernel
theorem dX11_street_249 : decode cX11_street 249 = .ok (.iload 9, 2) := by decide +kernel
theorem dX11_street_251 : decode cX11_street 251 = .ok (.ldc_w 292, 3) := by decide +kernel
theorem dX11_street_254 : decode cX11_street 254 = .ok (.iadd, 1) := by decide +kernel
theorem dX11_street_255 : decode cX11_street 255 = .ok (.goto 26, 3) := by decide +kernel
theorem dX11_street_258 : decode cX11_street 258 = .ok (.iload 7, 2) := by decide +kernel
theorem dX11_street_260 : decode cX11_street 260 = .ok (.iconst (-1), 1) := by decide +kernel
theorem dX11_street_261 : decode cX11_street 261 = .ok (.if_icmp .eq 9, 3) := by decide +kernel
theorem dX11_street_264 : decode cX11_street 264 = .ok (.iload 5, 2) := by decide +kernel
theorem dX11_street_266 : decode cX11_street 266 = .ok (.iconst 1, 1) := by decide +kernel
theorem dX11_street_267 : decode cX11_street 267 = .ok (.if_icmp .ne 8, 3) := by decide +kernel
theorem dX11_street_270 : decode cX11_street 270 = .ok (.iload 7, 2) := by decide +kernel
theorem dX11_street_272 : decode cX11_street 272 = .ok (.goto 9, 3) := by decide +kernel
theorem dX11_street_275 : decode cX11_street 275 = .ok (.iload 8, 2) := by decide +kernel
theorem dX11_street_277 : decode cX11_street 277 = .ok (.ldc_w 292, 3) := by decide +kernel
theorem dX11_street_280 : decode cX11_street 280 = .ok (.iadd, 1) := by decide +kernel
theorem dX11_street_281 : decode cX11_street 281 = .ok (.ireturn, 1) := by decide +kernel
theorem dX11_count_0 : decode cX11_count 0 = .ok (.iload_n 1, 1) := by decide +kernel
theorem dX11_count_1 : decode cX11_count 1 = .ok (.tableswitch 75 0 5 #[39, 47, 52, 57, 62, 70], 39) := by decide +kernel
theorem dX11_count_40 : decode cX11_count 40 = .ok (.aload_n 0, 1) := by decide +kernel
theorem dX11_count_41 : decode cX11_count 41 = .ok (.getfield 124, 3) := by decide +kernel
theorem dX11_count_44 : decode cX11_count 44 = .ok (.invokestatic 276, 3) := by decide +kernel
theorem dX11_count_47 : decode cX11_count 47 = .ok (.ireturn, 1) := by decide +kernel
theorem dX11_count_48 : decode cX11_count 48 = .ok (.aload_n 0, 1) := by decide +kernel
theorem dX11_count_49 : decode cX11_count 49 = .ok (.getfield 131, 3) := by decide +kernel
theorem dX11_count_52 : decode cX11_count 52 = .ok (.ireturn, 1) := by decide +kernel
theorem dX11_count_53 : decode cX11_count 53 = .ok (.aload_n 0, 1) := by decide +kernel
theorem dX11_count_54 : decode cX11_count 54 = .ok (.getfield 229, 3) := by decide +kernel
theorem dX11_count_57 : decode cX11_count 57 = .ok (.ireturn, 1) := by decide +kernel
theorem dX11_count_58 : decode cX11_count 58 = .ok (.aload_n 0, 1) := by decide +kernel
theorem dX11_count_59 : decode cX11_count 59 = .ok (.getfield 270, 3) := by decide +kernel
theorem dX11_count_62 : decode cX11_count 62 = .ok (.ireturn, 1) := by decide +kernel
theorem dX11_count_63 : decode cX11_count 63 = .ok (.aload_n 0, 1) := by decide +kernel
theorem dX11_count_64 : decode cX11_count 64 = .ok (.invokevirtual 282, 3) := by decide +kernel
theorem dX11_count_67 : decode cX11_count 67 = .ok (.invokestatic 276, 3) := by decide +kernel
theorem dX11_count_70 : decode cX11_count 70 = .ok (.ireturn, 1) := by decide +kernel
theorem dX11_count_71 : decode cX11_count 71 = .ok (.aload_n 0, 1) := by decide +kernel
theorem dX11_count_72 : decode cX11_count 72 = .ok (.getfield 51, 3) := by decide +kernel
theorem dX11_count_75 : decode cX11_count 75 = .ok (.ireturn, 1) := by decide +kernel
theorem dX11_count_76 : decode cX11_count 76 = .ok (.bipush (-3), 2) := by decide +kernel
theorem dX11_count_78 : decode cX11_count 78 = .ok (.ireturn, 1) := by decide +kernel
theorem dJ6_bitCount_0f7a4_0 : decode cJ6_bitCount_0f7a4 0 = .ok (.iload_n 0, 1) := by decide +kernel
theorem dJ6_bitCount_0f7a4_1 : decode cJ6_bitCount_0f7a4 1 = .ok (.iload_n 0, 1) := by decide +kernel
theorem dJ6_bitCount_0f7a4_2 : decode cJ6_bitCount_0f7a4 2 = .ok (.iconst 1, 1) := by decide +kernel
theorem dJ6_bitCount_0f7a4_3 : decode cJ6_bitCount_0f7a4 3 = .ok (.iushr, 1) := by decide +kernel
theorem dJ6_bitCount_0f7a4_4 : decode cJ6_bitCount_0f7a4 4 = .ok (.ldc_w 265, 3) := by decide +kernel
theorem dJ6_bitCount_0f7a4_7 : decode cJ6_bitCount_0f7a4 7 = .ok (.iand, 1) := by decide +kernel
theorem dJ6_bitCount_0f7a4_8 : decode cJ6_bitCount_0f7a4 8 = .ok (.isub, 1) := by decide +kernel
theorem dJ6_bitCount_0f7a4_9 : decode cJ6_bitCount_0f7a4 9 = .ok (.istore_n 0, 1) := by decide +kernel
theorem dJ6_bitCount_0f7a4_10 : decode cJ6_bitCount_0f7a4 10 = .ok (.iload_n 0, 1) := by decide +kernel
theorem dJ6_bitCount_0f7a4_11 : decode cJ6_bitCount_0f7a4 11 = .ok (.ldc_w 266, 3) := by decide +kernel
theorem dJ6_bitCount_0f7a4_14 : decode cJ6_bitCount_0f7a4 14 = .ok (.iand, 1) := by decide +kernel
theorem dJ6_bitCount_0f7a4_15 : decode cJ6_bitCount_0f7a4 15 = .ok (.iload_n 0, 1) := by decide +kernel
theorem dJ6_bitCount_0f7a4_16 : decode cJ6_bitCount_0f7a4 16 = .ok (.iconst 2, 1) := by decide +kernel
theorem dJ6_bitCount_0f7a4_17 : decode cJ6_bitCount_0f7a4 17 = .ok (.iushr, 1) := by decide +kernel
theorem dJ6_bitCount_0f7a4_18 : decode cJ6_bitCount_0f7a4 18 = .ok (.ldc_w 266, 3) := by decide +kernel
theorem dJ6_bitCount_0f7a4_21 : decode cJ6_bitCount_0f7a4 21 = .ok (.iand, 1) := by decide +kernel
theorem dJ6_bitCount_0f7a4_22 : decode cJ6_bitCount_0f7a4 22 = .ok (.iadd, 1) := by decide +kernel
theorem dJ6_bitCount_0f7a4_23 : decode cJ6_bitCount_0f7a4 23 = .ok (.istore_n 0, 1) := by decide +kernel
theorem dJ6_bitCount_0f7a4_24 : decode cJ6_bitCount_0f7a4 24 = .ok (.iload_n 0, 1) := by decide +kernel
theorem dJ6_bitCount_0f7a4_25 : decode cJ6_bitCount_0f7a4 25 = .ok (.iload_n 0, 1) := by decide +kernel
theorem dJ6_bitCount_0f7a4_26 : decode cJ6_bitCount_0f7a4 26 = .ok (.iconst 4, 1) := by decide +kernel
theorem dJ6_bitCount_0f7a4_27 : decode cJ6_bitCount_0f7a4 27 = .ok (.iushr, 1) := by decide +kernel
theorem dJ6_bitCount_0f7a4_28 : decode cJ6_bitCount_0f7a4 28 = .ok (.iadd, 1) := by decide +kernel
theorem dJ6_bitCount_0f7a4_29 : decode cJ6_bitCount_0f7a4 29 = .ok (.ldc_w 267, 3) := by decide +kernel
theorem dJ6_bitCount_0f7a4_32 : decode cJ6_bitCount_0f7a4 32 = .ok (.iand, 1) := by decide +kernel
theorem dJ6_bitCount_0f7a4_33 : decode cJ6_bitCount_0f7a4 33 = .ok (.istore_n 0, 1) := by decide +kernel
theorem dJ6_bitCount_0f7a4_34 : decode cJ6_bitCount_0f7a4 34 = .ok (.iload_n 0, 1) := by decide +kernel
theorem dJ6_bitCount_0f7a4_35 : decode cJ6_bitCount_0f7a4 35 = .ok (.iload_n 0, 1) := by decide +kernel
theorem dJ6_bitCount_0f7a4_36 : decode cJ6_bitCount_0f7a4 36 = .ok (.bipush 8, 2) := by decide +kernel
theorem dJ6_bitCount_0f7a4_38 : decode cJ6_bitCount_0f7a4 38 = .ok (.iushr, 1) := by decide +kernel
theorem dJ6_bitCount_0f7a4_39 : decode cJ6_bitCount_0f7a4 39 = .ok (.iadd, 1) := by decide +kernel
theorem dJ6_bitCount_0f7a4_40 : decode cJ6_bitCount_0f7a4 40 = .ok (.istore_n 0, 1) := by decide +kernel
theorem dJ6_bitCount_0f7a4_41 : decode cJ6_bitCount_0f7a4 41 = .ok (.iload_n 0, 1) := by decide +kernel
theorem dJ6_bitCount_0f7a4_42 : decode cJ6_bitCount_0f7a4 42 = .ok (.iload_n 0, 1) := by decide +kernel
theorem dJ6_bitCount_0f7a4_43 : decode cJ6_bitCount_0f7a4 43 = .ok (.bipush 16, 2) := by decide +kernel
theorem dJ6_bitCount_0f7a4_45 : decode cJ6_bitCount_0f7a4 45 = .ok (.iushr, 1) := by decide +kernel
theorem dJ6_bitCount_0f7a4_46 : decode cJ6_bitCount_0f7a4 46 = .ok (.iadd, 1) := by decide +kernel
theorem dJ6_bitCount_0f7a4_47 : decode cJ6_bitCount_0f7a4 47 = .ok (.istore_n 0, 1) := by decide +kernel
theorem dJ6_bitCount_0f7a4_48 : decode cJ6_bitCount_0f7a4 48 = .ok (.iload_n 0, 1) := by decide +kernel
theorem dJ6_bitCount_0f7a4_49 : decode cJ6_bitCount_0f7a4 49 = .ok (.bipush 63, 2) := by decide +kernel
theorem dJ6_bitCount_0f7a4_51 : decode cJ6_bitCount_0f7a4 51 = .ok (.iand, 1) := by decide +kernel
theorem dJ6_bitCount_0f7a4_52 : decode cJ6_bitCount_0f7a4 52 = .ok (.ireturn, 1) := by decide +kernel
theorem dJ9_abs_0f7a4_0 : decode cJ9_abs_0f7a4 0 = .ok (.iload_n 0, 1) := by decide +kernel
theorem dJ9_abs_0f7a4_1 : decode cJ9_abs_0f7a4 1 = .ok (.ifCond .ge 8, 3) := by decide +kernel
theorem dJ9_abs_0f7a4_4 : decode cJ9_abs_0f7a4 4 = .ok (.iload_n 0, 1) := by decide +kernel
theorem dJ9_abs_0f7a4_5 : decode cJ9_abs_0f7a4 5 = .ok (.ineg, 1) := by decide +kernel
theorem dJ9_abs_0f7a4_6 : decode cJ9_abs_0f7a4 6 = .ok (.goto 4, 3) := by decide +kernel
theorem dJ9_abs_0f7a4_9 : decode cJ9_abs_0f7a4 9 = .ok (.iload_n 0, 1) := by decide +kernel
theorem dJ9_abs_0f7a4_10 : decode cJ9_abs_0f7a4 10 = .ok (.ireturn, 1) := by decide +kernel
theorem dJ9_max_7cf53_0 : decode cJ9_max_7cf53 0 = .ok (.iload_n 0, 1) := by decide +kernel
theorem dJ9_max_7cf53_1 : decode cJ9_max_7cf53 1 = .ok (.iload_n 1, 1) := by decide +kernel
theorem dJ9_max_7cf53_2 : decode cJ9_max_7cf53 2 = .ok (.if_icmp .lt 7, 3) := by decide +kernel
theorem dJ9_max_7cf53_5 : decode cJ9_max_7cf53 5 = .ok (.iload_n 0, 1) := by decide +kernel
theorem dJ9_max_7cf53_6 : decode cJ9_max_7cf53 6 = .ok (.goto 4, 3) := by decide +kernel
theorem dJ9_max_7cf53_9 : decode cJ9_max_7cf53 9 = .ok (.iload_n 1, 1) := by decide +kernel
theorem dJ9_max_7cf53_10 : decode cJ9_max_7cf53 10 = .ok (.ireturn, 1) := by decide +kernel
theorem dJ9_min_7cf53_0 : decode cJ9_min_7cf53 0 = .ok (.iload_n 0, 1) := by decide +kernel
theorem dJ9_min_7cf53_1 : decode cJ9_min_7cf53 1 = .ok (.iload_n 1, 1) := by decide +kernel
theorem dJ9_min_7cf53_2 : decode cJ9_min_7cf53 2 = .ok (.if_icmp .gt 7, 3) := by decide +kernel
theorem dJ9_min_7cf53_5 : decode cJ9_min_7cf53 5 = .ok (.iload_n 0, 1) := by decide +kernel
theorem dJ9_min_7cf53_6 : decode cJ9_min_7cf53 6 = .ok (.goto 4, 3) := by decide +kernel
theorem dJ9_min_7cf53_9 : decode cJ9_min_7cf53 9 = .ok (.iload_n 1, 1) := by decide +kernel
theorem dJ9_min_7cf53_10 : decode cJ9_min_7cf53 10 = .ok (.ireturn, 1) := by decide +kernel
theorem dJ0_length_8abf5_0 : decode cJ0_length_8abf5 0 = .ok (.aload_n 0, 1) := by decide +kernel
theorem dJ0_length_8abf5_1 : decode cJ0_length_8abf5 1 = .ok (.getfield 9, 3) := by decide +kernel
theorem dJ0_length_8abf5_4 : decode cJ0_length_8abf5 4 = .ok (.arraylength, 1) := by decide +kernel
theorem dJ0_length_8abf5_5 : decode cJ0_length_8abf5 5 = .ok (.aload_n 0, 1) := by decide +kernel
theorem dJ0_length_8abf5_6 : decode cJ0_length_8abf5 6 = .ok (.invokevirtual 335, 3) := by decide +kernel
theorem dJ0_length_8abf5_9 : decode cJ0_length_8abf5 9 = .ok (.ishr, 1) := by decide +kernel
theorem dJ0_length_8abf5_10 : decode cJ0_length_8abf5 10 = .ok (.ireturn, 1) := by decide +kernel
theorem dJ0_charAt_5068e_0 : decode cJ0_charAt_5068e 0 = .ok (.aload_n 0, 1) := by decide +kernel
theorem dJ0_charAt_5068e_1 : decode cJ0_charAt_5068e 1 = .ok (.invokevirtual 492, 3) := by decide +kernel
theorem dJ0_charAt_5068e_4 : decode cJ0_charAt_5068e 4 = .ok (.ifCond .eq 12, 3) := by decide +kernel
theorem dJ0_charAt_5068e_7 : decode cJ0_charAt_5068e 7 = .ok (.aload_n 0, 1) := by decide +kernel
theorem dJ0_charAt_5068e_8 : decode cJ0_charAt_5068e 8 = .ok (.getfield 9, 3) := by decide +kernel
theorem dJ0_charAt_5068e_11 : decode cJ0_charAt_5068e 11 = .ok (.iload_n 1, 1) := by decide +kernel
theorem dJ0_charAt_5068e_12 : decode cJ0_charAt_5068e 12 = .ok (.invokestatic 495, 3) := by decide +kernel
theorem dJ0_charAt_5068e_15 : decode cJ0_charAt_5068e 15 = .ok (.ireturn, 1) := by decide +kernel
theorem dJ0_charAt_5068e_16 : decode cJ0_charAt_5068e 16 = .ok (.aload_n 0, 1) := by decide +kernel
theorem dJ0_charAt_5068e_17 : decode cJ0_charAt_5068e 17 = .ok (.getfield 9, 3) := by decide +kernel
theorem dJ0_charAt_5068e_20 : decode cJ0_charAt_5068e 20 = .ok (.iload_n 1, 1) := by decide +kernel
theorem dJ0_charAt_5068e_21 : decode cJ0_charAt_5068e 21 = .ok (.invokestatic 498, 3) := by decide +kernel
theorem dJ0_charAt_5068e_24 : decode cJ0_charAt_5068e 24 = .ok (.ireturn, 1) := by decide +kernel
theorem dJ0_coder_7d493_0 : decode cJ0_coder_7d493 0 = .ok (.getstatic 38, 3) := by decide +kernel
theorem dJ0_coder_7d493_3 : decode cJ0_coder_7d493 3 = .ok (.ifCond .eq 10, 3) := by decide +kernel
theorem dJ0_coder_7d493_6 : decode cJ0_coder_7d493 6 = .ok (.aload_n 0, 1) := by decide +kernel
theorem dJ0_coder_7d493_7 : decode cJ0_coder_7d493 7 = .ok (.getfield 15, 3) := by decide +kernel
theorem dJ0_coder_7d493_10 : decode cJ0_coder_7d493 10 = .ok (.goto 4, 3) := by decide +kernel
theorem dJ0_coder_7d493_13 : decode cJ0_coder_7d493 13 = .ok (.iconst 1, 1) := by decide +kernel
theorem dJ0_coder_7d493_14 : decode cJ0_coder_7d493 14 = .ok (.ireturn, 1) := by decide +kernel
theorem dJ0_isLatin1_aae02_0 : decode cJ0_isLatin1_aae02 0 = .ok (.getstatic 38, 3) := by decide +kernel
theorem dJ0_isLatin1_aae02_3 : decode cJ0_isLatin1_aae02 3 = .ok (.ifCond .eq 14, 3) := by decide +kernel
theorem dJ0_isLatin1_aae02_6 : decode cJ0_isLatin1_aae02 6 = .ok (.aload_n 0, 1) := by decide +kernel
theorem dJ0_isLatin1_aae02_7 : decode cJ0_isLatin1_aae02 7 = .ok (.getfield 15, 3) := by decide +kernel
theorem dJ0_isLatin1_aae02_10 : decode cJ0_isLatin1_aae02 10 = .ok (.ifCond .ne 7, 3) := by decide +kernel
theorem dJ0_isLatin1_aae02_13 : decode cJ0_isLatin1_aae02 13 = .ok (.iconst 1, 1) := by decide +kernel
theorem dJ0_isLatin1_aae02_14 : decode cJ0_isLatin1_aae02 14 = .ok (.goto 4, 3) := by decide +kernel
theorem dJ0_isLatin1_aae02_17 : decode cJ0_isLatin1_aae02 17 = .ok (.iconst 0, 1) := by decide +kernel
theorem dJ0_isLatin1_aae02_18 : decode cJ0_isLatin1_aae02 18 = .ok (.ireturn, 1) := by decide +kernel
theorem dJ0_checkIndex_df160_0 : decode cJ0_checkIndex_df160 0 = .ok (.iload_n 0, 1) := by decide +kernel
theorem dJ0_checkIndex_df160_1 : decode cJ0_checkIndex_df160 1 = .ok (.iload_n 1, 1) := by decide +kernel
theorem dJ0_checkIndex_df160_2 : decode cJ0_checkIndex_df160 2 = .ok (.getstatic 1053, 3) := by decide +kernel
theorem dJ0_checkIndex_df160_5 : decode cJ0_checkIndex_df160 5 = .ok (.invokestatic 1059, 3) := by decide +kernel
theorem dJ0_checkIndex_df160_8 : decode cJ0_checkIndex_df160 8 = .ok (.pop, 1) := by decide +kernel
theorem dJ0_checkIndex_df160_9 : decode cJ0_checkIndex_df160 9 = .ok (.return_, 1) := by decide +kernel
theorem dJ1_charAt_3b067_0 : decode cJ1_charAt_3b067 0 = .ok (.iload_n 1, 1) := by decide +kernel
theorem dJ1_charAt_3b067_1 : decode cJ1_charAt_3b067 1 = .ok (.aload_n 0, 1) := by decide +kernel
theorem dJ1_charAt_3b067_2 : decode cJ1_charAt_3b067 2 = .ok (.arraylength, 1) := by decide +kernel
theorem dJ1_charAt_3b067_3 : decode cJ1_charAt_3b067 3 = .ok (.invokestatic 9, 3) := by decide +kernel
theorem dJ1_charAt_3b067_6 : decode cJ1_charAt_3b067 6 = .ok (.aload_n 0, 1) := by decide +kernel
theorem dJ1_charAt_3b067_7 : decode cJ1_charAt_3b067 7 = .ok (.iload_n 1, 1) := by decide +kernel
theorem dJ1_charAt_3b067_8 : decode cJ1_charAt_3b067 8 = .ok (.baload, 1) := by decide +kernel
theorem dJ1_charAt_3b067_9 : decode cJ1_charAt_3b067 9 = .ok (.sipush 255, 3) := by decide +kernel
theorem dJ1_charAt_3b067_12 : decode cJ1_charAt_3b067 12 = .ok (.iand, 1) := by decide +kernel
theorem dJ1_charAt_3b067_13 : decode cJ1_charAt_3b067 13 = .ok (.i2c, 1) := by decide +kernel
theorem dJ1_charAt_3b067_14 : decode cJ1_charAt_3b067 14 = .ok (.ireturn, 1) := by decide +kernel
theorem dJ2_getChar_3b067_0 : decode cJ2_getChar_3b067 0 = .ok (.getstatic 44, 3) := by decide +kernel
theorem dJ2_getChar_3b067_3 : decode cJ2_getChar_3b067 3 = .ok (.ifCond .ne 25, 3) := by decide +kernel
theorem dJ2_getChar_3b067_6 : decode cJ2_getChar_3b067 6 = .ok (.iload_n 1, 1) := by decide +kernel
theorem dJ2_getChar_3b067_7 : decode cJ2_getChar_3b067 7 = .ok (.ifCond .lt 11, 3) := by decide +kernel
theorem dJ2_getChar_3b067_10 : decode cJ2_getChar_3b067 10 = .ok (.iload_n 1, 1) := by decide +kernel
theorem dJ2_getChar_3b067_11 : decode cJ2_getChar_3b067 11 = .ok (.aload_n 0, 1) := by decide +kernel
theorem dJ2_getChar_3b067_12 : decode cJ2_getChar_3b067 12 = .ok (.invokestatic 48, 3) := by decide +kernel
theorem dJ2_getChar_3b067_15 : decode cJ2_getChar_3b067 15 = .ok (.if_icmp .lt 13, 3) := by decide +kernel
theorem dJ2_getChar_3b067_18 : decode cJ2_getChar_3b067 18 = .ok (.new 52, 3) := by decide +kernel
theorem dJ2_getChar_3b067_21 : decode cJ2_getChar_3b067 21 = .ok (.dup, 1) := by decide +kernel
theorem dJ2_getChar_3b067_22 : decode cJ2_getChar_3b067 22 = .ok (.ldc 54, 2) := by decide +kernel
theorem dJ2_getChar_3b067_24 : decode cJ2_getChar_3b067 24 = .ok (.invokespecial 56, 3) := by decide +kernel
theorem dJ2_getChar_3b067_27 : decode cJ2_getChar_3b067 27 = .ok (.athrow, 1) := by decide +kernel
theorem dJ2_getChar_3b067_28 : decode cJ2_getChar_3b067 28 = .ok (.iload_n 1, 1) := by decide +kernel
theorem dJ2_getChar_3b067_29 : decode cJ2_getChar_3b067 29 = .ok (.iconst 1, 1) := by decide +kernel
theorem dJ2_getChar_3b067_30 : decode cJ2_getChar_3b067 30 = .ok (.ishl, 1) := by decide +kernel
theorem dJ2_getChar_3b067_31 : decode cJ2_getChar_3b067 31 = .ok (.istore_n 1, 1) := by decide +kernel
theorem dJ2_getChar_3b067_32 : decode cJ2_getChar_3b067 32 = .ok (.aload_n 0, 1) := by decide +kernel
theorem dJ2_getChar_3b067_33 : decode cJ2_getChar_3b067 33 = .ok (.iload_n 1, 1) := by decide +kernel
theorem dJ2_getChar_3b067_34 : decode cJ2_getChar_3b067 34 = .ok (.iinc 1 1, 3) := by decide +kernel
theorem dJ2_getChar_3b067_37 : decode cJ2_getChar_3b067 37 = .ok (.baload, 1) := by decide +kernel
theorem dJ2_getChar_3b067_38 : decode cJ2_getChar_3b067 38 = .ok (.sipush 255, 3) := by decide +kernel
theorem dJ2_getChar_3b067_41 : decode cJ2_getChar_3b067 41 = .ok (.iand, 1) := by decide +kernel
theorem dJ2_getChar_3b067_42 : decode cJ2_getChar_3b067 42 = .ok (.getstatic 59, 3) := by decide +kernel
theorem dJ2_getChar_3b067_45 : decode cJ2_getChar_3b067 45 = .ok (.ishl, 1) := by decide +kernel
theorem dJ2_getChar_3b067_46 : decode cJ2_getChar_3b067 46 = .ok (.aload_n 0, 1) := by decide +kernel
theorem dJ2_getChar_3b067_47 : decode cJ2_getChar_3b067 47 = .ok (.iload_n 1, 1) := by decide +kernel
theorem dJ2_getChar_3b067_48 : decode cJ2_getChar_3b067 48 = .ok (.baload, 1) := by decide +kernel
theorem dJ2_getChar_3b067_49 : decode cJ2_getChar_3b067 49 = .ok (.sipush 255, 3) := by decide +kernel
theorem dJ2_getChar_3b067_52 : decode cJ2_getChar_3b067 52 = .ok (.iand, 1) := by decide +kernel
theorem dJ2_getChar_3b067_53 : decode cJ2_getChar_3b067 53 = .ok (.getstatic 63, 3) := by decide +kernel
theorem dJ2_getChar_3b067_56 : decode cJ2_getChar_3b067 56 = .ok (.ishl, 1) := by decide +kernel
theorem dJ2_getChar_3b067_57 : decode cJ2_getChar_3b067 57 = .ok (.ior, 1) := by decide +kernel
theorem dJ2_getChar_3b067_58 : decode cJ2_getChar_3b067 58 = .ok (.i2c, 1) := by decide +kernel
theorem dJ2_getChar_3b067_59 : decode cJ2_getChar_3b067 59 = .ok (.ireturn, 1) := by decide +kernel
theorem dJ2_length_9d52b_0 : decode cJ2_length_9d52b 0 = .ok (.aload_n 0, 1) := by decide +kernel
theorem dJ2_length_9d52b_1 : decode cJ2_length_9d52b 1 = .ok (.arraylength, 1) := by decide +kernel
theorem dJ2_length_9d52b_2 : decode cJ2_length_9d52b 2 = .ok (.iconst 1, 1) := by decide +kernel
theorem dJ2_length_9d52b_3 : decode cJ2_length_9d52b 3 = .ok (.ishr, 1) := by decide +kernel
theorem dJ2_length_9d52b_4 : decode cJ2_length_9d52b 4 = .ok (.ireturn, 1) := by decide +kernel
theorem dJ2_charAt_3b067_0 : decode cJ2_charAt_3b067 0 = .ok (.iload_n 1, 1) := by decide +kernel
theorem dJ2_charAt_3b067_1 : decode cJ2_charAt_3b067 1 = .ok (.aload_n 0, 1) := by decide +kernel
theorem dJ2_charAt_3b067_2 : decode cJ2_charAt_3b067 2 = .ok (.invokestatic 67, 3) := by decide +kernel
theorem dJ2_charAt_3b067_5 : decode cJ2_charAt_3b067 5 = .ok (.aload_n 0, 1) := by decide +kernel
theorem dJ2_charAt_3b067_6 : decode cJ2_charAt_3b067 6 = .ok (.iload_n 1, 1) := by decide +kernel
theorem dJ2_charAt_3b067_7 : decode cJ2_charAt_3b067 7 = .ok (.invokestatic 71, 3) := by decide +kernel
theorem dJ2_charAt_3b067_10 : decode cJ2_charAt_3b067 10 = .ok (.ireturn, 1) := by decide +kernel
theorem dJ2_checkIndex_2214a_0 : decode cJ2_checkIndex_2214a 0 = .ok (.iload_n 0, 1) := by decide +kernel
theorem dJ2_checkIndex_2214a_1 : decode cJ2_checkIndex_2214a 1 = .ok (.aload_n 1, 1) := by decide +kernel
theorem dJ2_checkIndex_2214a_2 : decode cJ2_checkIndex_2214a 2 = .ok (.invokestatic 48, 3) := by decide +kernel
theorem dJ2_checkIndex_2214a_5 : decode cJ2_checkIndex_2214a 5 = .ok (.invokestatic 414, 3) := by decide +kernel
theorem dJ2_checkIndex_2214a_8 : decode cJ2_checkIndex_2214a 8 = .ok (.return_, 1) := by decide +kernel
theorem dJ3_checkIndex_8e157_0 : decode cJ3_checkIndex_8e157 0 = .ok (.iload_n 0, 1) := by decide +kernel
theorem dJ3_checkIndex_8e157_1 : decode cJ3_checkIndex_8e157 1 = .ok (.ifCond .lt 8, 3) := by decide +kernel
theorem dJ3_checkIndex_8e157_4 : decode cJ3_checkIndex_8e157 4 = .ok (.iload_n 0, 1) := by decide +kernel
theorem dJ3_checkIndex_8e157_5 : decode cJ3_checkIndex_8e157 5 = .ok (.iload_n 1, 1) := by decide +kernel
theorem dJ3_checkIndex_8e157_6 : decode cJ3_checkIndex_8e157 6 = .ok (.if_icmp .lt 10, 3) := by decide +kernel
theorem dJ3_checkIndex_8e157_9 : decode cJ3_checkIndex_8e157 9 = .ok (.aload_n 2, 1) := by decide +kernel
theorem dJ3_checkIndex_8e157_10 : decode cJ3_checkIndex_8e157 10 = .ok (.iload_n 0, 1) := by decide +kernel
theorem dJ3_checkIndex_8e157_11 : decode cJ3_checkIndex_8e157 11 = .ok (.iload_n 1, 1) := by decide +kernel
theorem dJ3_checkIndex_8e157_12 : decode cJ3_checkIndex_8e157 12 = .ok (.invokestatic 95, 3) := by decide +kernel
theorem dJ3_checkIndex_8e157_15 : decode cJ3_checkIndex_8e157 15 = .ok (.athrow, 1) := by decide +kernel
theorem dJ3_checkIndex_8e157_16 : decode cJ3_checkIndex_8e157 16 = .ok (.iload_n 0, 1) := by decide +kernel
theorem dJ3_checkIndex_8e157_17 : decode cJ3_checkIndex_8e157 17 = .ok (.ireturn, 1) := by decide +kernel
theorem dL_law_0 : decode cL_law 0 = .ok (.new 7, 3) := by decide +kernel
theorem dL_law_3 : decode cL_law 3 = .ok (.dup, 1) := by decide +kernel
theorem dL_law_4 : decode cL_law 4 = .ok (.invokespecial 9, 3) := by decide +kernel
theorem dL_law_7 : decode cL_law 7 = .ok (.astore_n 1, 1) := by decide +kernel
theorem dL_law_8 : decode cL_law 8 = .ok (.new 10, 3) := by decide +kernel
theorem dL_law_11 : decode cL_law 11 = .ok (.dup, 1) := by decide +kernel
theorem dL_law_12 : decode cL_law 12 = .ok (.invokespecial 12, 3) := by decide +kernel
theorem dL_law_15 : decode cL_law 15 = .ok (.astore_n 2, 1) := by decide +kernel
theorem dL_law_16 : decode cL_law 16 = .ok (.iconst 0, 1) := by decide +kernel
theorem dL_law_17 : decode cL_law 17 = .ok (.istore_n 3, 1) := by decide +kernel
theorem dL_law_18 : decode cL_law 18 = .ok (.iload_n 3, 1) := by decide +kernel
theorem dL_law_19 : decode cL_law 19 = .ok (.aload_n 0, 1) := by decide +kernel
theorem dL_law_20 : decode cL_law 20 = .ok (.arraylength, 1) := by decide +kernel
theorem dL_law_21 : decode cL_law 21 = .ok (.bipush 6, 2) := by decide +kernel
theorem dL_law_23 : decode cL_law 23 = .ok (.isub, 1) := by decide +kernel
theorem dL_law_24 : decode cL_law 24 = .ok (.if_icmp .gt 760, 3) := by decide +kernel
theorem dL_law_27 : decode cL_law 27 = .ok (.aload_n 0, 1) := by decide +kernel
theorem dL_law_28 : decode cL_law 28 = .ok (.iload_n 3, 1) := by decide +kernel
theorem dL_law_29 : decode cL_law 29 = .ok (.iaload, 1) := by decide +kernel
theorem dL_law_30 : decode cL_law 30 = .ok (.bipush 31, 2) := by decide +kernel
theorem dL_law_32 : decode cL_law 32 = .ok (.iand, 1) := by decide +kernel
theorem dL_law_33 : decode cL_law 33 = .ok (.tableswitch 745 0 19 #[95, 158, 171, 184, 197, 230, 263, 286, 329, 352, 385, 408, 431, 484, 517, 560, 593, 636, 659, 722], 95) := by decide +kernel
theorem dL_law_128 : decode cL_law 128 = .ok (.aload_n 1, 1) := by decide +kernel
theorem dL_law_129 : decode cL_law 129 = .ok (.aload_n 0, 1) := by decide +kernel
theorem dL_law_130 : decode cL_law 130 = .ok (.iload_n 3, 1) := by decide +kernel
theorem dL_law_131 : decode cL_law 131 = .ok (.iconst 1, 1) := by decide +kernel
theorem dL_law_132 : decode cL_law 132 = .ok (.iadd, 1) := by decide +kernel
theorem dL_law_133 : decode cL_law 133 = .ok (.iaload, 1) := by decide +kernel
theorem dL_law_134 : decode cL_law 134 = .ok (.i2l, 1) := by decide +kernel
theorem dL_law_135 : decode cL_law 135 = .ok (.bipush 32, 2) := by decide +kernel
theorem dL_law_137 : decode cL_law 137 = .ok (.lshl, 1) := by decide +kernel
theorem dL_law_138 : decode cL_law 138 = .ok (.aload_n 0, 1) := by decide +kernel
theorem dL_law_139 : decode cL_law 139 = .ok (.iload_n 3, 1) := by decide +kernel
theorem dL_law_140 : decode cL_law 140 = .ok (.iconst 2, 1) := by decide +kernel
theorem dL_law_141 : decode cL_law 141 = .ok (.iadd, 1) := by decide +kernel
theorem dL_law_142 : decode cL_law 142 = .ok (.iaload, 1) := by decide +kernel
theorem dL_law_143 : decode cL_law 143 = .ok (.i2l, 1) := by decide +kernel
theorem dL_law_144 : decode cL_law 144 = .ok (.ldc2_w 13, 3) := by decide +kernel
theorem dL_law_147 : decode cL_law 147 = .ok (.land, 1) := by decide +kernel
theorem dL_law_148 : decode cL_law 148 = .ok (.lor, 1) := by decide +kernel
theorem dL_law_149 : decode cL_law 149 = .ok (.aload_n 0, 1) := by decide +kernel
theorem dL_law_150 : decode cL_law 150 = .ok (.iload_n 3, 1) := by decide +kernel
theorem dL_law_151 : decode cL_law 151 = .ok (.iconst 3, 1) := by decide +kernel
theorem dL_law_152 : decode cL_law 152 = .ok (.iadd, 1) := by decide +kernel
theorem dL_law_153 : decode cL_law 153 = .ok (.iaload, 1) := by decide +kernel
theorem dL_law_154 : decode cL_law 154 = .ok (.invokevirtual 15, 3) := by decide +kernel
theorem dL_law_157 : decode cL_law 157 = .ok (.aload_n 2, 1) := by decide +kernel
theorem dL_law_158 : decode cL_law 158 = .ok (.aload_n 0, 1) := by decide +kernel
theorem dL_law_159 : decode cL_law 159 = .ok (.iload_n 3, 1) := by decide +kernel
theorem dL_law_160 : decode cL_law 160 = .ok (.iconst 1, 1) := by decide +kernel
theorem dL_law_161 : decode cL_law 161 = .ok (.iadd, 1) := by decide +kernel
theorem dL_law_162 : decode cL_law 162 = .ok (.iaload, 1) := by decide +kernel
theorem dL_law_163 : decode cL_law 163 = .ok (.i2l, 1) := by decide +kernel
theorem dL_law_164 : decode cL_law 164 = .ok (.bipush 32, 2) := by decide +kernel
theorem dL_law_166 : decode cL_law 166 = .ok (.lshl, 1) := by decide +kernel
theorem dL_law_167 : decode cL_law 167 = .ok (.aload_n 0, 1) := by decide +kernel
theorem dL_law_168 : decode cL_law 168 = .ok (.iload_n 3, 1) := by decide +kernel
theorem dL_law_169 : decode cL_law 169 = .ok (.iconst 2, 1) := by decide +kernel
theorem dL_law_170 : decode cL_law 170 = .ok (.iadd, 1) := by decide +kernel
theorem dL_law_171 : decode cL_law 171 = .ok (.iaload, 1) := by decide +kernel
theorem dL_law_172 : decode cL_law 172 = .ok (.i2l, 1) := by decide +kernel
theorem dL_law_173 : decode cL_law 173 = .ok (.ldc2_w 13, 3) := by decide +kernel
theorem dL_law_176 : decode cL_law 176 = .ok (.land, 1) := by decide +kernel
theorem dL_law_177 : decode cL_law 177 = .ok (.lor, 1) := by decide +kernel
theorem dL_law_178 : decode cL_law 178 = .ok (.aload_n 0, 1) := by decide +kernel
theorem dL_law_179 : decode cL_law 179 = .ok (.iload_n 3, 1) := by decide +kernel
theorem dL_law_180 : decode cL_law 180 = .ok (.iconst 3, 1) := by decide +kernel
theorem dL_law_181 : decode cL_law 181 = .ok (.iadd, 1) := by decide +kernel
theorem dL_law_182 : decode cL_law 182 = .ok (.iaload, 1) := by decide +kernel
theorem dL_law_183 : decode cL_law 183 = .ok (.invokevirtual 19, 3) := by decide +kernel
theorem dL_law_186 : decode cL_law 186 = .ok (.if_icmp .eq 592, 3) := by decide +kernel
theorem dL_law_189 : decode cL_law 189 = .ok (.iconst 0, 1) := by decide +kernel
theorem dL_law_190 : decode cL_law 190 = .ok (.ireturn, 1) := by decide +kernel
theorem dL_law_191 : decode cL_law 191 = .ok (.aload_n 1, 1) := by decide +kernel
theorem dL_law_192 : decode cL_law 192 = .ok (.invokevirtual 20, 3) := by decide +kernel
theorem dL_law_195 : decode cL_law 195 = .ok (.aload_n 2, 1) := by decide +kernel
theorem dL_law_196 : decode cL_law 196 = .ok (.invokevirtual 24, 3) := by decide +kernel
theorem dL_law_199 : decode cL_law 199 = .ok (.if_icmp .eq 579, 3) := by decide +kernel
theorem dL_law_202 : decode cL_law 202 = .ok (.iconst 0, 1) := by decide +kernel
theorem dL_law_203 : decode cL_law 203 = .ok (.ireturn, 1) := by decide +kernel
theorem dL_law_204 : decode cL_law 204 = .ok (.aload_n 1, 1) := by decide +kernel
theorem dL_law_205 : decode cL_law 205 = .ok (.invokevirtual 25, 3) := by decide +kernel
theorem dL_law_208 : decode cL_law 208 = .ok (.aload_n 2, 1) := by decide +kernel
theorem dL_law_209 : decode cL_law 209 = .ok (.invokevirtual 28, 3) := by decide +kernel
theorem dL_law_212 : decode cL_law 212 = .ok (.if_icmp .eq 566, 3) := by decide +kernel
theorem dL_law_215 : decode cL_law 215 = .ok (.iconst 0, 1) := by decide +kernel
theorem dL_law_216 : decode cL_law 216 = .ok (.ireturn, 1) := by decide +kernel
theorem dL_law_217 : decode cL_law 217 = .ok (.aload_n 1, 1) := by decide +kernel
theorem dL_law_218 : decode cL_law 218 = .ok (.invokevirtual 29, 3) := by decide +kernel
theorem dL_law_221 : decode cL_law 221 = .ok (.aload_n 2, 1) := by decide +kernel
theorem dL_law_222 : decode cL_law 222 = .ok (.invokevirtual 32, 3) := by decide +kernel
theorem dL_law_225 : decode cL_law 225 = .ok (.if_icmp .eq 553, 3) := by decide +kernel
theorem dL_law_228 : decode cL_law 228 = .ok (.iconst 0, 1) := by decide +kernel
theorem dL_law_229 : decode cL_law 229 = .ok (.ireturn, 1) := by decide +kernel
theorem dL_law_230 : decode cL_law 230 = .ok (.aload_n 1, 1) := by decide +kernel
theorem dL_law_231 : decode cL_law 231 = .ok (.aload_n 0, 1) := by decide +kernel
theorem dL_law_232 : decode cL_law 232 = .ok (.iload_n 3, 1) := by decide +kernel
theorem dL_law_233 : decode cL_law 233 = .ok (.iconst 1, 1) := by decide +kernel
theorem dL_law_234 : decode cL_law 234 = .ok (.iadd, 1) := by decide +kernel
theorem dL_law_235 : decode cL_law 235 = .ok (.iaload, 1) := by decide +kernel
theorem dL_law_236 : decode cL_law 236 = .ok (.aload_n 0, 1) := by decide +kernel
theorem dL_law_237 : decode cL_law 237 = .ok (.iload_n 3, 1) := by decide +kernel
theorem dL_law_238 : decode cL_law 238 = .ok (.iconst 2, 1) := by decide +kernel
theorem dL_law_239 : decode cL_law 239 = .ok (.iadd, 1) := by decide +kernel
theorem dL_law_240 : decode cL_law 240 = .ok (.iaload, 1) := by decide +kernel
theorem dL_law_241 : decode cL_law 241 = .ok (.invokevirtual 33, 3) := by decide +kernel
theorem dL_law_244 : decode cL_law 244 = .ok (.aload_n 2, 1) := by decide +kernel
theorem dL_law_245 : decode cL_law 245 = .ok (.aload_n 0, 1) := by decide +kernel
theorem dL_law_246 : decode cL_law 246 = .ok (.iload_n 3, 1) := by decide +kernel
theorem dL_law_247 : decode cL_law 247 = .ok (.iconst 1, 1) := by decide +kernel
theorem dL_law_248 : decode cL_law 248 = .ok (.iadd, 1) := by decide +kernel
theorem dL_law_249 : decode cL_law 249 = .ok (.iaload, 1) := by decide +kernel
theorem dL_law_250 : decode cL_law 250 = .ok (.aload_n 0, 1) := by decide +kernel
theorem dL_law_251 : decode cL_law 251 = .ok (.iload_n 3, 1) := by decide +kernel
theorem dL_law_252 : decode cL_law 252 = .ok (.iconst 2, 1) := by decide +kernel
theorem dL_law_253 : decode cL_law 253 = .ok (.iadd, 1) := by decide +kernel
theorem dL_law_254 : decode cL_law 254 = .ok (.iaload, 1) := by decide +kernel
theorem dL_law_255 : decode cL_law 255 = .ok (.invokevirtual 37, 3) := by decide +kernel
theorem dL_law_258 : decode cL_law 258 = .ok (.if_icmp .eq 520, 3) := by decide +kernel
theorem dL_law_261 : decode cL_law 261 = .ok (.iconst 0, 1) := by decide +kernel
theorem dL_law_262 : decode cL_law 262 = .ok (.ireturn, 1) := by decide +kernel
theorem dL_law_263 : decode cL_law 263 = .ok (.aload_n 1, 1) := by decide +kernel
theorem dL_law_264 : decode cL_law 264 = .ok (.aload_n 0, 1) := by decide +kernel
theorem dL_law_265 : decode cL_law 265 = .ok (.iload_n 3, 1) := by decide +kernel
theorem dL_law_266 : decode cL_law 266 = .ok (.iconst 1, 1) := by decide +kernel
theorem dL_law_267 : decode cL_law 267 = .ok (.iadd, 1) := by decide +kernel
theorem dL_law_268 : decode cL_law 268 = .ok (.iaload, 1) := by decide +kernel
theorem dL_law_269 : decode cL_law 269 = .ok (.aload_n 0, 1) := by decide +kernel
theorem dL_law_270 : decode cL_law 270 = .ok (.iload_n 3, 1) := by decide +kernel
theorem dL_law_271 : decode cL_law 271 = .ok (.iconst 2, 1) := by decide +kernel
theorem dL_law_272 : decode cL_law 272 = .ok (.iadd, 1) := by decide +kernel
theorem dL_law_273 : decode cL_law 273 = .ok (.iaload, 1) := by decide +kernel
theorem dL_law_274 : decode cL_law 274 = .ok (.invokevirtual 38, 3) := by decide +kernel
theorem dL_law_277 : decode cL_law 277 = .ok (.aload_n 2, 1) := by decide +kernel
theorem dL_law_278 : decode cL_law 278 = .ok (.aload_n 0, 1) := by decide +kernel
theorem dL_law_279 : decode cL_law 279 = .ok (.iload_n 3, 1) := by decide +kernel
theorem dL_law_280 : decode cL_law 280 = .ok (.iconst 1, 1) := by decide +kernel
theorem dL_law_281 : decode cL_law 281 = .ok (.iadd, 1) := by decide +kernel
theorem dL_law_282 : decode cL_law 282 = .ok (.iaload, 1) := by decide +kernel
theorem dL_law_283 : decode cL_law 283 = .ok (.aload_n 0, 1) := by decide +kernel
theorem dL_law_284 : decode cL_law 284 = .ok (.iload_n 3, 1) := by decide +kernel
theorem dL_law_285 : decode cL_law 285 = .ok (.iconst 2, 1) := by decide +kernel
theorem dL_law_286 : decode cL_law 286 = .ok (.iadd, 1) := by decide +kernel
theorem dL_law_287 : decode cL_law 287 = .ok (.iaload, 1) := by decide +kernel
theorem dL_law_288 : decode cL_law 288 = .ok (.invokevirtual 41, 3) := by decide +kernel
theorem dL_law_291 : decode cL_law 291 = .ok (.if_icmp .eq 487, 3) := by decide +kernel
theorem dL_law_294 : decode cL_law 294 = .ok (.iconst 0, 1) := by decide +kernel
theorem dL_law_295 : decode cL_law 295 = .ok (.ireturn, 1) := by decide +kernel
theorem dL_law_296 : decode cL_law 296 = .ok (.aload_n 1, 1) := by decide +kernel
theorem dL_law_297 : decode cL_law 297 = .ok (.aload_n 0, 1) := by decide +kernel
theorem dL_law_298 : decode cL_law 298 = .ok (.iload_n 3, 1) := by decide +kernel
theorem dL_law_299 : decode cL_law 299 = .ok (.iconst 1, 1) := by decide +kernel
theorem dL_law_300 : decode cL_law 300 = .ok (.iadd, 1) := by decide +kernel
theorem dL_law_301 : decode cL_law 301 = .ok (.iaload, 1) := by decide +kernel
theorem dL_law_302 : decode cL_law 302 = .ok (.invokevirtual 42, 3) := by decide +kernel
theorem dL_law_305 : decode cL_law 305 = .ok (.aload_n 2, 1) := by decide +kernel
theorem dL_law_306 : decode cL_law 306 = .ok (.aload_n 0, 1) := by decide +kernel
theorem dL_law_307 : decode cL_law 307 = .ok (.iload_n 3, 1) := by decide +kernel
theorem dL_law_308 : decode cL_law 308 = .ok (.iconst 1, 1) := by decide +kernel
theorem dL_law_309 : decode cL_law 309 = .ok (.iadd, 1) := by decide +kernel
theorem dL_law_310 : decode cL_law 310 = .ok (.iaload, 1) := by decide +kernel
theorem dL_law_311 : decode cL_law 311 = .ok (.invokevirtual 46, 3) := by decide +kernel
theorem dL_law_314 : decode cL_law 314 = .ok (.if_icmp .eq 464, 3) := by decide +kernel
theorem dL_law_317 : decode cL_law 317 = .ok (.iconst 0, 1) := by decide +kernel
theorem dL_law_318 : decode cL_law 318 = .ok (.ireturn, 1) := by decide +kernel
theorem dL_law_319 : decode cL_law 319 = .ok (.aload_n 1, 1) := by decide +kernel
theorem dL_law_320 : decode cL_law 320 = .ok (.aload_n 0, 1) := by decide +kernel
theorem dL_law_321 : decode cL_law 321 = .ok (.iload_n 3, 1) := by decide +kernel
theorem dL_law_322 : decode cL_law 322 = .ok (.iconst 1, 1) := by decide +kernel
theorem dL_law_323 : decode cL_law 323 = .ok (.iadd, 1) := by decide +kernel
theorem dL_law_324 : decode cL_law 324 = .ok (.iaload, 1) := by decide +kernel
theorem dL_law_325 : decode cL_law 325 = .ok (.aload_n 0, 1) := by decide +kernel
theorem dL_law_326 : decode cL_law 326 = .ok (.iload_n 3, 1) := by decide +kernel
theorem dL_law_327 : decode cL_law 327 = .ok (.iconst 2, 1) := by decide +kernel
theorem dL_law_328 : decode cL_law 328 = .ok (.iadd, 1) := by decide +kernel
theorem dL_law_329 : decode cL_law 329 = .ok (.iaload, 1) := by decide +kernel
theorem dL_law_330 : decode cL_law 330 = .ok (.aload_n 0, 1) := by decide +kernel
theorem dL_law_331 : decode cL_law 331 = .ok (.iload_n 3, 1) := by decide +kernel
theorem dL_law_332 : decode cL_law 332 = .ok (.iconst 3, 1) := by decide +kernel
theorem dL_law_333 : decode cL_law 333 = .ok (.iadd, 1) := by decide +kernel
theorem dL_law_334 : decode cL_law 334 = .ok (.iaload, 1) := by decide +kernel
theorem dL_law_335 : decode cL_law 335 = .ok (.invokevirtual 47, 3) := by decide +kernel
theorem dL_law_338 : decode cL_law 338 = .ok (.aload_n 2, 1) := by decide +kernel
theorem dL_law_339 : decode cL_law 339 = .ok (.aload_n 0, 1) := by decide +kernel
theorem dL_law_340 : decode cL_law 340 = .ok (.iload_n 3, 1) := by decide +kernel
theorem dL_law_341 : decode cL_law 341 = .ok (.iconst 1, 1) := by decide +kernel
theorem dL_law_342 : decode cL_law 342 = .ok (.iadd, 1) := by decide +kernel
theorem dL_law_343 : decode cL_law 343 = .ok (.iaload, 1) := by decide +kernel
theorem dL_law_344 : decode cL_law 344 = .ok (.aload_n 0, 1) := by decide +kernel
theorem dL_law_345 : decode cL_law 345 = .ok (.iload_n 3, 1) := by decide +kernel
theorem dL_law_346 : decode cL_law 346 = .ok (.iconst 2, 1) := by decide +kernel
theorem dL_law_347 : decode cL_law 347 = .ok (.iadd, 1) := by decide +kernel
theorem dL_law_348 : decode cL_law 348 = .ok (.iaload, 1) := by decide +kernel
theorem dL_law_349 : decode cL_law 349 = .ok (.aload_n 0, 1) := by decide +kernel
theorem dL_law_350 : decode cL_law 350 = .ok (.iload_n 3, 1) := by decide +kernel
theorem dL_law_351 : decode cL_law 351 = .ok (.iconst 3, 1) := by decide +kernel
theorem dL_law_352 : decode cL_law 352 = .ok (.iadd, 1) := by decide +kernel
theorem dL_law_353 : decode cL_law 353 = .ok (.iaload, 1) := by decide +kernel
theorem dL_law_354 : decode cL_law 354 = .ok (.invokevirtual 51, 3) := by decide +kernel
theorem dL_law_357 : decode cL_law 357 = .ok (.if_icmp .eq 421, 3) := by decide +kernel
theorem dL_law_360 : decode cL_law 360 = .ok (.iconst 0, 1) := by decide +kernel
theorem dL_law_361 : decode cL_law 361 = .ok (.ireturn, 1) := by decide +kernel
theorem dL_law_362 : decode cL_law 362 = .ok (.aload_n 1, 1) := by decide +kernel
theorem dL_law_363 : decode cL_law 363 = .ok (.aload_n 0, 1) := by decide +kernel
theorem dL_law_364 : decode cL_law 364 = .ok (.iload_n 3, 1) := by decide +kernel
theorem dL_law_365 : decode cL_law 365 = .ok (.iconst 1, 1) := by decide +kernel
theorem dL_law_366 : decode cL_law 366 = .ok (.iadd, 1) := by decide +kernel
theorem dL_law_367 : decode cL_law 367 = .ok (.iaload, 1) := by decide +kernel
theorem dL_law_368 : decode cL_law 368 = .ok (.invokevirtual 52, 3) := by decide +kernel
theorem dL_law_371 : decode cL_law 371 = .ok (.aload_n 2, 1) := by decide +kernel
theorem dL_law_372 : decode cL_law 372 = .ok (.aload_n 0, 1) := by decide +kernel
theorem dL_law_373 : decode cL_law 373 = .ok (.iload_n 3, 1) := by decide +kernel
theorem dL_law_374 : decode cL_law 374 = .ok (.iconst 1, 1) := by decide +kernel
theorem dL_law_375 : decode cL_law 375 = .ok (.iadd, 1) := by decide +kernel
theorem dL_law_376 : decode cL_law 376 = .ok (.iaload, 1) := by decide +kernel
theorem dL_law_377 : decode cL_law 377 = .ok (.invokevirtual 55, 3) := by decide +kernel
theorem dL_law_380 : decode cL_law 380 = .ok (.if_icmp .eq 398, 3) := by decide +kernel
theorem dL_law_383 : decode cL_law 383 = .ok (.iconst 0, 1) := by decide +kernel
theorem dL_law_384 : decode cL_law 384 = .ok (.ireturn, 1) := by decide +kernel
theorem dL_law_385 : decode cL_law 385 = .ok (.aload_n 1, 1) := by decide +kernel
theorem dL_law_386 : decode cL_law 386 = .ok (.aload_n 0, 1) := by decide +kernel
theorem dL_law_387 : decode cL_law 387 = .ok (.iload_n 3, 1) := by decide +kernel
theorem dL_law_388 : decode cL_law 388 = .ok (.iconst 1, 1) := by decide +kernel
theorem dL_law_389 : decode cL_law 389 = .ok (.iadd, 1) := by decide +kernel
theorem dL_law_390 : decode cL_law 390 = .ok (.iaload, 1) := by decide +kernel
theorem dL_law_391 : decode cL_law 391 = .ok (.aload_n 0, 1) := by decide +kernel
theorem dL_law_392 : decode cL_law 392 = .ok (.iload_n 3, 1) := by decide +kernel
theorem dL_law_393 : decode cL_law 393 = .ok (.iconst 2, 1) := by decide +kernel
theorem dL_law_394 : decode cL_law 394 = .ok (.iadd, 1) := by decide +kernel
theorem dL_law_395 : decode cL_law 395 = .ok (.iaload, 1) := by decide +kernel
theorem dL_law_396 : decode cL_law 396 = .ok (.invokevirtual 56, 3) := by decide +kernel
theorem dL_law_399 : decode cL_law 399 = .ok (.aload_n 2, 1) := by decide +kernel
theorem dL_law_400 : decode cL_law 400 = .ok (.aload_n 0, 1) := by decide +kernel
theorem dL_law_401 : decode cL_law 401 = .ok (.iload_n 3, 1) := by decide +kernel
theorem dL_law_402 : decode cL_law 402 = .ok (.iconst 1, 1) := by decide +kernel
theorem dL_law_403 : decode cL_law 403 = .ok (.iadd, 1) := by decide +kernel
theorem dL_law_404 : decode cL_law 404 = .ok (.iaload, 1) := by decide +kernel
theorem dL_law_405 : decode cL_law 405 = .ok (.aload_n 0, 1) := by decide +kernel
theorem dL_law_406 : decode cL_law 406 = .ok (.iload_n 3, 1) := by decide +kernel
theorem dL_law_407 : decode cL_law 407 = .ok (.iconst 2, 1) := by decide +kernel
theorem dL_law_408 : decode cL_law 408 = .ok (.iadd, 1) := by decide +kernel
theorem dL_law_409 : decode cL_law 409 = .ok (.iaload, 1) := by decide +kernel
theorem dL_law_410 : decode cL_law 410 = .ok (.invokevirtual 59, 3) := by decide +kernel
theorem dL_law_413 : decode cL_law 413 = .ok (.if_icmp .eq 365, 3) := by decide +kernel
theorem dL_law_416 : decode cL_law 416 = .ok (.iconst 0, 1) := by decide +kernel
theorem dL_law_417 : decode cL_law 417 = .ok (.ireturn, 1) := by decide +kernel
theorem dL_law_418 : decode cL_law 418 = .ok (.aload_n 1, 1) := by decide +kernel
theorem dL_law_419 : decode cL_law 419 = .ok (.aload_n 0, 1) := by decide +kernel
theorem dL_law_420 : decode cL_law 420 = .ok (.iload_n 3, 1) := by decide +kernel
theorem dL_law_421 : decode cL_law 421 = .ok (.iconst 1, 1) := by decide +kernel
theorem dL_law_422 : decode cL_law 422 = .ok (.iadd, 1) := by decide +kernel
theorem dL_law_423 : decode cL_law 423 = .ok (.iaload, 1) := by decide +kernel
theorem dL_law_424 : decode cL_law 424 = .ok (.invokevirtual 60, 3) := by decide +kernel
theorem dL_law_427 : decode cL_law 427 = .ok (.aload_n 2, 1) := by decide +kernel
theorem dL_law_428 : decode cL_law 428 = .ok (.aload_n 0, 1) := by decide +kernel
theorem dL_law_429 : decode cL_law 429 = .ok (.iload_n 3, 1) := by decide +kernel
theorem dL_law_430 : decode cL_law 430 = .ok (.iconst 1, 1) := by decide +kernel
theorem dL_law_431 : decode cL_law 431 = .ok (.iadd, 1) := by decide +kernel
theorem dL_law_432 : decode cL_law 432 = .ok (.iaload, 1) := by decide +kernel
theorem dL_law_433 : decode cL_law 433 = .ok (.invokevirtual 63, 3) := by decide +kernel
theorem dL_law_436 : decode cL_law 436 = .ok (.if_icmp .eq 342, 3) := by decide +kernel
theorem dL_law_439 : decode cL_law 439 = .ok (.iconst 0, 1) := by decide +kernel
theorem dL_law_440 : decode cL_law 440 = .ok (.ireturn, 1) := by decide +kernel
theorem dL_law_441 : decode cL_law 441 = .ok (.aload_n 1, 1) := by decide +kernel
theorem dL_law_442 : decode cL_law 442 = .ok (.aload_n 0, 1) := by decide +kernel
theorem dL_law_443 : decode cL_law 443 = .ok (.iload_n 3, 1) := by decide +kernel
theorem dL_law_444 : decode cL_law 444 = .ok (.iconst 1, 1) := by decide +kernel
theorem dL_law_445 : decode cL_law 445 = .ok (.iadd, 1) := by decide +kernel
theorem dL_law_446 : decode cL_law 446 = .ok (.iaload, 1) := by decide +kernel
theorem dL_law_447 : decode cL_law 447 = .ok (.invokevirtual 64, 3) := by decide +kernel
theorem dL_law_450 : decode cL_law 450 = .ok (.aload_n 2, 1) := by decide +kernel
theorem dL_law_451 : decode cL_law 451 = .ok (.aload_n 0, 1) := by decide +kernel
theorem dL_law_452 : decode cL_law 452 = .ok (.iload_n 3, 1) := by decide +kernel
theorem dL_law_453 : decode cL_law 453 = .ok (.iconst 1, 1) := by decide +kernel
theorem dL_law_454 : decode cL_law 454 = .ok (.iadd, 1) := by decide +kernel
theorem dL_law_455 : decode cL_law 455 = .ok (.iaload, 1) := by decide +kernel
theorem dL_law_456 : decode cL_law 456 = .ok (.invokevirtual 67, 3) := by decide +kernel
theorem dL_law_459 : decode cL_law 459 = .ok (.if_icmp .eq 319, 3) := by decide +kernel
theorem dL_law_462 : decode cL_law 462 = .ok (.iconst 0, 1) := by decide +kernel
theorem dL_law_463 : decode cL_law 463 = .ok (.ireturn, 1) := by decide +kernel
theorem dL_law_464 : decode cL_law 464 = .ok (.aload_n 1, 1) := by decide +kernel
theorem dL_law_465 : decode cL_law 465 = .ok (.aload_n 0, 1) := by decide +kernel
theorem dL_law_466 : decode cL_law 466 = .ok (.iload_n 3, 1) := by decide +kernel
theorem dL_law_467 : decode cL_law 467 = .ok (.iconst 1, 1) := by decide +kernel
theorem dL_law_468 : decode cL_law 468 = .ok (.iadd, 1) := by decide +kernel
theorem dL_law_469 : decode cL_law 469 = .ok (.iaload, 1) := by decide +kernel
theorem dL_law_470 : decode cL_law 470 = .ok (.aload_n 0, 1) := by decide +kernel
theorem dL_law_471 : decode cL_law 471 = .ok (.iload_n 3, 1) := by decide +kernel
theorem dL_law_472 : decode cL_law 472 = .ok (.iconst 2, 1) := by decide +kernel
theorem dL_law_473 : decode cL_law 473 = .ok (.iadd, 1) := by decide +kernel
theorem dL_law_474 : decode cL_law 474 = .ok (.iaload, 1) := by decide +kernel
theorem dL_law_475 : decode cL_law 475 = .ok (.aload_n 0, 1) := by decide +kernel
theorem dL_law_476 : decode cL_law 476 = .ok (.iload_n 3, 1) := by decide +kernel
theorem dL_law_477 : decode cL_law 477 = .ok (.iconst 3, 1) := by decide +kernel
theorem dL_law_478 : decode cL_law 478 = .ok (.iadd, 1) := by decide +kernel
theorem dL_law_479 : decode cL_law 479 = .ok (.iaload, 1) := by decide +kernel
theorem dL_law_480 : decode cL_law 480 = .ok (.aload_n 0, 1) := by decide +kernel
theorem dL_law_481 : decode cL_law 481 = .ok (.iload_n 3, 1) := by decide +kernel
theorem dL_law_482 : decode cL_law 482 = .ok (.iconst 4, 1) := by decide +kernel
theorem dL_law_483 : decode cL_law 483 = .ok (.iadd, 1) := by decide +kernel
theorem dL_law_484 : decode cL_law 484 = .ok (.iaload, 1) := by decide +kernel
theorem dL_law_485 : decode cL_law 485 = .ok (.invokevirtual 68, 3) := by decide +kernel
theorem dL_law_488 : decode cL_law 488 = .ok (.aload_n 2, 1) := by decide +kernel
theorem dL_law_489 : decode cL_law 489 = .ok (.aload_n 0, 1) := by decide +kernel
theorem dL_law_490 : decode cL_law 490 = .ok (.iload_n 3, 1) := by decide +kernel
theorem dL_law_491 : decode cL_law 491 = .ok (.iconst 1, 1) := by decide +kernel
theorem dL_law_492 : decode cL_law 492 = .ok (.iadd, 1) := by decide +kernel
theorem dL_law_493 : decode cL_law 493 = .ok (.iaload, 1) := by decide +kernel
theorem dL_law_494 : decode cL_law 494 = .ok (.aload_n 0, 1) := by decide +kernel
theorem dL_law_495 : decode cL_law 495 = .ok (.iload_n 3, 1) := by decide +kernel
theorem dL_law_496 : decode cL_law 496 = .ok (.iconst 2, 1) := by decide +kernel
theorem dL_law_497 : decode cL_law 497 = .ok (.iadd, 1) := by decide +kernel
theorem dL_law_498 : decode cL_law 498 = .ok (.iaload, 1) := by decide +kernel
theorem dL_law_499 : decode cL_law 499 = .ok (.aload_n 0, 1) := by decide +kernel
theorem dL_law_500 : decode cL_law 500 = .ok (.iload_n 3, 1) := by decide +kernel
theorem dL_law_501 : decode cL_law 501 = .ok (.iconst 3, 1) := by decide +kernel
theorem dL_law_502 : decode cL_law 502 = .ok (.iadd, 1) := by decide +kernel
theorem dL_law_503 : decode cL_law 503 = .ok (.iaload, 1) := by decide +kernel
theorem dL_law_504 : decode cL_law 504 = .ok (.aload_n 0, 1) := by decide +kernel
theorem dL_law_505 : decode cL_law 505 = .ok (.iload_n 3, 1) := by decide +kernel
theorem dL_law_506 : decode cL_law 506 = .ok (.iconst 4, 1) := by decide +kernel
theorem dL_law_507 : decode cL_law 507 = .ok (.iadd, 1) := by decide +kernel
theorem dL_law_508 : decode cL_law 508 = .ok (.iaload, 1) := by decide +kernel
theorem dL_law_509 : decode cL_law 509 = .ok (.invokevirtual 72, 3) := by decide +kernel
theorem dL_law_512 : decode cL_law 512 = .ok (.if_icmp .eq 266, 3) := by decide +kernel
theorem dL_law_515 : decode cL_law 515 = .ok (.iconst 0, 1) := by decide +kernel
theorem dL_law_516 : decode cL_law 516 = .ok (.ireturn, 1) := by decide +kernel
theorem dL_law_517 : decode cL_law 517 = .ok (.aload_n 1, 1) := by decide +kernel
theorem dL_law_518 : decode cL_law 518 = .ok (.aload_n 0, 1) := by decide +kernel
theorem dL_law_519 : decode cL_law 519 = .ok (.iload_n 3, 1) := by decide +kernel
theorem dL_law_520 : decode cL_law 520 = .ok (.iconst 1, 1) := by decide +kernel
theorem dL_law_521 : decode cL_law 521 = .ok (.iadd, 1) := by decide +kernel
theorem dL_law_522 : decode cL_law 522 = .ok (.iaload, 1) := by decide +kernel
theorem dL_law_523 : decode cL_law 523 = .ok (.aload_n 0, 1) := by decide +kernel
theorem dL_law_524 : decode cL_law 524 = .ok (.iload_n 3, 1) := by decide +kernel
theorem dL_law_525 : decode cL_law 525 = .ok (.iconst 2, 1) := by decide +kernel
theorem dL_law_526 : decode cL_law 526 = .ok (.iadd, 1) := by decide +kernel
theorem dL_law_527 : decode cL_law 527 = .ok (.iaload, 1) := by decide +kernel
theorem dL_law_528 : decode cL_law 528 = .ok (.invokevirtual 73, 3) := by decide +kernel
theorem dL_law_531 : decode cL_law 531 = .ok (.aload_n 2, 1) := by decide +kernel
theorem dL_law_532 : decode cL_law 532 = .ok (.aload_n 0, 1) := by decide +kernel
theorem dL_law_533 : decode cL_law 533 = .ok (.iload_n 3, 1) := by decide +kernel
theorem dL_law_534 : decode cL_law 534 = .ok (.iconst 1, 1) := by decide +kernel
theorem dL_law_535 : decode cL_law 535 = .ok (.iadd, 1) := by decide +kernel
theorem dL_law_536 : decode cL_law 536 = .ok (.iaload, 1) := by decide +kernel
theorem dL_law_537 : decode cL_law 537 = .ok (.aload_n 0, 1) := by decide +kernel
theorem dL_law_538 : decode cL_law 538 = .ok (.iload_n 3, 1) := by decide +kernel
theorem dL_law_539 : decode cL_law 539 = .ok (.iconst 2, 1) := by decide +kernel
theorem dL_law_540 : decode cL_law 540 = .ok (.iadd, 1) := by decide +kernel
theorem dL_law_541 : decode cL_law 541 = .ok (.iaload, 1) := by decide +kernel
theorem dL_law_542 : decode cL_law 542 = .ok (.invokevirtual 76, 3) := by decide +kernel
theorem dL_law_545 : decode cL_law 545 = .ok (.if_icmp .eq 233, 3) := by decide +kernel
theorem dL_law_548 : decode cL_law 548 = .ok (.iconst 0, 1) := by decide +kernel
theorem dL_law_549 : decode cL_law 549 = .ok (.ireturn, 1) := by decide +kernel
theorem dL_law_550 : decode cL_law 550 = .ok (.aload_n 1, 1) := by decide +kernel
theorem dL_law_551 : decode cL_law 551 = .ok (.aload_n 0, 1) := by decide +kernel
theorem dL_law_552 : decode cL_law 552 = .ok (.iload_n 3, 1) := by decide +kernel
theorem dL_law_553 : decode cL_law 553 = .ok (.iconst 1, 1) := by decide +kernel
theorem dL_law_554 : decode cL_law 554 = .ok (.iadd, 1) := by decide +kernel
theorem dL_law_555 : decode cL_law 555 = .ok (.iaload, 1) := by decide +kernel
theorem dL_law_556 : decode cL_law 556 = .ok (.aload_n 0, 1) := by decide +kernel
theorem dL_law_557 : decode cL_law 557 = .ok (.iload_n 3, 1) := by decide +kernel
theorem dL_law_558 : decode cL_law 558 = .ok (.iconst 2, 1) := by decide +kernel
theorem dL_law_559 : decode cL_law 559 = .ok (.iadd, 1) := by decide +kernel
theorem dL_law_560 : decode cL_law 560 = .ok (.iaload, 1) := by decide +kernel
theorem dL_law_561 : decode cL_law 561 = .ok (.aload_n 0, 1) := by decide +kernel
theorem dL_law_562 : decode cL_law 562 = .ok (.iload_n 3, 1) := by decide +kernel
theorem dL_law_563 : decode cL_law 563 = .ok (.iconst 3, 1) := by decide +kernel
theorem dL_law_564 : decode cL_law 564 = .ok (.iadd, 1) := by decide +kernel
theorem dL_law_565 : decode cL_law 565 = .ok (.iaload, 1) := by decide +kernel
theorem dL_law_566 : decode cL_law 566 = .ok (.invokevirtual 77, 3) := by decide +kernel
theorem dL_law_569 : decode cL_law 569 = .ok (.aload_n 2, 1) := by decide +kernel
theorem dL_law_570 : decode cL_law 570 = .ok (.aload_n 0, 1) := by decide +kernel
theorem dL_law_571 : decode cL_law 571 = .ok (.iload_n 3, 1) := by decide +kernel
theorem dL_law_572 : decode cL_law 572 = .ok (.iconst 1, 1) := by decide +kernel
theorem dL_law_573 : decode cL_law 573 = .ok (.iadd, 1) := by decide +kernel
theorem dL_law_574 : decode cL_law 574 = .ok (.iaload, 1) := by decide +kernel
theorem dL_law_575 : decode cL_law 575 = .ok (.aload_n 0, 1) := by decide +kernel
theorem dL_law_576 : decode cL_law 576 = .ok (.iload_n 3, 1) := by decide +kernel
theorem dL_law_577 : decode cL_law 577 = .ok (.iconst 2, 1) := by decide +kernel
theorem dL_law_578 : decode cL_law 578 = .ok (.iadd, 1) := by decide +kernel
theorem dL_law_579 : decode cL_law 579 = .ok (.iaload, 1) := by decide +kernel
theorem dL_law_580 : decode cL_law 580 = .ok (.aload_n 0, 1) := by decide +kernel
theorem dL_law_581 : decode cL_law 581 = .ok (.iload_n 3, 1) := by decide +kernel
theorem dL_law_582 : decode cL_law 582 = .ok (.iconst 3, 1) := by decide +kernel
theorem dL_law_583 : decode cL_law 583 = .ok (.iadd, 1) := by decide +kernel
theorem dL_law_584 : decode cL_law 584 = .ok (.iaload, 1) := by decide +kernel
theorem dL_law_585 : decode cL_law 585 = .ok (.invokevirtual 80, 3) := by decide +kernel
theorem dL_law_588 : decode cL_law 588 = .ok (.if_icmp .eq 190, 3) := by decide +kernel
theorem dL_law_591 : decode cL_law 591 = .ok (.iconst 0, 1) := by decide +kernel
theorem dL_law_592 : decode cL_law 592 = .ok (.ireturn, 1) := by decide +kernel
theorem dL_law_593 : decode cL_law 593 = .ok (.aload_n 1, 1) := by decide +kernel
theorem dL_law_594 : decode cL_law 594 = .ok (.aload_n 0, 1) := by decide +kernel
theorem dL_law_595 : decode cL_law 595 = .ok (.iload_n 3, 1) := by decide +kernel
theorem dL_law_596 : decode cL_law 596 = .ok (.iconst 1, 1) := by decide +kernel
theorem dL_law_597 : decode cL_law 597 = .ok (.iadd, 1) := by decide +kernel
theorem dL_law_598 : decode cL_law 598 = .ok (.iaload, 1) := by decide +kernel
theorem dL_law_599 : decode cL_law 599 = .ok (.aload_n 0, 1) := by decide +kernel
theorem dL_law_600 : decode cL_law 600 = .ok (.iload_n 3, 1) := by decide +kernel
theorem dL_law_601 : decode cL_law 601 = .ok (.iconst 2, 1) := by decide +kernel
theorem dL_law_602 : decode cL_law 602 = .ok (.iadd, 1) := by decide +kernel
theorem dL_law_603 : decode cL_law 603 = .ok (.iaload, 1) := by decide +kernel
theorem dL_law_604 : decode cL_law 604 = .ok (.invokevirtual 81, 3) := by decide +kernel
theorem dL_law_607 : decode cL_law 607 = .ok (.aload_n 2, 1) := by decide +kernel
theorem dL_law_608 : decode cL_law 608 = .ok (.aload_n 0, 1) := by decide +kernel
theorem dL_law_609 : decode cL_law 609 = .ok (.iload_n 3, 1) := by decide +kernel
theorem dL_law_610 : decode cL_law 610 = .ok (.iconst 1, 1) := by decide +kernel
theorem dL_law_611 : decode cL_law 611 = .ok (.iadd, 1) := by decide +kernel
theorem dL_law_612 : decode cL_law 612 = .ok (.iaload, 1) := by decide +kernel
theorem dL_law_613 : decode cL_law 613 = .ok (.aload_n 0, 1) := by decide +kernel
theorem dL_law_614 : decode cL_law 614 = .ok (.iload_n 3, 1) := by decide +kernel
theorem dL_law_615 : decode cL_law 615 = .ok (.iconst 2, 1) := by decide +kernel
theorem dL_law_616 : decode cL_law 616 = .ok (.iadd, 1) := by decide +kernel
theorem dL_law_617 : decode cL_law 617 = .ok (.iaload, 1) := by decide +kernel
theorem dL_law_618 : decode cL_law 618 = .ok (.invokevirtual 84, 3) := by decide +kernel
theorem dL_law_621 : decode cL_law 621 = .ok (.if_icmp .eq 157, 3) := by decide +kernel
theorem dL_law_624 : decode cL_law 624 = .ok (.iconst 0, 1) := by decide +kernel
theorem dL_law_625 : decode cL_law 625 = .ok (.ireturn, 1) := by decide +kernel
theorem dL_law_626 : decode cL_law 626 = .ok (.aload_n 1, 1) := by decide +kernel
theorem dL_law_627 : decode cL_law 627 = .ok (.aload_n 0, 1) := by decide +kernel
theorem dL_law_628 : decode cL_law 628 = .ok (.iload_n 3, 1) := by decide +kernel
theorem dL_law_629 : decode cL_law 629 = .ok (.iconst 1, 1) := by decide +kernel
theorem dL_law_630 : decode cL_law 630 = .ok (.iadd, 1) := by decide +kernel
theorem dL_law_631 : decode cL_law 631 = .ok (.iaload, 1) := by decide +kernel
theorem dL_law_632 : decode cL_law 632 = .ok (.aload_n 0, 1) := by decide +kernel
theorem dL_law_633 : decode cL_law 633 = .ok (.iload_n 3, 1) := by decide +kernel
theorem dL_law_634 : decode cL_law 634 = .ok (.iconst 2, 1) := by decide +kernel
theorem dL_law_635 : decode cL_law 635 = .ok (.iadd, 1) := by decide +kernel
theorem dL_law_636 : decode cL_law 636 = .ok (.iaload, 1) := by decide +kernel
theorem dL_law_637 : decode cL_law 637 = .ok (.aload_n 0, 1) := by decide +kernel
theorem dL_law_638 : decode cL_law 638 = .ok (.iload_n 3, 1) := by decide +kernel
theorem dL_law_639 : decode cL_law 639 = .ok (.iconst 3, 1) := by decide +kernel
theorem dL_law_640 : decode cL_law 640 = .ok (.iadd, 1) := by decide +kernel
theorem dL_law_641 : decode cL_law 641 = .ok (.iaload, 1) := by decide +kernel
theorem dL_law_642 : decode cL_law 642 = .ok (.invokevirtual 85, 3) := by decide +kernel
theorem dL_law_645 : decode cL_law 645 = .ok (.aload_n 2, 1) := by decide +kernel
theorem dL_law_646 : decode cL_law 646 = .ok (.aload_n 0, 1) := by decide +kernel
theorem dL_law_647 : decode cL_law 647 = .ok (.iload_n 3, 1) := by decide +kernel
theorem dL_law_648 : decode cL_law 648 = .ok (.iconst 1, 1) := by decide +kernel
theorem dL_law_649 : decode cL_law 649 = .ok (.iadd, 1) := by decide +kernel
theorem dL_law_650 : decode cL_law 650 = .ok (.iaload, 1) := by decide +kernel
theorem dL_law_651 : decode cL_law 651 = .ok (.aload_n 0, 1) := by decide +kernel
theorem dL_law_652 : decode cL_law 652 = .ok (.iload_n 3, 1) := by decide +kernel
theorem dL_law_653 : decode cL_law 653 = .ok (.iconst 2, 1) := by decide +kernel
theorem dL_law_654 : decode cL_law 654 = .ok (.iadd, 1) := by decide +kernel
theorem dL_law_655 : decode cL_law 655 = .ok (.iaload, 1) := by decide +kernel
theorem dL_law_656 : decode cL_law 656 = .ok (.aload_n 0, 1) := by decide +kernel
theorem dL_law_657 : decode cL_law 657 = .ok (.iload_n 3, 1) := by decide +kernel
theorem dL_law_658 : decode cL_law 658 = .ok (.iconst 3, 1) := by decide +kernel
theorem dL_law_659 : decode cL_law 659 = .ok (.iadd, 1) := by decide +kernel
theorem dL_law_660 : decode cL_law 660 = .ok (.iaload, 1) := by decide +kernel
theorem dL_law_661 : decode cL_law 661 = .ok (.invokevirtual 88, 3) := by decide +kernel
theorem dL_law_664 : decode cL_law 664 = .ok (.if_icmp .eq 114, 3) := by decide +kernel
theorem dL_law_667 : decode cL_law 667 = .ok (.iconst 0, 1) := by decide +kernel
theorem dL_law_668 : decode cL_law 668 = .ok (.ireturn, 1) := by decide +kernel
theorem dL_law_669 : decode cL_law 669 = .ok (.aload_n 1, 1) := by decide +kernel
theorem dL_law_670 : decode cL_law 670 = .ok (.aload_n 0, 1) := by decide +kernel
theorem dL_law_671 : decode cL_law 671 = .ok (.iload_n 3, 1) := by decide +kernel
theorem dL_law_672 : decode cL_law 672 = .ok (.iconst 1, 1) := by decide +kernel
theorem dL_law_673 : decode cL_law 673 = .ok (.iadd, 1) := by decide +kernel
theorem dL_law_674 : decode cL_law 674 = .ok (.iaload, 1) := by decide +kernel
theorem dL_law_675 : decode cL_law 675 = .ok (.invokevirtual 89, 3) := by decide +kernel
theorem dL_law_678 : decode cL_law 678 = .ok (.aload_n 2, 1) := by decide +kernel
theorem dL_law_679 : decode cL_law 679 = .ok (.aload_n 0, 1) := by decide +kernel
theorem dL_law_680 : decode cL_law 680 = .ok (.iload_n 3, 1) := by decide +kernel
theorem dL_law_681 : decode cL_law 681 = .ok (.iconst 1, 1) := by decide +kernel
theorem dL_law_682 : decode cL_law 682 = .ok (.iadd, 1) := by decide +kernel
theorem dL_law_683 : decode cL_law 683 = .ok (.iaload, 1) := by decide +kernel
theorem dL_law_684 : decode cL_law 684 = .ok (.invokevirtual 92, 3) := by decide +kernel
theorem dL_law_687 : decode cL_law 687 = .ok (.if_icmp .eq 91, 3) := by decide +kernel
theorem dL_law_690 : decode cL_law 690 = .ok (.iconst 0, 1) := by decide +kernel
theorem dL_law_691 : decode cL_law 691 = .ok (.ireturn, 1) := by decide +kernel
theorem dL_law_692 : decode cL_law 692 = .ok (.aload_n 1, 1) := by decide +kernel
theorem dL_law_693 : decode cL_law 693 = .ok (.aload_n 0, 1) := by decide +kernel
theorem dL_law_694 : decode cL_law 694 = .ok (.iload_n 3, 1) := by decide +kernel
theorem dL_law_695 : decode cL_law 695 = .ok (.iconst 1, 1) := by decide +kernel
theorem dL_law_696 : decode cL_law 696 = .ok (.iadd, 1) := by decide +kernel
theorem dL_law_697 : decode cL_law 697 = .ok (.iaload, 1) := by decide +kernel
theorem dL_law_698 : decode cL_law 698 = .ok (.aload_n 0, 1) := by decide +kernel
theorem dL_law_699 : decode cL_law 699 = .ok (.iload_n 3, 1) := by decide +kernel
theorem dL_law_700 : decode cL_law 700 = .ok (.iconst 2, 1) := by decide +kernel
theorem dL_law_701 : decode cL_law 701 = .ok (.iadd, 1) := by decide +kernel
theorem dL_law_702 : decode cL_law 702 = .ok (.iaload, 1) := by decide +kernel
theorem dL_law_703 : decode cL_law 703 = .ok (.aload_n 0, 1) := by decide +kernel
theorem dL_law_704 : decode cL_law 704 = .ok (.iload_n 3, 1) := by decide +kernel
theorem dL_law_705 : decode cL_law 705 = .ok (.iconst 3, 1) := by decide +kernel
theorem dL_law_706 : decode cL_law 706 = .ok (.iadd, 1) := by decide +kernel
theorem dL_law_707 : decode cL_law 707 = .ok (.iaload, 1) := by decide +kernel
theorem dL_law_708 : decode cL_law 708 = .ok (.aload_n 0, 1) := by decide +kernel
theorem dL_law_709 : decode cL_law 709 = .ok (.iload_n 3, 1) := by decide +kernel
theorem dL_law_710 : decode cL_law 710 = .ok (.iconst 4, 1) := by decide +kernel
theorem dL_law_711 : decode cL_law 711 = .ok (.iadd, 1) := by decide +kernel
theorem dL_law_712 : decode cL_law 712 = .ok (.iaload, 1) := by decide +kernel
theorem dL_law_713 : decode cL_law 713 = .ok (.aload_n 0, 1) := by decide +kernel
theorem dL_law_714 : decode cL_law 714 = .ok (.iload_n 3, 1) := by decide +kernel
theorem dL_law_715 : decode cL_law 715 = .ok (.iconst 5, 1) := by decide +kernel
theorem dL_law_716 : decode cL_law 716 = .ok (.iadd, 1) := by decide +kernel
theorem dL_law_717 : decode cL_law 717 = .ok (.iaload, 1) := by decide +kernel
theorem dL_law_718 : decode cL_law 718 = .ok (.invokevirtual 93, 3) := by decide +kernel
theorem dL_law_721 : decode cL_law 721 = .ok (.aload_n 2, 1) := by decide +kernel
theorem dL_law_722 : decode cL_law 722 = .ok (.aload_n 0, 1) := by decide +kernel
theorem dL_law_723 : decode cL_law 723 = .ok (.iload_n 3, 1) := by decide +kernel
theorem dL_law_724 : decode cL_law 724 = .ok (.iconst 1, 1) := by decide +kernel
theorem dL_law_725 : decode cL_law 725 = .ok (.iadd, 1) := by decide +kernel
theorem dL_law_726 : decode cL_law 726 = .ok (.iaload, 1) := by decide +kernel
theorem dL_law_727 : decode cL_law 727 = .ok (.aload_n 0, 1) := by decide +kernel
theorem dL_law_728 : decode cL_law 728 = .ok (.iload_n 3, 1) := by decide +kernel
theorem dL_law_729 : decode cL_law 729 = .ok (.iconst 2, 1) := by decide +kernel
theorem dL_law_730 : decode cL_law 730 = .ok (.iadd, 1) := by decide +kernel
theorem dL_law_731 : decode cL_law 731 = .ok (.iaload, 1) := by decide +kernel
theorem dL_law_732 : decode cL_law 732 = .ok (.aload_n 0, 1) := by decide +kernel
theorem dL_law_733 : decode cL_law 733 = .ok (.iload_n 3, 1) := by decide +kernel
theorem dL_law_734 : decode cL_law 734 = .ok (.iconst 3, 1) := by decide +kernel
theorem dL_law_735 : decode cL_law 735 = .ok (.iadd, 1) := by decide +kernel
theorem dL_law_736 : decode cL_law 736 = .ok (.iaload, 1) := by decide +kernel
theorem dL_law_737 : decode cL_law 737 = .ok (.aload_n 0, 1) := by decide +kernel
theorem dL_law_738 : decode cL_law 738 = .ok (.iload_n 3, 1) := by decide +kernel
theorem dL_law_739 : decode cL_law 739 = .ok (.iconst 4, 1) := by decide +kernel
theorem dL_law_740 : decode cL_law 740 = .ok (.iadd, 1) := by decide +kernel
theorem dL_law_741 : decode cL_law 741 = .ok (.iaload, 1) := by decide +kernel
theorem dL_law_742 : decode cL_law 742 = .ok (.aload_n 0, 1) := by decide +kernel
theorem dL_law_743 : decode cL_law 743 = .ok (.iload_n 3, 1) := by decide +kernel
theorem dL_law_744 : decode cL_law 744 = .ok (.iconst 5, 1) := by decide +kernel
theorem dL_law_745 : decode cL_law 745 = .ok (.iadd, 1) := by decide +kernel
theorem dL_law_746 : decode cL_law 746 = .ok (.iaload, 1) := by decide +kernel
theorem dL_law_747 : decode cL_law 747 = .ok (.invokevirtual 97, 3) := by decide +kernel
theorem dL_law_750 : decode cL_law 750 = .ok (.if_icmp .eq 28, 3) := by decide +kernel
theorem dL_law_753 : decode cL_law 753 = .ok (.iconst 0, 1) := by decide +kernel
theorem dL_law_754 : decode cL_law 754 = .ok (.ireturn, 1) := by decide +kernel
theorem dL_law_755 : decode cL_law 755 = .ok (.aload_n 1, 1) := by decide +kernel
theorem dL_law_756 : decode cL_law 756 = .ok (.aload_n 0, 1) := by decide +kernel
theorem dL_law_757 : decode cL_law 757 = .ok (.iload_n 3, 1) := by decide +kernel
theorem dL_law_758 : decode cL_law 758 = .ok (.iconst 1, 1) := by decide +kernel
theorem dL_law_759 : decode cL_law 759 = .ok (.iadd, 1) := by decide +kernel
theorem dL_law_760 : decode cL_law 760 = .ok (.iaload, 1) := by decide +kernel
theorem dL_law_761 : decode cL_law 761 = .ok (.invokevirtual 98, 3) := by decide +kernel
theorem dL_law_764 : decode cL_law 764 = .ok (.aload_n 2, 1) := by decide +kernel
theorem dL_law_765 : decode cL_law 765 = .ok (.aload_n 0, 1) := by decide +kernel
theorem dL_law_766 : decode cL_law 766 = .ok (.iload_n 3, 1) := by decide +kernel
theorem dL_law_767 : decode cL_law 767 = .ok (.iconst 1, 1) := by decide +kernel
theorem dL_law_768 : decode cL_law 768 = .ok (.iadd, 1) := by decide +kernel
theorem dL_law_769 : decode cL_law 769 = .ok (.iaload, 1) := by decide +kernel
theorem dL_law_770 : decode cL_law 770 = .ok (.invokevirtual 101, 3) := by decide +kernel
theorem dL_law_773 : decode cL_law 773 = .ok (.if_icmp .eq 5, 3) := by decide +kernel
theorem dL_law_776 : decode cL_law 776 = .ok (.iconst 0, 1) := by decide +kernel
theorem dL_law_777 : decode cL_law 777 = .ok (.ireturn, 1) := by decide +kernel
theorem dL_law_778 : decode cL_law 778 = .ok (.iinc 3 6, 3) := by decide +kernel
theorem dL_law_781 : decode cL_law 781 = .ok (.goto (-763), 3) := by decide +kernel
theorem dL_law_784 : decode cL_law 784 = .ok (.iconst 1, 1) := by decide +kernel
theorem dL_law_785 : decode cL_law 785 = .ok (.ireturn, 1) := by decide +kernel
