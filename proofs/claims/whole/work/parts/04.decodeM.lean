theorem dX7_init_0 : decode cX7_init 0 = .ok (.aload_n 0, 1) := by decide +kernel
theorem dX7_init_1 : decode cX7_init 1 = .ok (.invokespecial 1, 3) := by decide +kernel
theorem dX7_init_4 : decode cX7_init 4 = .ok (.aload_n 0, 1) := by decide +kernel
theorem dX7_init_5 : decode cX7_init 5 = .ok (.bipush 60, 2) := by decide +kernel
theorem dX7_init_7 : decode cX7_init 7 = .ok (.bipush 8, 2) := by decide +kernel
theorem dX7_init_9 : decode cX7_init 9 = .ok (.multianewarray 9 2, 4) := by decide +kernel
theorem dX7_init_13 : decode cX7_init 13 = .ok (.putfield 11, 3) := by decide +kernel
theorem dX7_init_16 : decode cX7_init 16 = .ok (.aload_n 0, 1) := by decide +kernel
theorem dX7_init_17 : decode cX7_init 17 = .ok (.bipush 60, 2) := by decide +kernel
theorem dX7_init_19 : decode cX7_init 19 = .ok (.newarray .int, 2) := by decide +kernel
theorem dX7_init_21 : decode cX7_init 21 = .ok (.putfield 14, 3) := by decide +kernel
theorem dX7_init_24 : decode cX7_init 24 = .ok (.aload_n 0, 1) := by decide +kernel
theorem dX7_init_25 : decode cX7_init 25 = .ok (.bipush 60, 2) := by decide +kernel
theorem dX7_init_27 : decode cX7_init 27 = .ok (.newarray .int, 2) := by decide +kernel
theorem dX7_init_29 : decode cX7_init 29 = .ok (.putfield 18, 3) := by decide +kernel
theorem dX7_init_32 : decode cX7_init 32 = .ok (.aload_n 0, 1) := by decide +kernel
theorem dX7_init_33 : decode cX7_init 33 = .ok (.iconst 1, 1) := by decide +kernel
theorem dX7_init_34 : decode cX7_init 34 = .ok (.putfield 21, 3) := by decide +kernel
theorem dX7_init_37 : decode cX7_init 37 = .ok (.aload_n 0, 1) := by decide +kernel
theorem dX7_init_38 : decode cX7_init 38 = .ok (.iconst 5, 1) := by decide +kernel
theorem dX7_init_39 : decode cX7_init 39 = .ok (.newarray .int, 2) := by decide +kernel
theorem dX7_init_41 : decode cX7_init 41 = .ok (.putfield 25, 3) := by decide +kernel
theorem dX7_init_44 : decode cX7_init 44 = .ok (.aload_n 0, 1) := by decide +kernel
theorem dX7_init_45 : decode cX7_init 45 = .ok (.bipush 8, 2) := by decide +kernel
theorem dX7_init_47 : decode cX7_init 47 = .ok (.newarray .int, 2) := by decide +kernel
theorem dX7_init_49 : decode cX7_init 49 = .ok (.putfield 28, 3) := by decide +kernel
theorem dX7_init_52 : decode cX7_init 52 = .ok (.aload_n 0, 1) := by decide +kernel
theorem dX7_init_53 : decode cX7_init 53 = .ok (.bipush 8, 2) := by decide +kernel
theorem dX7_init_55 : decode cX7_init 55 = .ok (.newarray .int, 2) := by decide +kernel
theorem dX7_init_57 : decode cX7_init 57 = .ok (.putfield 31, 3) := by decide +kernel
theorem dX7_init_60 : decode cX7_init 60 = .ok (.aload_n 0, 1) := by decide +kernel
theorem dX7_init_61 : decode cX7_init 61 = .ok (.bipush 8, 2) := by decide +kernel
theorem dX7_init_63 : decode cX7_init 63 = .ok (.newarray .int, 2) := by decide +kernel
theorem dX7_init_65 : decode cX7_init 65 = .ok (.putfield 34, 3) := by decide +kernel
theorem dX7_init_68 : decode cX7_init 68 = .ok (.aload_n 0, 1) := by decide +kernel
theorem dX7_init_69 : decode cX7_init 69 = .ok (.bipush 8, 2) := by decide +kernel
theorem dX7_init_71 : decode cX7_init 71 = .ok (.newarray .int, 2) := by decide +kernel
theorem dX7_init_73 : decode cX7_init 73 = .ok (.putfield 37, 3) := by decide +kernel
theorem dX7_init_76 : decode cX7_init 76 = .ok (.aload_n 0, 1) := by decide +kernel
theorem dX7_init_77 : decode cX7_init 77 = .ok (.bipush 8, 2) := by decide +kernel
theorem dX7_init_79 : decode cX7_init 79 = .ok (.newarray .int, 2) := by decide +kernel
theorem dX7_init_81 : decode cX7_init 81 = .ok (.putfield 40, 3) := by decide +kernel
theorem dX7_init_84 : decode cX7_init 84 = .ok (.aload_n 0, 1) := by decide +kernel
theorem dX7_init_85 : decode cX7_init 85 = .ok (.bipush 60, 2) := by decide +kernel
theorem dX7_init_87 : decode cX7_init 87 = .ok (.newarray .int, 2) := by decide +kernel
theorem dX7_init_89 : decode cX7_init 89 = .ok (.putfield 43, 3) := by decide +kernel
theorem dX7_init_92 : decode cX7_init 92 = .ok (.aload_n 0, 1) := by decide +kernel
theorem dX7_init_93 : decode cX7_init 93 = .ok (.bipush 8, 2) := by decide +kernel
theorem dX7_init_95 : decode cX7_init 95 = .ok (.newarray .int, 2) := by decide +kernel
theorem dX7_init_97 : decode cX7_init 97 = .ok (.putfield 46, 3) := by decide +kernel
theorem dX7_init_100 : decode cX7_init 100 = .ok (.aload_n 0, 1) := by decide +kernel
theorem dX7_init_101 : decode cX7_init 101 = .ok (.bipush 60, 2) := by decide +kernel
theorem dX7_init_103 : decode cX7_init 103 = .ok (.newarray .boolean, 2) := by decide +kernel
theorem dX7_init_105 : decode cX7_init 105 = .ok (.putfield 49, 3) := by decide +kernel
theorem dX7_init_108 : decode cX7_init 108 = .ok (.aload_n 0, 1) := by decide +kernel
theorem dX7_init_109 : decode cX7_init 109 = .ok (.sipush 480, 3) := by decide +kernel
theorem dX7_init_112 : decode cX7_init 112 = .ok (.newarray .int, 2) := by decide +kernel
theorem dX7_init_114 : decode cX7_init 114 = .ok (.putfield 53, 3) := by decide +kernel
theorem dX7_init_117 : decode cX7_init 117 = .ok (.aload_n 0, 1) := by decide +kernel
theorem dX7_init_118 : decode cX7_init 118 = .ok (.sipush 480, 3) := by decide +kernel
theorem dX7_init_121 : decode cX7_init 121 = .ok (.newarray .int, 2) := by decide +kernel
theorem dX7_init_123 : decode cX7_init 123 = .ok (.putfield 56, 3) := by decide +kernel
theorem dX7_init_126 : decode cX7_init 126 = .ok (.aload_n 0, 1) := by decide +kernel
theorem dX7_init_127 : decode cX7_init 127 = .ok (.sipush 480, 3) := by decide +kernel
theorem dX7_init_130 : decode cX7_init 130 = .ok (.newarray .int, 2) := by decide +kernel
theorem dX7_init_132 : decode cX7_init 132 = .ok (.putfield 59, 3) := by decide +kernel
theorem dX7_init_135 : decode cX7_init 135 = .ok (.aload_n 0, 1) := by decide +kernel
theorem dX7_init_136 : decode cX7_init 136 = .ok (.sipush 480, 3) := by decide +kernel
theorem dX7_init_139 : decode cX7_init 139 = .ok (.newarray .int, 2) := by decide +kernel
theorem dX7_init_141 : decode cX7_init 141 = .ok (.putfield 62, 3) := by decide +kernel
theorem dX7_init_144 : decode cX7_init 144 = .ok (.aload_n 0, 1) := by decide +kernel
theorem dX7_init_145 : decode cX7_init 145 = .ok (.bipush 60, 2) := by decide +kernel
theorem dX7_init_147 : decode cX7_init 147 = .ok (.newarray .boolean, 2) := by decide +kernel
theorem dX7_init_149 : decode cX7_init 149 = .ok (.putfield 65, 3) := by decide +kernel
theorem dX7_init_152 : decode cX7_init 152 = .ok (.aload_n 0, 1) := by decide +kernel
theorem dX7_init_153 : decode cX7_init 153 = .ok (.bipush 60, 2) := by decide +kernel
theorem dX7_init_155 : decode cX7_init 155 = .ok (.newarray .boolean, 2) := by decide +kernel
theorem dX7_init_157 : decode cX7_init 157 = .ok (.putfield 68, 3) := by decide +kernel
theorem dX7_init_160 : decode cX7_init 160 = .ok (.aload_n 0, 1) := by decide +kernel
theorem dX7_init_161 : decode cX7_init 161 = .ok (.bipush 60, 2) := by decide +kernel
theorem dX7_init_163 : decode cX7_init 163 = .ok (.newarray .boolean, 2) := by decide +kernel
theorem dX7_init_165 : decode cX7_init 165 = .ok (.putfield 71, 3) := by decide +kernel
theorem dX7_init_168 : decode cX7_init 168 = .ok (.aload_n 0, 1) := by decide +kernel
theorem dX7_init_169 : decode cX7_init 169 = .ok (.bipush 60, 2) := by decide +kernel
theorem dX7_init_171 : decode cX7_init 171 = .ok (.newarray .int, 2) := by decide +kernel
theorem dX7_init_173 : decode cX7_init 173 = .ok (.putfield 74, 3) := by decide +kernel
theorem dX7_init_176 : decode cX7_init 176 = .ok (.iconst 0, 1) := by decide +kernel
theorem dX7_init_177 : decode cX7_init 177 = .ok (.istore_n 1, 1) := by decide +kernel
theorem dX7_init_178 : decode cX7_init 178 = .ok (.iload_n 1, 1) := by decide +kernel
theorem dX7_init_179 : decode cX7_init 179 = .ok (.bipush 8, 2) := by decide +kernel
theorem dX7_init_181 : decode cX7_init 181 = .ok (.if_icmp .ge 25, 3) := by decide +kernel
theorem dX7_init_184 : decode cX7_init 184 = .ok (.aload_n 0, 1) := by decide +kernel
theorem dX7_init_185 : decode cX7_init 185 = .ok (.getfield 11, 3) := by decide +kernel
theorem dX7_init_188 : decode cX7_init 188 = .ok (.iconst 0, 1) := by decide +kernel
theorem dX7_init_189 : decode cX7_init 189 = .ok (.aaload, 1) := by decide +kernel
theorem dX7_init_190 : decode cX7_init 190 = .ok (.iload_n 1, 1) := by decide +kernel
theorem dX7_init_191 : decode cX7_init 191 = .ok (.iconst (-1), 1) := by decide +kernel
theorem dX7_init_192 : decode cX7_init 192 = .ok (.iastore, 1) := by decide +kernel
theorem dX7_init_193 : decode cX7_init 193 = .ok (.aload_n 0, 1) := by decide +kernel
theorem dX7_init_194 : decode cX7_init 194 = .ok (.getfield 28, 3) := by decide +kernel
theorem dX7_init_197 : decode cX7_init 197 = .ok (.iload_n 1, 1) := by decide +kernel
theorem dX7_init_198 : decode cX7_init 198 = .ok (.iconst (-1), 1) := by decide +kernel
theorem dX7_init_199 : decode cX7_init 199 = .ok (.iastore, 1) := by decide +kernel
theorem dX7_init_200 : decode cX7_init 200 = .ok (.iinc 1 1, 3) := by decide +kernel
theorem dX7_init_203 : decode cX7_init 203 = .ok (.goto (-25), 3) := by decide +kernel
theorem dX7_init_206 : decode cX7_init 206 = .ok (.aload_n 0, 1) := by decide +kernel
theorem dX7_init_207 : decode cX7_init 207 = .ok (.getfield 14, 3) := by decide +kernel
theorem dX7_init_210 : decode cX7_init 210 = .ok (.iconst 0, 1) := by decide +kernel
theorem dX7_init_211 : decode cX7_init 211 = .ok (.iconst (-1), 1) := by decide +kernel
theorem dX7_init_212 : decode cX7_init 212 = .ok (.iastore, 1) := by decide +kernel
theorem dX7_init_213 : decode cX7_init 213 = .ok (.aload_n 0, 1) := by decide +kernel
theorem dX7_init_214 : decode cX7_init 214 = .ok (.getfield 18, 3) := by decide +kernel
theorem dX7_init_217 : decode cX7_init 217 = .ok (.iconst 0, 1) := by decide +kernel
theorem dX7_init_218 : decode cX7_init 218 = .ok (.iconst (-1), 1) := by decide +kernel
theorem dX7_init_219 : decode cX7_init 219 = .ok (.iastore, 1) := by decide +kernel
theorem dX7_init_220 : decode cX7_init 220 = .ok (.iconst 1, 1) := by decide +kernel
theorem dX7_init_221 : decode cX7_init 221 = .ok (.istore_n 1, 1) := by decide +kernel
theorem dX7_init_222 : decode cX7_init 222 = .ok (.iload_n 1, 1) := by decide +kernel
theorem dX7_init_223 : decode cX7_init 223 = .ok (.iconst 5, 1) := by decide +kernel
theorem dX7_init_224 : decode cX7_init 224 = .ok (.if_icmp .ge 16, 3) := by decide +kernel
theorem dX7_init_227 : decode cX7_init 227 = .ok (.aload_n 0, 1) := by decide +kernel
theorem dX7_init_228 : decode cX7_init 228 = .ok (.getfield 25, 3) := by decide +kernel
theorem dX7_init_231 : decode cX7_init 231 = .ok (.iload_n 1, 1) := by decide +kernel
theorem dX7_init_232 : decode cX7_init 232 = .ok (.iconst (-1), 1) := by decide +kernel
theorem dX7_init_233 : decode cX7_init 233 = .ok (.iastore, 1) := by decide +kernel
theorem dX7_init_234 : decode cX7_init 234 = .ok (.iinc 1 1, 3) := by decide +kernel
theorem dX7_init_237 : decode cX7_init 237 = .ok (.goto (-15), 3) := by decide +kernel
theorem dX7_init_240 : decode cX7_init 240 = .ok (.return_, 1) := by decide +kernel
theorem dX7_thrown_0 : decode cX7_thrown 0 = .ok (.aload_n 0, 1) := by decide +kernel
theorem dX7_thrown_1 : decode cX7_thrown 1 = .ok (.getfield 77, 3) := by decide +kernel
theorem dX7_thrown_4 : decode cX7_thrown 4 = .ok (.ireturn, 1) := by decide +kernel
theorem dX7_raises_0 : decode cX7_raises 0 = .ok (.aload_n 0, 1) := by decide +kernel
theorem dX7_raises_1 : decode cX7_raises 1 = .ok (.iload_n 1, 1) := by decide +kernel
theorem dX7_raises_2 : decode cX7_raises 2 = .ok (.putfield 77, 3) := by decide +kernel
theorem dX7_raises_5 : decode cX7_raises 5 = .ok (.iconst 0, 1) := by decide +kernel
theorem dX7_raises_6 : decode cX7_raises 6 = .ok (.ireturn, 1) := by decide +kernel
theorem dX7_in_0 : decode cX7_in 0 = .ok (.iload_n 0, 1) := by decide +kernel
theorem dX7_in_1 : decode cX7_in 1 = .ok (.iload_n 1, 1) := by decide +kernel
theorem dX7_in_2 : decode cX7_in 2 = .ok (.if_icmp .lt 12, 3) := by decide +kernel
theorem dX7_in_5 : decode cX7_in 5 = .ok (.iload_n 0, 1) := by decide +kernel
theorem dX7_in_6 : decode cX7_in 6 = .ok (.iload_n 2, 1) := by decide +kernel
theorem dX7_in_7 : decode cX7_in 7 = .ok (.if_icmp .gt 7, 3) := by decide +kernel
theorem dX7_in_10 : decode cX7_in 10 = .ok (.iconst 1, 1) := by decide +kernel
theorem dX7_in_11 : decode cX7_in 11 = .ok (.goto 4, 3) := by decide +kernel
theorem dX7_in_14 : decode cX7_in 14 = .ok (.iconst 0, 1) := by decide +kernel
theorem dX7_in_15 : decode cX7_in 15 = .ok (.ireturn, 1) := by decide +kernel
theorem dX7_isPath_0 : decode cX7_isPath 0 = .ok (.iload_n 0, 1) := by decide +kernel
theorem dX7_isPath_1 : decode cX7_isPath 1 = .ok (.iconst 0, 1) := by decide +kernel
theorem dX7_isPath_2 : decode cX7_isPath 2 = .ok (.bipush 7, 2) := by decide +kernel
theorem dX7_isPath_4 : decode cX7_isPath 4 = .ok (.invokestatic 80, 3) := by decide +kernel
theorem dX7_isPath_7 : decode cX7_isPath 7 = .ok (.ireturn, 1) := by decide +kernel
theorem dX7_isCommit_0 : decode cX7_isCommit 0 = .ok (.iload_n 1, 1) := by decide +kernel
theorem dX7_isCommit_1 : decode cX7_isCommit 1 = .ok (.iconst 0, 1) := by decide +kernel
theorem dX7_isCommit_2 : decode cX7_isCommit 2 = .ok (.aload_n 0, 1) := by decide +kernel
theorem dX7_isCommit_3 : decode cX7_isCommit 3 = .ok (.getfield 21, 3) := by decide +kernel
theorem dX7_isCommit_6 : decode cX7_isCommit 6 = .ok (.iconst 1, 1) := by decide +kernel
theorem dX7_isCommit_7 : decode cX7_isCommit 7 = .ok (.isub, 1) := by decide +kernel
theorem dX7_isCommit_8 : decode cX7_isCommit 8 = .ok (.invokestatic 80, 3) := by decide +kernel
theorem dX7_isCommit_11 : decode cX7_isCommit 11 = .ok (.ireturn, 1) := by decide +kernel
theorem dX7_write_0 : decode cX7_write 0 = .ok (.aload_n 0, 1) := by decide +kernel
theorem dX7_write_1 : decode cX7_write 1 = .ok (.iload_n 1, 1) := by decide +kernel
theorem dX7_write_2 : decode cX7_write 2 = .ok (.invokestatic 84, 3) := by decide +kernel
theorem dX7_write_5 : decode cX7_write 5 = .ok (.ifCond .ne 7, 3) := by decide +kernel
theorem dX7_write_8 : decode cX7_write 8 = .ok (.iconst 1, 1) := by decide +kernel
theorem dX7_write_9 : decode cX7_write 9 = .ok (.goto 19, 3) := by decide +kernel
theorem dX7_write_12 : decode cX7_write 12 = .ok (.iload_n 2, 1) := by decide +kernel
theorem dX7_write_13 : decode cX7_write 13 = .ok (.iconst 0, 1) := by decide +kernel
theorem dX7_write_14 : decode cX7_write 14 = .ok (.sipush 9999, 3) := by decide +kernel
theorem dX7_write_17 : decode cX7_write 17 = .ok (.invokestatic 80, 3) := by decide +kernel
theorem dX7_write_20 : decode cX7_write 20 = .ok (.ifCond .ne 7, 3) := by decide +kernel
theorem dX7_write_23 : decode cX7_write 23 = .ok (.iconst 2, 1) := by decide +kernel
theorem dX7_write_24 : decode cX7_write 24 = .ok (.goto 4, 3) := by decide +kernel
theorem dX7_write_27 : decode cX7_write 27 = .ok (.iconst 0, 1) := by decide +kernel
theorem dX7_write_28 : decode cX7_write 28 = .ok (.putfield 77, 3) := by decide +kernel
theorem dX7_write_31 : decode cX7_write 31 = .ok (.aload_n 0, 1) := by decide +kernel
theorem dX7_write_32 : decode cX7_write 32 = .ok (.getfield 77, 3) := by decide +kernel
theorem dX7_write_35 : decode cX7_write 35 = .ok (.ifCond .le 5, 3) := by decide +kernel
theorem dX7_write_38 : decode cX7_write 38 = .ok (.iconst 0, 1) := by decide +kernel
theorem dX7_write_39 : decode cX7_write 39 = .ok (.ireturn, 1) := by decide +kernel
theorem dX7_write_40 : decode cX7_write 40 = .ok (.aload_n 0, 1) := by decide +kernel
theorem dX7_write_41 : decode cX7_write 41 = .ok (.getfield 28, 3) := by decide +kernel
theorem dX7_write_44 : decode cX7_write 44 = .ok (.iload_n 1, 1) := by decide +kernel
theorem dX7_write_45 : decode cX7_write 45 = .ok (.iaload, 1) := by decide +kernel
theorem dX7_write_46 : decode cX7_write 46 = .ok (.istore_n 3, 1) := by decide +kernel
theorem dX7_write_47 : decode cX7_write 47 = .ok (.aload_n 0, 1) := by decide +kernel
theorem dX7_write_48 : decode cX7_write 48 = .ok (.getfield 28, 3) := by decide +kernel
theorem dX7_write_51 : decode cX7_write 51 = .ok (.iload_n 1, 1) := by decide +kernel
theorem dX7_write_52 : decode cX7_write 52 = .ok (.iload_n 2, 1) := by decide +kernel
theorem dX7_write_53 : decode cX7_write 53 = .ok (.iastore, 1) := by decide +kernel
theorem dX7_write_54 : decode cX7_write 54 = .ok (.iload_n 3, 1) := by decide +kernel
theorem dX7_write_55 : decode cX7_write 55 = .ok (.ireturn, 1) := by decide +kernel
theorem dX7_lacks_0 : decode cX7_lacks 0 = .ok (.aload_n 0, 1) := by decide +kernel
theorem dX7_lacks_1 : decode cX7_lacks 1 = .ok (.iload_n 1, 1) := by decide +kernel
theorem dX7_lacks_2 : decode cX7_lacks 2 = .ok (.invokestatic 84, 3) := by decide +kernel
theorem dX7_lacks_5 : decode cX7_lacks 5 = .ok (.ifCond .ne 7, 3) := by decide +kernel
theorem dX7_lacks_8 : decode cX7_lacks 8 = .ok (.iconst 1, 1) := by decide +kernel
theorem dX7_lacks_9 : decode cX7_lacks 9 = .ok (.goto 18, 3) := by decide +kernel
theorem dX7_lacks_12 : decode cX7_lacks 12 = .ok (.aload_n 0, 1) := by decide +kernel
theorem dX7_lacks_13 : decode cX7_lacks 13 = .ok (.getfield 28, 3) := by decide +kernel
theorem dX7_lacks_16 : decode cX7_lacks 16 = .ok (.iload_n 1, 1) := by decide +kernel
theorem dX7_lacks_17 : decode cX7_lacks 17 = .ok (.iaload, 1) := by decide +kernel
theorem dX7_lacks_18 : decode cX7_lacks 18 = .ok (.iconst (-1), 1) := by decide +kernel
theorem dX7_lacks_19 : decode cX7_lacks 19 = .ok (.if_icmp .ne 7, 3) := by decide +kernel
theorem dX7_lacks_22 : decode cX7_lacks 22 = .ok (.iconst 2, 1) := by decide +kernel
theorem dX7_lacks_23 : decode cX7_lacks 23 = .ok (.goto 4, 3) := by decide +kernel
theorem dX7_lacks_26 : decode cX7_lacks 26 = .ok (.iconst 0, 1) := by decide +kernel
theorem dX7_lacks_27 : decode cX7_lacks 27 = .ok (.putfield 77, 3) := by decide +kernel
theorem dX7_lacks_30 : decode cX7_lacks 30 = .ok (.aload_n 0, 1) := by decide +kernel
theorem dX7_lacks_31 : decode cX7_lacks 31 = .ok (.getfield 77, 3) := by decide +kernel
theorem dX7_lacks_34 : decode cX7_lacks 34 = .ok (.ifCond .le 7, 3) := by decide +kernel
theorem dX7_lacks_37 : decode cX7_lacks 37 = .ok (.iconst 1, 1) := by decide +kernel
theorem dX7_lacks_38 : decode cX7_lacks 38 = .ok (.goto 4, 3) := by decide +kernel
theorem dX7_lacks_41 : decode cX7_lacks 41 = .ok (.iconst 0, 1) := by decide +kernel
theorem dX7_lacks_42 : decode cX7_lacks 42 = .ok (.ireturn, 1) := by decide +kernel
theorem dX7_erase_0 : decode cX7_erase 0 = .ok (.aload_n 0, 1) := by decide +kernel
theorem dX7_erase_1 : decode cX7_erase 1 = .ok (.iload_n 1, 1) := by decide +kernel
theorem dX7_erase_2 : decode cX7_erase 2 = .ok (.invokevirtual 88, 3) := by decide +kernel
theorem dX7_erase_5 : decode cX7_erase 5 = .ok (.ifCond .eq 5, 3) := by decide +kernel
theorem dX7_erase_8 : decode cX7_erase 8 = .ok (.iconst 0, 1) := by decide +kernel
theorem dX7_erase_9 : decode cX7_erase 9 = .ok (.ireturn, 1) := by decide +kernel
theorem dX7_erase_10 : decode cX7_erase 10 = .ok (.aload_n 0, 1) := by decide +kernel
theorem dX7_erase_11 : decode cX7_erase 11 = .ok (.getfield 28, 3) := by decide +kernel
theorem dX7_erase_14 : decode cX7_erase 14 = .ok (.iload_n 1, 1) := by decide +kernel
theorem dX7_erase_15 : decode cX7_erase 15 = .ok (.iaload, 1) := by decide +kernel
theorem dX7_erase_16 : decode cX7_erase 16 = .ok (.istore_n 2, 1) := by decide +kernel
theorem dX7_erase_17 : decode cX7_erase 17 = .ok (.aload_n 0, 1) := by decide +kernel
theorem dX7_erase_18 : decode cX7_erase 18 = .ok (.getfield 28, 3) := by decide +kernel
theorem dX7_erase_21 : decode cX7_erase 21 = .ok (.iload_n 1, 1) := by decide +kernel
theorem dX7_erase_22 : decode cX7_erase 22 = .ok (.iconst (-1), 1) := by decide +kernel
theorem dX7_erase_23 : decode cX7_erase 23 = .ok (.iastore, 1) := by decide +kernel
theorem dX7_erase_24 : decode cX7_erase 24 = .ok (.iload_n 2, 1) := by decide +kernel
theorem dX7_erase_25 : decode cX7_erase 25 = .ok (.ireturn, 1) := by decide +kernel
theorem dX7_move_0 : decode cX7_move 0 = .ok (.iload_n 2, 1) := by decide +kernel
theorem dX7_move_1 : decode cX7_move 1 = .ok (.invokestatic 84, 3) := by decide +kernel
theorem dX7_move_4 : decode cX7_move 4 = .ok (.ifCond .ne 9, 3) := by decide +kernel
theorem dX7_move_7 : decode cX7_move 7 = .ok (.aload_n 0, 1) := by decide +kernel
theorem dX7_move_8 : decode cX7_move 8 = .ok (.iconst 1, 1) := by decide +kernel
theorem dX7_move_9 : decode cX7_move 9 = .ok (.invokevirtual 91, 3) := by decide +kernel
theorem dX7_move_12 : decode cX7_move 12 = .ok (.ireturn, 1) := by decide +kernel
theorem dX7_move_13 : decode cX7_move 13 = .ok (.aload_n 0, 1) := by decide +kernel
theorem dX7_move_14 : decode cX7_move 14 = .ok (.iload_n 1, 1) := by decide +kernel
theorem dX7_move_15 : decode cX7_move 15 = .ok (.invokevirtual 88, 3) := by decide +kernel
theorem dX7_move_18 : decode cX7_move 18 = .ok (.ifCond .eq 5, 3) := by decide +kernel
theorem dX7_move_21 : decode cX7_move 21 = .ok (.iconst 0, 1) := by decide +kernel
theorem dX7_move_22 : decode cX7_move 22 = .ok (.ireturn, 1) := by decide +kernel
theorem dX7_move_23 : decode cX7_move 23 = .ok (.aload_n 0, 1) := by decide +kernel
theorem dX7_move_24 : decode cX7_move 24 = .ok (.getfield 28, 3) := by decide +kernel
theorem dX7_move_27 : decode cX7_move 27 = .ok (.iload_n 2, 1) := by decide +kernel
theorem dX7_move_28 : decode cX7_move 28 = .ok (.iaload, 1) := by decide +kernel
theorem dX7_move_29 : decode cX7_move 29 = .ok (.iconst (-1), 1) := by decide +kernel
theorem dX7_move_30 : decode cX7_move 30 = .ok (.if_icmp .eq 9, 3) := by decide +kernel
theorem dX7_move_33 : decode cX7_move 33 = .ok (.aload_n 0, 1) := by decide +kernel
theorem dX7_move_34 : decode cX7_move 34 = .ok (.iconst 3, 1) := by decide +kernel
theorem dX7_move_35 : decode cX7_move 35 = .ok (.invokevirtual 91, 3) := by decide +kernel
theorem dX7_move_38 : decode cX7_move 38 = .ok (.ireturn, 1) := by decide +kernel
theorem dX7_move_39 : decode cX7_move 39 = .ok (.aload_n 0, 1) := by decide +kernel
theorem dX7_move_40 : decode cX7_move 40 = .ok (.getfield 28, 3) := by decide +kernel
theorem dX7_move_43 : decode cX7_move 43 = .ok (.iload_n 2, 1) := by decide +kernel
theorem dX7_move_44 : decode cX7_move 44 = .ok (.aload_n 0, 1) := by decide +kernel
theorem dX7_move_45 : decode cX7_move 45 = .ok (.getfield 28, 3) := by decide +kernel
theorem dX7_move_48 : decode cX7_move 48 = .ok (.iload_n 1, 1) := by decide +kernel
theorem dX7_move_49 : decode cX7_move 49 = .ok (.iaload, 1) := by decide +kernel
theorem dX7_move_50 : decode cX7_move 50 = .ok (.iastore, 1) := by decide +kernel
theorem dX7_move_51 : decode cX7_move 51 = .ok (.aload_n 0, 1) := by decide +kernel
theorem dX7_move_52 : decode cX7_move 52 = .ok (.getfield 28, 3) := by decide +kernel
theorem dX7_move_55 : decode cX7_move 55 = .ok (.iload_n 1, 1) := by decide +kernel
theorem dX7_move_56 : decode cX7_move 56 = .ok (.iconst (-1), 1) := by decide +kernel
theorem dX7_move_57 : decode cX7_move 57 = .ok (.iastore, 1) := by decide +kernel
theorem dX7_move_58 : decode cX7_move 58 = .ok (.aload_n 0, 1) := by decide +kernel
theorem dX7_move_59 : decode cX7_move 59 = .ok (.getfield 28, 3) := by decide +kernel
theorem dX7_move_62 : decode cX7_move 62 = .ok (.iload_n 2, 1) := by decide +kernel
theorem dX7_move_63 : decode cX7_move 63 = .ok (.iaload, 1) := by decide +kernel
theorem dX7_move_64 : decode cX7_move 64 = .ok (.ireturn, 1) := by decide +kernel
theorem dX7_content_0 : decode cX7_content 0 = .ok (.aload_n 0, 1) := by decide +kernel
theorem dX7_content_1 : decode cX7_content 1 = .ok (.iload_n 1, 1) := by decide +kernel
theorem dX7_content_2 : decode cX7_content 2 = .ok (.invokevirtual 88, 3) := by decide +kernel
theorem dX7_content_5 : decode cX7_content 5 = .ok (.ifCond .eq 7, 3) := by decide +kernel
theorem dX7_content_8 : decode cX7_content 8 = .ok (.iconst 0, 1) := by decide +kernel
theorem dX7_content_9 : decode cX7_content 9 = .ok (.goto 9, 3) := by decide +kernel
theorem dX7_content_12 : decode cX7_content 12 = .ok (.aload_n 0, 1) := by decide +kernel
theorem dX7_content_13 : decode cX7_content 13 = .ok (.getfield 28, 3) := by decide +kernel
theorem dX7_content_16 : decode cX7_content 16 = .ok (.iload_n 1, 1) := by decide +kernel
theorem dX7_content_17 : decode cX7_content 17 = .ok (.iaload, 1) := by decide +kernel
theorem dX7_content_18 : decode cX7_content 18 = .ok (.ireturn, 1) := by decide +kernel
theorem dX7_changed_0 : decode cX7_changed 0 = .ok (.iconst 0, 1) := by decide +kernel
theorem dX7_changed_1 : decode cX7_changed 1 = .ok (.istore_n 1, 1) := by decide +kernel
theorem dX7_changed_2 : decode cX7_changed 2 = .ok (.iconst 0, 1) := by decide +kernel
theorem dX7_changed_3 : decode cX7_changed 3 = .ok (.istore_n 2, 1) := by decide +kernel
theorem dX7_changed_4 : decode cX7_changed 4 = .ok (.iload_n 2, 1) := by decide +kernel
theorem dX7_changed_5 : decode cX7_changed 5 = .ok (.bipush 8, 2) := by decide +kernel
theorem dX7_changed_7 : decode cX7_changed 7 = .ok (.if_icmp .ge 42, 3) := by decide +kernel
theorem dX7_changed_10 : decode cX7_changed 10 = .ok (.iload_n 1, 1) := by decide +kernel
theorem dX7_changed_11 : decode cX7_changed 11 = .ok (.aload_n 0, 1) := by decide +kernel
theorem dX7_changed_12 : decode cX7_changed 12 = .ok (.getfield 28, 3) := by decide +kernel
theorem dX7_changed_15 : decode cX7_changed 15 = .ok (.iload_n 2, 1) := by decide +kernel
theorem dX7_changed_16 : decode cX7_changed 16 = .ok (.iaload, 1) := by decide +kernel
theorem dX7_changed_17 : decode cX7_changed 17 = .ok (.aload_n 0, 1) := by decide +kernel
theorem dX7_changed_18 : decode cX7_changed 18 = .ok (.getfield 11, 3) := by decide +kernel
theorem dX7_changed_21 : decode cX7_changed 21 = .ok (.aload_n 0, 1) := by decide +kernel
theorem dX7_changed_22 : decode cX7_changed 22 = .ok (.getfield 25, 3) := by decide +kernel
theorem dX7_changed_25 : decode cX7_changed 25 = .ok (.aload_n 0, 1) := by decide +kernel
theorem dX7_changed_26 : decode cX7_changed 26 = .ok (.getfield 95, 3) := by decide +kernel
theorem dX7_changed_29 : decode cX7_changed 29 = .ok (.iaload, 1) := by decide +kernel
theorem dX7_changed_30 : decode cX7_changed 30 = .ok (.aaload, 1) := by decide +kernel
theorem dX7_changed_31 : decode cX7_changed 31 = .ok (.iload_n 2, 1) := by decide +kernel
theorem dX7_changed_32 : decode cX7_changed 32 = .ok (.iaload, 1) := by decide +kernel
theorem dX7_changed_33 : decode cX7_changed 33 = .ok (.if_icmp .eq 7, 3) := by decide +kernel
theorem dX7_changed_36 : decode cX7_changed 36 = .ok (.iconst 1, 1) := by decide +kernel
theorem dX7_changed_37 : decode cX7_changed 37 = .ok (.goto 4, 3) := by decide +kernel
theorem dX7_changed_40 : decode cX7_changed 40 = .ok (.iconst 0, 1) := by decide +kernel
theorem dX7_changed_41 : decode cX7_changed 41 = .ok (.iadd, 1) := by decide +kernel
theorem dX7_changed_42 : decode cX7_changed 42 = .ok (.istore_n 1, 1) := by decide +kernel
theorem dX7_changed_43 : decode cX7_changed 43 = .ok (.iinc 2 1, 3) := by decide +kernel
theorem dX7_changed_46 : decode cX7_changed 46 = .ok (.goto (-42), 3) := by decide +kernel
theorem dX7_changed_49 : decode cX7_changed 49 = .ok (.iload_n 1, 1) := by decide +kernel
theorem dX7_changed_50 : decode cX7_changed 50 = .ok (.ireturn, 1) := by decide +kernel
theorem dX7_changedPaths_0 : decode cX7_changedPaths 0 = .ok (.aload_n 0, 1) := by decide +kernel
theorem dX7_changedPaths_1 : decode cX7_changedPaths 1 = .ok (.iconst 0, 1) := by decide +kernel
theorem dX7_changedPaths_2 : decode cX7_changedPaths 2 = .ok (.putfield 77, 3) := by decide +kernel
theorem dX7_changedPaths_5 : decode cX7_changedPaths 5 = .ok (.aload_n 0, 1) := by decide +kernel
theorem dX7_changedPaths_6 : decode cX7_changedPaths 6 = .ok (.invokevirtual 98, 3) := by decide +kernel
theorem dX7_changedPaths_9 : decode cX7_changedPaths 9 = .ok (.ireturn, 1) := by decide +kernel
theorem dX7_isSame_0 : decode cX7_isSame 0 = .ok (.iconst 0, 1) := by decide +kernel
theorem dX7_isSame_1 : decode cX7_isSame 1 = .ok (.istore_n 2, 1) := by decide +kernel
theorem dX7_isSame_2 : decode cX7_isSame 2 = .ok (.iload_n 2, 1) := by decide +kernel
theorem dX7_isSame_3 : decode cX7_isSame 3 = .ok (.bipush 8, 2) := by decide +kernel
theorem dX7_isSame_5 : decode cX7_isSame 5 = .ok (.if_icmp .ge 20, 3) := by decide +kernel
theorem dX7_isSame_8 : decode cX7_isSame 8 = .ok (.aload_n 0, 1) := by decide +kernel
theorem dX7_isSame_9 : decode cX7_isSame 9 = .ok (.iload_n 2, 1) := by decide +kernel
theorem dX7_isSame_10 : decode cX7_isSame 10 = .ok (.iaload, 1) := by decide +kernel
theorem dX7_isSame_11 : decode cX7_isSame 11 = .ok (.aload_n 1, 1) := by decide +kernel
theorem dX7_isSame_12 : decode cX7_isSame 12 = .ok (.iload_n 2, 1) := by decide +kernel
theorem dX7_isSame_13 : decode cX7_isSame 13 = .ok (.iaload, 1) := by decide +kernel
theorem dX7_isSame_14 : decode cX7_isSame 14 = .ok (.if_icmp .eq 5, 3) := by decide +kernel
theorem dX7_isSame_17 : decode cX7_isSame 17 = .ok (.iconst 0, 1) := by decide +kernel
theorem dX7_isSame_18 : decode cX7_isSame 18 = .ok (.ireturn, 1) := by decide +kernel
theorem dX7_isSame_19 : decode cX7_isSame 19 = .ok (.iinc 2 1, 3) := by decide +kernel
theorem dX7_isSame_22 : decode cX7_isSame 22 = .ok (.goto (-20), 3) := by decide +kernel
theorem dX7_isSame_25 : decode cX7_isSame 25 = .ok (.iconst 1, 1) := by decide +kernel
theorem dX7_isSame_26 : decode cX7_isSame 26 = .ok (.ireturn, 1) := by decide +kernel
theorem dX7_made_0 : decode cX7_made 0 = .ok (.iconst 0, 1) := by decide +kernel
theorem dX7_made_1 : decode cX7_made 1 = .ok (.istore 4, 2) := by decide +kernel
theorem dX7_made_3 : decode cX7_made 3 = .ok (.iload 4, 2) := by decide +kernel
theorem dX7_made_5 : decode cX7_made 5 = .ok (.aload_n 0, 1) := by decide +kernel
theorem dX7_made_6 : decode cX7_made 6 = .ok (.getfield 21, 3) := by decide +kernel
theorem dX7_made_9 : decode cX7_made 9 = .ok (.if_icmp .ge 48, 3) := by decide +kernel
theorem dX7_made_12 : decode cX7_made 12 = .ok (.aload_n 0, 1) := by decide +kernel
theorem dX7_made_13 : decode cX7_made 13 = .ok (.getfield 14, 3) := by decide +kernel
theorem dX7_made_16 : decode cX7_made 16 = .ok (.iload 4, 2) := by decide +kernel
theorem dX7_made_18 : decode cX7_made 18 = .ok (.iaload, 1) := by decide +kernel
theorem dX7_made_19 : decode cX7_made 19 = .ok (.iload_n 2, 1) := by decide +kernel
theorem dX7_made_20 : decode cX7_made 20 = .ok (.if_icmp .ne 31, 3) := by decide +kernel
theorem dX7_made_23 : decode cX7_made 23 = .ok (.aload_n 0, 1) := by decide +kernel
theorem dX7_made_24 : decode cX7_made 24 = .ok (.getfield 18, 3) := by decide +kernel
theorem dX7_made_27 : decode cX7_made 27 = .ok (.iload 4, 2) := by decide +kernel
theorem dX7_made_29 : decode cX7_made 29 = .ok (.iaload, 1) := by decide +kernel
theorem dX7_made_30 : decode cX7_made 30 = .ok (.iload_n 3, 1) := by decide +kernel
theorem dX7_made_31 : decode cX7_made 31 = .ok (.if_icmp .ne 20, 3) := by decide +kernel
theorem dX7_made_34 : decode cX7_made 34 = .ok (.aload_n 0, 1) := by decide +kernel
theorem dX7_made_35 : decode cX7_made 35 = .ok (.getfield 11, 3) := by decide +kernel
theorem dX7_made_38 : decode cX7_made 38 = .ok (.iload 4, 2) := by decide +kernel
theorem dX7_made_40 : decode cX7_made 40 = .ok (.aaload, 1) := by decide +kernel
theorem dX7_made_41 : decode cX7_made 41 = .ok (.aload_n 1, 1) := by decide +kernel
theorem dX7_made_42 : decode cX7_made 42 = .ok (.invokestatic 102, 3) := by decide +kernel
theorem dX7_made_45 : decode cX7_made 45 = .ok (.ifCond .eq 6, 3) := by decide +kernel
theorem dX7_made_48 : decode cX7_made 48 = .ok (.iload 4, 2) := by decide +kernel
theorem dX7_made_50 : decode cX7_made 50 = .ok (.ireturn, 1) := by decide +kernel
theorem dX7_made_51 : decode cX7_made 51 = .ok (.iinc 4 1, 3) := by decide +kernel
theorem dX7_made_54 : decode cX7_made 54 = .ok (.goto (-51), 3) := by decide +kernel
theorem dX7_made_57 : decode cX7_made 57 = .ok (.aload_n 0, 1) := by decide +kernel
theorem dX7_made_58 : decode cX7_made 58 = .ok (.getfield 21, 3) := by decide +kernel
theorem dX7_made_61 : decode cX7_made 61 = .ok (.bipush 60, 2) := by decide +kernel
theorem dX7_made_63 : decode cX7_made 63 = .ok (.if_icmp .ne 5, 3) := by decide +kernel
theorem dX7_made_66 : decode cX7_made 66 = .ok (.iconst (-1), 1) := by decide +kernel
theorem dX7_made_67 : decode cX7_made 67 = .ok (.ireturn, 1) := by decide +kernel
theorem dX7_made_68 : decode cX7_made 68 = .ok (.iconst 0, 1) := by decide +kernel
theorem dX7_made_69 : decode cX7_made 69 = .ok (.istore 4, 2) := by decide +kernel
theorem dX7_made_71 : decode cX7_made 71 = .ok (.iload 4, 2) := by decide +kernel
theorem dX7_made_73 : decode cX7_made 73 = .ok (.bipush 8, 2) := by decide +kernel
theorem dX7_made_75 : decode cX7_made 75 = .ok (.if_icmp .ge 25, 3) := by decide +kernel
theorem dX7_made_78 : decode cX7_made 78 = .ok (.aload_n 0, 1) := by decide +kernel
theorem dX7_made_79 : decode cX7_made 79 = .ok (.getfield 11, 3) := by decide +kernel
theorem dX7_made_82 : decode cX7_made 82 = .ok (.aload_n 0, 1) := by decide +kernel
theorem dX7_made_83 : decode cX7_made 83 = .ok (.getfield 21, 3) := by decide +kernel
theorem dX7_made_86 : decode cX7_made 86 = .ok (.aaload, 1) := by decide +kernel
theorem dX7_made_87 : decode cX7_made 87 = .ok (.iload 4, 2) := by decide +kernel
theorem dX7_made_89 : decode cX7_made 89 = .ok (.aload_n 1, 1) := by decide +kernel
theorem dX7_made_90 : decode cX7_made 90 = .ok (.iload 4, 2) := by decide +kernel
theorem dX7_made_92 : decode cX7_made 92 = .ok (.iaload, 1) := by decide +kernel
theorem dX7_made_93 : decode cX7_made 93 = .ok (.iastore, 1) := by decide +kernel
theorem dX7_made_94 : decode cX7_made 94 = .ok (.iinc 4 1, 3) := by decide +kernel
theorem dX7_made_97 : decode cX7_made 97 = .ok (.goto (-26), 3) := by decide +kernel
theorem dX7_made_100 : decode cX7_made 100 = .ok (.aload_n 0, 1) := by decide +kernel
theorem dX7_made_101 : decode cX7_made 101 = .ok (.getfield 14, 3) := by decide +kernel
theorem dX7_made_104 : decode cX7_made 104 = .ok (.aload_n 0, 1) := by decide +kernel
theorem dX7_made_105 : decode cX7_made 105 = .ok (.getfield 21, 3) := by decide +kernel
theorem dX7_made_108 : decode cX7_made 108 = .ok (.iload_n 2, 1) := by decide +kernel
theorem dX7_made_109 : decode cX7_made 109 = .ok (.iastore, 1) := by decide +kernel
theorem dX7_made_110 : decode cX7_made 110 = .ok (.aload_n 0, 1) := by decide +kernel
theorem dX7_made_111 : decode cX7_made 111 = .ok (.getfield 18, 3) := by decide +kernel
theorem dX7_made_114 : decode cX7_made 114 = .ok (.aload_n 0, 1) := by decide +kernel
theorem dX7_made_115 : decode cX7_made 115 = .ok (.getfield 21, 3) := by decide +kernel
theorem dX7_made_118 : decode cX7_made 118 = .ok (.iload_n 3, 1) := by decide +kernel
theorem dX7_made_119 : decode cX7_made 119 = .ok (.iastore, 1) := by decide +kernel
theorem dX7_made_120 : decode cX7_made 120 = .ok (.aload_n 0, 1) := by decide +kernel
theorem dX7_made_121 : decode cX7_made 121 = .ok (.dup, 1) := by decide +kernel
theorem dX7_made_122 : decode cX7_made 122 = .ok (.getfield 21, 3) := by decide +kernel
theorem dX7_made_125 : decode cX7_made 125 = .ok (.iconst 1, 1) := by decide +kernel
theorem dX7_made_126 : decode cX7_made 126 = .ok (.iadd, 1) := by decide +kernel
theorem dX7_made_127 : decode cX7_made 127 = .ok (.putfield 21, 3) := by decide +kernel
theorem dX7_made_130 : decode cX7_made 130 = .ok (.aload_n 0, 1) := by decide +kernel
theorem dX7_made_131 : decode cX7_made 131 = .ok (.getfield 21, 3) := by decide +kernel
theorem dX7_made_134 : decode cX7_made 134 = .ok (.iconst 1, 1) := by decide +kernel
theorem dX7_made_135 : decode cX7_made 135 = .ok (.isub, 1) := by decide +kernel
theorem dX7_made_136 : decode cX7_made 136 = .ok (.ireturn, 1) := by decide +kernel
theorem dX7_becomes_0 : decode cX7_becomes 0 = .ok (.aload_n 0, 1) := by decide +kernel
theorem dX7_becomes_1 : decode cX7_becomes 1 = .ok (.getfield 25, 3) := by decide +kernel
theorem dX7_becomes_4 : decode cX7_becomes 4 = .ok (.aload_n 0, 1) := by decide +kernel
theorem dX7_becomes_5 : decode cX7_becomes 5 = .ok (.getfield 95, 3) := by decide +kernel
theorem dX7_becomes_8 : decode cX7_becomes 8 = .ok (.iload_n 1, 1) := by decide +kernel
theorem dX7_becomes_9 : decode cX7_becomes 9 = .ok (.iastore, 1) := by decide +kernel
theorem dX7_becomes_10 : decode cX7_becomes 10 = .ok (.iconst 0, 1) := by decide +kernel
theorem dX7_becomes_11 : decode cX7_becomes 11 = .ok (.istore_n 2, 1) := by decide +kernel
theorem dX7_becomes_12 : decode cX7_becomes 12 = .ok (.iload_n 2, 1) := by decide +kernel
theorem dX7_becomes_13 : decode cX7_becomes 13 = .ok (.bipush 8, 2) := by decide +kernel
theorem dX7_becomes_15 : decode cX7_becomes 15 = .ok (.if_icmp .ge 23, 3) := by decide +kernel
theorem dX7_becomes_18 : decode cX7_becomes 18 = .ok (.aload_n 0, 1) := by decide +kernel
theorem dX7_becomes_19 : decode cX7_becomes 19 = .ok (.getfield 28, 3) := by decide +kernel
theorem dX7_becomes_22 : decode cX7_becomes 22 = .ok (.iload_n 2, 1) := by decide +kernel
theorem dX7_becomes_23 : decode cX7_becomes 23 = .ok (.aload_n 0, 1) := by decide +kernel
theorem dX7_becomes_24 : decode cX7_becomes 24 = .ok (.getfield 11, 3) := by decide +kernel
theorem dX7_becomes_27 : decode cX7_becomes 27 = .ok (.iload_n 1, 1) := by decide +kernel
theorem dX7_becomes_28 : decode cX7_becomes 28 = .ok (.aaload, 1) := by decide +kernel
theorem dX7_becomes_29 : decode cX7_becomes 29 = .ok (.iload_n 2, 1) := by decide +kernel
theorem dX7_becomes_30 : decode cX7_becomes 30 = .ok (.iaload, 1) := by decide +kernel
theorem dX7_becomes_31 : decode cX7_becomes 31 = .ok (.iastore, 1) := by decide +kernel
theorem dX7_becomes_32 : decode cX7_becomes 32 = .ok (.iinc 2 1, 3) := by decide +kernel
theorem dX7_becomes_35 : decode cX7_becomes 35 = .ok (.goto (-23), 3) := by decide +kernel
theorem dX7_becomes_38 : decode cX7_becomes 38 = .ok (.return_, 1) := by decide +kernel
theorem dX7_commit_0 : decode cX7_commit 0 = .ok (.aload_n 0, 1) := by decide +kernel
theorem dX7_commit_1 : decode cX7_commit 1 = .ok (.iconst 0, 1) := by decide +kernel
theorem dX7_commit_2 : decode cX7_commit 2 = .ok (.putfield 77, 3) := by decide +kernel
theorem dX7_commit_5 : decode cX7_commit 5 = .ok (.aload_n 0, 1) := by decide +kernel
theorem dX7_commit_6 : decode cX7_commit 6 = .ok (.invokevirtual 98, 3) := by decide +kernel
theorem dX7_commit_9 : decode cX7_commit 9 = .ok (.ifCond .ne 9, 3) := by decide +kernel
theorem dX7_commit_12 : decode cX7_commit 12 = .ok (.aload_n 0, 1) := by decide +kernel
theorem dX7_commit_13 : decode cX7_commit 13 = .ok (.iconst 1, 1) := by decide +kernel
theorem dX7_commit_14 : decode cX7_commit 14 = .ok (.invokevirtual 91, 3) := by decide +kernel
theorem dX7_commit_17 : decode cX7_commit 17 = .ok (.ireturn, 1) := by decide +kernel
theorem dX7_commit_18 : decode cX7_commit 18 = .ok (.aload_n 0, 1) := by decide +kernel
theorem dX7_commit_19 : decode cX7_commit 19 = .ok (.aload_n 0, 1) := by decide +kernel
theorem dX7_commit_20 : decode cX7_commit 20 = .ok (.getfield 28, 3) := by decide +kernel
theorem dX7_commit_23 : decode cX7_commit 23 = .ok (.aload_n 0, 1) := by decide +kernel
theorem dX7_commit_24 : decode cX7_commit 24 = .ok (.getfield 25, 3) := by decide +kernel
theorem dX7_commit_27 : decode cX7_commit 27 = .ok (.aload_n 0, 1) := by decide +kernel
theorem dX7_commit_28 : decode cX7_commit 28 = .ok (.getfield 95, 3) := by decide +kernel
theorem dX7_commit_31 : decode cX7_commit 31 = .ok (.iaload, 1) := by decide +kernel
theorem dX7_commit_32 : decode cX7_commit 32 = .ok (.iconst (-1), 1) := by decide +kernel
theorem dX7_commit_33 : decode cX7_commit 33 = .ok (.invokevirtual 106, 3) := by decide +kernel
theorem dX7_commit_36 : decode cX7_commit 36 = .ok (.istore_n 1, 1) := by decide +kernel
theorem dX7_commit_37 : decode cX7_commit 37 = .ok (.iload_n 1, 1) := by decide +kernel
theorem dX7_commit_38 : decode cX7_commit 38 = .ok (.iconst (-1), 1) := by decide +kernel
theorem dX7_commit_39 : decode cX7_commit 39 = .ok (.if_icmp .ne 9, 3) := by decide +kernel
theorem dX7_commit_42 : decode cX7_commit 42 = .ok (.aload_n 0, 1) := by decide +kernel
theorem dX7_commit_43 : decode cX7_commit 43 = .ok (.iconst 1, 1) := by decide +kernel
theorem dX7_commit_44 : decode cX7_commit 44 = .ok (.invokevirtual 91, 3) := by decide +kernel
theorem dX7_commit_47 : decode cX7_commit 47 = .ok (.ireturn, 1) := by decide +kernel
theorem dX7_commit_48 : decode cX7_commit 48 = .ok (.aload_n 0, 1) := by decide +kernel
theorem dX7_commit_49 : decode cX7_commit 49 = .ok (.getfield 25, 3) := by decide +kernel
theorem dX7_commit_52 : decode cX7_commit 52 = .ok (.aload_n 0, 1) := by decide +kernel
theorem dX7_commit_53 : decode cX7_commit 53 = .ok (.getfield 95, 3) := by decide +kernel
theorem dX7_commit_56 : decode cX7_commit 56 = .ok (.iload_n 1, 1) := by decide +kernel
theorem dX7_commit_57 : decode cX7_commit 57 = .ok (.iastore, 1) := by decide +kernel
theorem dX7_commit_58 : decode cX7_commit 58 = .ok (.iload_n 1, 1) := by decide +kernel
theorem dX7_commit_59 : decode cX7_commit 59 = .ok (.ireturn, 1) := by decide +kernel
theorem dX7_branch_0 : decode cX7_branch 0 = .ok (.aload_n 0, 1) := by decide +kernel
theorem dX7_branch_1 : decode cX7_branch 1 = .ok (.iload_n 1, 1) := by decide +kernel
theorem dX7_branch_2 : decode cX7_branch 2 = .ok (.iconst 0, 1) := by decide +kernel
theorem dX7_branch_3 : decode cX7_branch 3 = .ok (.iconst 4, 1) := by decide +kernel
theorem dX7_branch_4 : decode cX7_branch 4 = .ok (.invokestatic 80, 3) := by decide +kernel
theorem dX7_branch_7 : decode cX7_branch 7 = .ok (.ifCond .ne 7, 3) := by decide +kernel
theorem dX7_branch_10 : decode cX7_branch 10 = .ok (.iconst 1, 1) := by decide +kernel
theorem dX7_branch_11 : decode cX7_branch 11 = .ok (.goto 18, 3) := by decide +kernel
theorem dX7_branch_14 : decode cX7_branch 14 = .ok (.aload_n 0, 1) := by decide +kernel
theorem dX7_branch_15 : decode cX7_branch 15 = .ok (.getfield 25, 3) := by decide +kernel
theorem dX7_branch_18 : decode cX7_branch 18 = .ok (.iload_n 1, 1) := by decide +kernel
theorem dX7_branch_19 : decode cX7_branch 19 = .ok (.iaload, 1) := by decide +kernel
theorem dX7_branch_20 : decode cX7_branch 20 = .ok (.iconst (-1), 1) := by decide +kernel
theorem dX7_branch_21 : decode cX7_branch 21 = .ok (.if_icmp .eq 7, 3) := by decide +kernel
theorem dX7_branch_24 : decode cX7_branch 24 = .ok (.iconst 2, 1) := by decide +kernel
theorem dX7_branch_25 : decode cX7_branch 25 = .ok (.goto 4, 3) := by decide +kernel
theorem dX7_branch_28 : decode cX7_branch 28 = .ok (.iconst 0, 1) := by decide +kernel
theorem dX7_branch_29 : decode cX7_branch 29 = .ok (.putfield 77, 3) := by decide +kernel
theorem dX7_branch_32 : decode cX7_branch 32 = .ok (.aload_n 0, 1) := by decide +kernel
theorem dX7_branch_33 : decode cX7_branch 33 = .ok (.getfield 77, 3) := by decide +kernel
theorem dX7_branch_36 : decode cX7_branch 36 = .ok (.ifCond .le 5, 3) := by decide +kernel
theorem dX7_branch_39 : decode cX7_branch 39 = .ok (.iconst 0, 1) := by decide +kernel
theorem dX7_branch_40 : decode cX7_branch 40 = .ok (.ireturn, 1) := by decide +kernel
theorem dX7_branch_41 : decode cX7_branch 41 = .ok (.aload_n 0, 1) := by decide +kernel
theorem dX7_branch_42 : decode cX7_branch 42 = .ok (.getfield 25, 3) := by decide +kernel
theorem dX7_branch_45 : decode cX7_branch 45 = .ok (.iload_n 1, 1) := by decide +kernel
theorem dX7_branch_46 : decode cX7_branch 46 = .ok (.aload_n 0, 1) := by decide +kernel
theorem dX7_branch_47 : decode cX7_branch 47 = .ok (.getfield 25, 3) := by decide +kernel
theorem dX7_branch_50 : decode cX7_branch 50 = .ok (.aload_n 0, 1) := by decide +kernel
theorem dX7_branch_51 : decode cX7_branch 51 = .ok (.getfield 95, 3) := by decide +kernel
theorem dX7_branch_54 : decode cX7_branch 54 = .ok (.iaload, 1) := by decide +kernel
theorem dX7_branch_55 : decode cX7_branch 55 = .ok (.iastore, 1) := by decide +kernel
theorem dX7_branch_56 : decode cX7_branch 56 = .ok (.aload_n 0, 1) := by decide +kernel
theorem dX7_branch_57 : decode cX7_branch 57 = .ok (.getfield 25, 3) := by decide +kernel
theorem dX7_branch_60 : decode cX7_branch 60 = .ok (.iload_n 1, 1) := by decide +kernel
theorem dX7_branch_61 : decode cX7_branch 61 = .ok (.iaload, 1) := by decide +kernel
theorem dX7_branch_62 : decode cX7_branch 62 = .ok (.ireturn, 1) := by decide +kernel
theorem dX7_isNone_0 : decode cX7_isNone 0 = .ok (.aload_n 0, 1) := by decide +kernel
theorem dX7_isNone_1 : decode cX7_isNone 1 = .ok (.iload_n 1, 1) := by decide +kernel
theorem dX7_isNone_2 : decode cX7_isNone 2 = .ok (.iconst 0, 1) := by decide +kernel
theorem dX7_isNone_3 : decode cX7_isNone 3 = .ok (.iconst 4, 1) := by decide +kernel
theorem dX7_isNone_4 : decode cX7_isNone 4 = .ok (.invokestatic 80, 3) := by decide +kernel
theorem dX7_isNone_7 : decode cX7_isNone 7 = .ok (.ifCond .ne 7, 3) := by decide +kernel
theorem dX7_isNone_10 : decode cX7_isNone 10 = .ok (.iconst 1, 1) := by decide +kernel
theorem dX7_isNone_11 : decode cX7_isNone 11 = .ok (.goto 18, 3) := by decide +kernel
theorem dX7_isNone_14 : decode cX7_isNone 14 = .ok (.aload_n 0, 1) := by decide +kernel
theorem dX7_isNone_15 : decode cX7_isNone 15 = .ok (.getfield 25, 3) := by decide +kernel
theorem dX7_isNone_18 : decode cX7_isNone 18 = .ok (.iload_n 1, 1) := by decide +kernel
theorem dX7_isNone_19 : decode cX7_isNone 19 = .ok (.iaload, 1) := by decide +kernel
theorem dX7_isNone_20 : decode cX7_isNone 20 = .ok (.iconst (-1), 1) := by decide +kernel
theorem dX7_isNone_21 : decode cX7_isNone 21 = .ok (.if_icmp .ne 7, 3) := by decide +kernel
theorem dX7_isNone_24 : decode cX7_isNone 24 = .ok (.iconst 2, 1) := by decide +kernel
theorem dX7_isNone_25 : decode cX7_isNone 25 = .ok (.goto 4, 3) := by decide +kernel
theorem dX7_isNone_28 : decode cX7_isNone 28 = .ok (.iconst 0, 1) := by decide +kernel
theorem dX7_isNone_29 : decode cX7_isNone 29 = .ok (.putfield 77, 3) := by decide +kernel
theorem dX7_isNone_32 : decode cX7_isNone 32 = .ok (.aload_n 0, 1) := by decide +kernel
theorem dX7_isNone_33 : decode cX7_isNone 33 = .ok (.getfield 77, 3) := by decide +kernel
theorem dX7_isNone_36 : decode cX7_isNone 36 = .ok (.ifCond .le 7, 3) := by decide +kernel
theorem dX7_isNone_39 : decode cX7_isNone 39 = .ok (.iconst 1, 1) := by decide +kernel
theorem dX7_isNone_40 : decode cX7_isNone 40 = .ok (.goto 4, 3) := by decide +kernel
theorem dX7_isNone_43 : decode cX7_isNone 43 = .ok (.iconst 0, 1) := by decide +kernel
theorem dX7_isNone_44 : decode cX7_isNone 44 = .ok (.ireturn, 1) := by decide +kernel
theorem dX7_checkOut_0 : decode cX7_checkOut 0 = .ok (.aload_n 0, 1) := by decide +kernel
theorem dX7_checkOut_1 : decode cX7_checkOut 1 = .ok (.iload_n 1, 1) := by decide +kernel
theorem dX7_checkOut_2 : decode cX7_checkOut 2 = .ok (.invokevirtual 110, 3) := by decide +kernel
theorem dX7_checkOut_5 : decode cX7_checkOut 5 = .ok (.ifCond .eq 5, 3) := by decide +kernel
theorem dX7_checkOut_8 : decode cX7_checkOut 8 = .ok (.iconst 0, 1) := by decide +kernel
theorem dX7_checkOut_9 : decode cX7_checkOut 9 = .ok (.ireturn, 1) := by decide +kernel
theorem dX7_checkOut_10 : decode cX7_checkOut 10 = .ok (.aload_n 0, 1) := by decide +kernel
theorem dX7_checkOut_11 : decode cX7_checkOut 11 = .ok (.invokevirtual 98, 3) := by decide +kernel
theorem dX7_checkOut_14 : decode cX7_checkOut 14 = .ok (.ifCond .le 9, 3) := by decide +kernel
theorem dX7_checkOut_17 : decode cX7_checkOut 17 = .ok (.aload_n 0, 1) := by decide +kernel
theorem dX7_checkOut_18 : decode cX7_checkOut 18 = .ok (.iconst 3, 1) := by decide +kernel
theorem dX7_checkOut_19 : decode cX7_checkOut 19 = .ok (.invokevirtual 91, 3) := by decide +kernel
theorem dX7_checkOut_22 : decode cX7_checkOut 22 = .ok (.ireturn, 1) := by decide +kernel
theorem dX7_checkOut_23 : decode cX7_checkOut 23 = .ok (.aload_n 0, 1) := by decide +kernel
theorem dX7_checkOut_24 : decode cX7_checkOut 24 = .ok (.iload_n 1, 1) := by decide +kernel
theorem dX7_checkOut_25 : decode cX7_checkOut 25 = .ok (.putfield 95, 3) := by decide +kernel
theorem dX7_checkOut_28 : decode cX7_checkOut 28 = .ok (.aload_n 0, 1) := by decide +kernel
theorem dX7_checkOut_29 : decode cX7_checkOut 29 = .ok (.aload_n 0, 1) := by decide +kernel
theorem dX7_checkOut_30 : decode cX7_checkOut 30 = .ok (.getfield 25, 3) := by decide +kernel
theorem dX7_checkOut_33 : decode cX7_checkOut 33 = .ok (.iload_n 1, 1) := by decide +kernel
theorem dX7_checkOut_34 : decode cX7_checkOut 34 = .ok (.iaload, 1) := by decide +kernel
theorem dX7_checkOut_35 : decode cX7_checkOut 35 = .ok (.invokevirtual 113, 3) := by decide +kernel
theorem dX7_checkOut_38 : decode cX7_checkOut 38 = .ok (.aload_n 0, 1) := by decide +kernel
theorem dX7_checkOut_39 : decode cX7_checkOut 39 = .ok (.getfield 25, 3) := by decide +kernel
theorem dX7_checkOut_42 : decode cX7_checkOut 42 = .ok (.iload_n 1, 1) := by decide +kernel
theorem dX7_checkOut_43 : decode cX7_checkOut 43 = .ok (.iaload, 1) := by decide +kernel
theorem dX7_checkOut_44 : decode cX7_checkOut 44 = .ok (.ireturn, 1) := by decide +kernel
theorem dX7_reset_0 : decode cX7_reset 0 = .ok (.aload_n 0, 1) := by decide +kernel
theorem dX7_reset_1 : decode cX7_reset 1 = .ok (.aload_n 0, 1) := by decide +kernel
theorem dX7_reset_2 : decode cX7_reset 2 = .ok (.iload_n 1, 1) := by decide +kernel
theorem dX7_reset_3 : decode cX7_reset 3 = .ok (.invokevirtual 117, 3) := by decide +kernel
theorem dX7_reset_6 : decode cX7_reset 6 = .ok (.ifCond .eq 7, 3) := by decide +kernel
theorem dX7_reset_9 : decode cX7_reset 9 = .ok (.iconst 0, 1) := by decide +kernel
theorem dX7_reset_10 : decode cX7_reset 10 = .ok (.goto 4, 3) := by decide +kernel
theorem dX7_reset_13 : decode cX7_reset 13 = .ok (.iconst 1, 1) := by decide +kernel
theorem dX7_reset_14 : decode cX7_reset 14 = .ok (.putfield 77, 3) := by decide +kernel
theorem dX7_reset_17 : decode cX7_reset 17 = .ok (.aload_n 0, 1) := by decide +kernel
theorem dX7_reset_18 : decode cX7_reset 18 = .ok (.getfield 77, 3) := by decide +kernel
theorem dX7_reset_21 : decode cX7_reset 21 = .ok (.ifCond .le 5, 3) := by decide +kernel
theorem dX7_reset_24 : decode cX7_reset 24 = .ok (.iconst 0, 1) := by decide +kernel
theorem dX7_reset_25 : decode cX7_reset 25 = .ok (.ireturn, 1) := by decide +kernel
theorem dX7_reset_26 : decode cX7_reset 26 = .ok (.aload_n 0, 1) := by decide +kernel
theorem dX7_reset_27 : decode cX7_reset 27 = .ok (.getfield 25, 3) := by decide +kernel
theorem dX7_reset_30 : decode cX7_reset 30 = .ok (.aload_n 0, 1) := by decide +kernel
theorem dX7_reset_31 : decode cX7_reset 31 = .ok (.getfield 95, 3) := by decide +kernel
theorem dX7_reset_34 : decode cX7_reset 34 = .ok (.iaload, 1) := by decide +kernel
theorem dX7_reset_35 : decode cX7_reset 35 = .ok (.istore_n 2, 1) := by decide +kernel
theorem dX7_reset_36 : decode cX7_reset 36 = .ok (.aload_n 0, 1) := by decide +kernel
theorem dX7_reset_37 : decode cX7_reset 37 = .ok (.iload_n 1, 1) := by decide +kernel
theorem dX7_reset_38 : decode cX7_reset 38 = .ok (.invokevirtual 113, 3) := by decide +kernel
theorem dX7_reset_41 : decode cX7_reset 41 = .ok (.iload_n 2, 1) := by decide +kernel
theorem dX7_reset_42 : decode cX7_reset 42 = .ok (.ireturn, 1) := by decide +kernel
theorem dX7_findsAbove_0 : decode cX7_findsAbove 0 = .ok (.iconst 0, 1) := by decide +kernel
theorem dX7_findsAbove_1 : decode cX7_findsAbove 1 = .ok (.istore_n 3, 1) := by decide +kernel
theorem dX7_findsAbove_2 : decode cX7_findsAbove 2 = .ok (.iload_n 3, 1) := by decide +kernel
theorem dX7_findsAbove_3 : decode cX7_findsAbove 3 = .ok (.bipush 60, 2) := by decide +kernel
theorem dX7_findsAbove_5 : decode cX7_findsAbove 5 = .ok (.if_icmp .ge 22, 3) := by decide +kernel
theorem dX7_findsAbove_8 : decode cX7_findsAbove 8 = .ok (.aload_n 2, 1) := by decide +kernel
theorem dX7_findsAbove_9 : decode cX7_findsAbove 9 = .ok (.iload_n 3, 1) := by decide +kernel
theorem dX7_findsAbove_10 : decode cX7_findsAbove 10 = .ok (.iload_n 3, 1) := by decide +kernel
theorem dX7_findsAbove_11 : decode cX7_findsAbove 11 = .ok (.iload_n 1, 1) := by decide +kernel
theorem dX7_findsAbove_12 : decode cX7_findsAbove 12 = .ok (.if_icmp .ne 7, 3) := by decide +kernel
theorem dX7_findsAbove_15 : decode cX7_findsAbove 15 = .ok (.iconst 1, 1) := by decide +kernel
theorem dX7_findsAbove_16 : decode cX7_findsAbove 16 = .ok (.goto 4, 3) := by decide +kernel
theorem dX7_findsAbove_19 : decode cX7_findsAbove 19 = .ok (.iconst 0, 1) := by decide +kernel
theorem dX7_findsAbove_20 : decode cX7_findsAbove 20 = .ok (.bastore, 1) := by decide +kernel
theorem dX7_findsAbove_21 : decode cX7_findsAbove 21 = .ok (.iinc 3 1, 3) := by decide +kernel
theorem dX7_findsAbove_24 : decode cX7_findsAbove 24 = .ok (.goto (-22), 3) := by decide +kernel
theorem dX7_findsAbove_27 : decode cX7_findsAbove 27 = .ok (.iload_n 1, 1) := by decide +kernel
theorem dX7_findsAbove_28 : decode cX7_findsAbove 28 = .ok (.istore_n 3, 1) := by decide +kernel
theorem dX7_findsAbove_29 : decode cX7_findsAbove 29 = .ok (.iload_n 3, 1) := by decide +kernel
theorem dX7_findsAbove_30 : decode cX7_findsAbove 30 = .ok (.ifCond .le 43, 3) := by decide +kernel
theorem dX7_findsAbove_33 : decode cX7_findsAbove 33 = .ok (.aload_n 2, 1) := by decide +kernel
theorem dX7_findsAbove_34 : decode cX7_findsAbove 34 = .ok (.iload_n 3, 1) := by decide +kernel
theorem dX7_findsAbove_35 : decode cX7_findsAbove 35 = .ok (.baload, 1) := by decide +kernel
theorem dX7_findsAbove_36 : decode cX7_findsAbove 36 = .ok (.ifCond .eq 31, 3) := by decide +kernel
theorem dX7_findsAbove_39 : decode cX7_findsAbove 39 = .ok (.aload_n 2, 1) := by decide +kernel
theorem dX7_findsAbove_40 : decode cX7_findsAbove 40 = .ok (.aload_n 0, 1) := by decide +kernel
theorem dX7_findsAbove_41 : decode cX7_findsAbove 41 = .ok (.getfield 14, 3) := by decide +kernel
theorem dX7_findsAbove_44 : decode cX7_findsAbove 44 = .ok (.iload_n 3, 1) := by decide +kernel
theorem dX7_findsAbove_45 : decode cX7_findsAbove 45 = .ok (.iaload, 1) := by decide +kernel
theorem dX7_findsAbove_46 : decode cX7_findsAbove 46 = .ok (.iconst 1, 1) := by decide +kernel
theorem dX7_findsAbove_47 : decode cX7_findsAbove 47 = .ok (.bastore, 1) := by decide +kernel
theorem dX7_findsAbove_48 : decode cX7_findsAbove 48 = .ok (.aload_n 0, 1) := by decide +kernel
theorem dX7_findsAbove_49 : decode cX7_findsAbove 49 = .ok (.getfield 18, 3) := by decide +kernel
theorem dX7_findsAbove_52 : decode cX7_findsAbove 52 = .ok (.iload_n 3, 1) := by decide +kernel
theorem dX7_findsAbove_53 : decode cX7_findsAbove 53 = .ok (.iaload, 1) := by decide +kernel
theorem dX7_findsAbove_54 : decode cX7_findsAbove 54 = .ok (.iconst (-1), 1) := by decide +kernel
theorem dX7_findsAbove_55 : decode cX7_findsAbove 55 = .ok (.if_icmp .eq 12, 3) := by decide +kernel
theorem dX7_findsAbove_58 : decode cX7_findsAbove 58 = .ok (.aload_n 2, 1) := by decide +kernel
theorem dX7_findsAbove_59 : decode cX7_findsAbove 59 = .ok (.aload_n 0, 1) := by decide +kernel
theorem dX7_findsAbove_60 : decode cX7_findsAbove 60 = .ok (.getfield 18, 3) := by decide +kernel
theorem dX7_findsAbove_63 : decode cX7_findsAbove 63 = .ok (.iload_n 3, 1) := by decide +kernel
theorem dX7_findsAbove_64 : decode cX7_findsAbove 64 = .ok (.iaload, 1) := by decide +kernel
theorem dX7_findsAbove_65 : decode cX7_findsAbove 65 = .ok (.iconst 1, 1) := by decide +kernel
theorem dX7_findsAbove_66 : decode cX7_findsAbove 66 = .ok (.bastore, 1) := by decide +kernel
theorem dX7_findsAbove_67 : decode cX7_findsAbove 67 = .ok (.iinc 3 (-1), 3) := by decide +kernel
theorem dX7_findsAbove_70 : decode cX7_findsAbove 70 = .ok (.goto (-41), 3) := by decide +kernel
theorem dX7_findsAbove_73 : decode cX7_findsAbove 73 = .ok (.return_, 1) := by decide +kernel
theorem dX7_isAbove_0 : decode cX7_isAbove 0 = .ok (.aload_n 0, 1) := by decide +kernel
theorem dX7_isAbove_1 : decode cX7_isAbove 1 = .ok (.iload_n 2, 1) := by decide +kernel
theorem dX7_isAbove_2 : decode cX7_isAbove 2 = .ok (.aload_n 0, 1) := by decide +kernel
theorem dX7_isAbove_3 : decode cX7_isAbove 3 = .ok (.getfield 65, 3) := by decide +kernel
theorem dX7_isAbove_6 : decode cX7_isAbove 6 = .ok (.invokevirtual 120, 3) := by decide +kernel
theorem dX7_isAbove_9 : decode cX7_isAbove 9 = .ok (.aload_n 0, 1) := by decide +kernel
theorem dX7_isAbove_10 : decode cX7_isAbove 10 = .ok (.getfield 65, 3) := by decide +kernel
theorem dX7_isAbove_13 : decode cX7_isAbove 13 = .ok (.iload_n 1, 1) := by decide +kernel
theorem dX7_isAbove_14 : decode cX7_isAbove 14 = .ok (.baload, 1) := by decide +kernel
theorem dX7_isAbove_15 : decode cX7_isAbove 15 = .ok (.ireturn, 1) := by decide +kernel
theorem dX7_findsBases_0 : decode cX7_findsBases 0 = .ok (.aload_n 0, 1) := by decide +kernel
theorem dX7_findsBases_1 : decode cX7_findsBases 1 = .ok (.iload_n 1, 1) := by decide +kernel
theorem dX7_findsBases_2 : decode cX7_findsBases 2 = .ok (.aload_n 0, 1) := by decide +kernel
theorem dX7_findsBases_3 : decode cX7_findsBases 3 = .ok (.getfield 65, 3) := by decide +kernel
theorem dX7_findsBases_6 : decode cX7_findsBases 6 = .ok (.invokevirtual 120, 3) := by decide +kernel
theorem dX7_findsBases_9 : decode cX7_findsBases 9 = .ok (.aload_n 0, 1) := by decide +kernel
theorem dX7_findsBases_10 : decode cX7_findsBases 10 = .ok (.iload_n 2, 1) := by decide +kernel
theorem dX7_findsBases_11 : decode cX7_findsBases 11 = .ok (.aload_n 0, 1) := by decide +kernel
theorem dX7_findsBases_12 : decode cX7_findsBases 12 = .ok (.getfield 68, 3) := by decide +kernel
theorem dX7_findsBases_15 : decode cX7_findsBases 15 = .ok (.invokevirtual 120, 3) := by decide +kernel
theorem dX7_findsBases_18 : decode cX7_findsBases 18 = .ok (.iconst 0, 1) := by decide +kernel
theorem dX7_findsBases_19 : decode cX7_findsBases 19 = .ok (.istore_n 3, 1) := by decide +kernel
theorem dX7_findsBases_20 : decode cX7_findsBases 20 = .ok (.iload_n 3, 1) := by decide +kernel
theorem dX7_findsBases_21 : decode cX7_findsBases 21 = .ok (.bipush 60, 2) := by decide +kernel
theorem dX7_findsBases_23 : decode cX7_findsBases 23 = .ok (.if_icmp .ge 38, 3) := by decide +kernel
theorem dX7_findsBases_26 : decode cX7_findsBases 26 = .ok (.aload_n 0, 1) := by decide +kernel
theorem dX7_findsBases_27 : decode cX7_findsBases 27 = .ok (.getfield 49, 3) := by decide +kernel
theorem dX7_findsBases_30 : decode cX7_findsBases 30 = .ok (.iload_n 3, 1) := by decide +kernel
theorem dX7_findsBases_31 : decode cX7_findsBases 31 = .ok (.aload_n 0, 1) := by decide +kernel
theorem dX7_findsBases_32 : decode cX7_findsBases 32 = .ok (.getfield 65, 3) := by decide +kernel
theorem dX7_findsBases_35 : decode cX7_findsBases 35 = .ok (.iload_n 3, 1) := by decide +kernel
theorem dX7_findsBases_36 : decode cX7_findsBases 36 = .ok (.baload, 1) := by decide +kernel
theorem dX7_findsBases_37 : decode cX7_findsBases 37 = .ok (.ifCond .eq 16, 3) := by decide +kernel
theorem dX7_findsBases_40 : decode cX7_findsBases 40 = .ok (.aload_n 0, 1) := by decide +kernel
theorem dX7_findsBases_41 : decode cX7_findsBases 41 = .ok (.getfield 68, 3) := by decide +kernel
theorem dX7_findsBases_44 : decode cX7_findsBases 44 = .ok (.iload_n 3, 1) := by decide +kernel
theorem dX7_findsBases_45 : decode cX7_findsBases 45 = .ok (.baload, 1) := by decide +kernel
theorem dX7_findsBases_46 : decode cX7_findsBases 46 = .ok (.ifCond .eq 7, 3) := by decide +kernel
theorem dX7_findsBases_49 : decode cX7_findsBases 49 = .ok (.iconst 1, 1) := by decide +kernel
theorem dX7_findsBases_50 : decode cX7_findsBases 50 = .ok (.goto 4, 3) := by decide +kernel
theorem dX7_findsBases_53 : decode cX7_findsBases 53 = .ok (.iconst 0, 1) := by decide +kernel
theorem dX7_findsBases_54 : decode cX7_findsBases 54 = .ok (.bastore, 1) := by decide +kernel
theorem dX7_findsBases_55 : decode cX7_findsBases 55 = .ok (.iinc 3 1, 3) := by decide +kernel
theorem dX7_findsBases_58 : decode cX7_findsBases 58 = .ok (.goto (-38), 3) := by decide +kernel
theorem dX7_findsBases_61 : decode cX7_findsBases 61 = .ok (.iconst 0, 1) := by decide +kernel
theorem dX7_findsBases_62 : decode cX7_findsBases 62 = .ok (.istore_n 3, 1) := by decide +kernel
theorem dX7_findsBases_63 : decode cX7_findsBases 63 = .ok (.iconst 0, 1) := by decide +kernel
theorem dX7_findsBases_64 : decode cX7_findsBases 64 = .ok (.istore 4, 2) := by decide +kernel
theorem dX7_findsBases_66 : decode cX7_findsBases 66 = .ok (.iload 4, 2) := by decide +kernel
theorem dX7_findsBases_68 : decode cX7_findsBases 68 = .ok (.bipush 60, 2) := by decide +kernel
theorem dX7_findsBases_70 : decode cX7_findsBases 70 = .ok (.if_icmp .ge 103, 3) := by decide +kernel
theorem dX7_findsBases_73 : decode cX7_findsBases 73 = .ok (.aload_n 0, 1) := by decide +kernel
theorem dX7_findsBases_74 : decode cX7_findsBases 74 = .ok (.getfield 49, 3) := by decide +kernel
theorem dX7_findsBases_77 : decode cX7_findsBases 77 = .ok (.iload 4, 2) := by decide +kernel
theorem dX7_findsBases_79 : decode cX7_findsBases 79 = .ok (.baload, 1) := by decide +kernel
theorem dX7_findsBases_80 : decode cX7_findsBases 80 = .ok (.istore 5, 2) := by decide +kernel
theorem dX7_findsBases_82 : decode cX7_findsBases 82 = .ok (.iload 4, 2) := by decide +kernel
theorem dX7_findsBases_84 : decode cX7_findsBases 84 = .ok (.iconst 1, 1) := by decide +kernel
theorem dX7_findsBases_85 : decode cX7_findsBases 85 = .ok (.iadd, 1) := by decide +kernel
theorem dX7_findsBases_86 : decode cX7_findsBases 86 = .ok (.istore 6, 2) := by decide +kernel
theorem dX7_findsBases_88 : decode cX7_findsBases 88 = .ok (.iload 6, 2) := by decide +kernel
theorem dX7_findsBases_90 : decode cX7_findsBases 90 = .ok (.aload_n 0, 1) := by decide +kernel
theorem dX7_findsBases_91 : decode cX7_findsBases 91 = .ok (.getfield 21, 3) := by decide +kernel
theorem dX7_findsBases_94 : decode cX7_findsBases 94 = .ok (.if_icmp .ge 51, 3) := by decide +kernel
theorem dX7_findsBases_97 : decode cX7_findsBases 97 = .ok (.iload 5, 2) := by decide +kernel
theorem dX7_findsBases_99 : decode cX7_findsBases 99 = .ok (.ifCond .eq 46, 3) := by decide +kernel
theorem dX7_findsBases_102 : decode cX7_findsBases 102 = .ok (.aload_n 0, 1) := by decide +kernel
theorem dX7_findsBases_103 : decode cX7_findsBases 103 = .ok (.getfield 49, 3) := by decide +kernel
theorem dX7_findsBases_106 : decode cX7_findsBases 106 = .ok (.iload 6, 2) := by decide +kernel
theorem dX7_findsBases_108 : decode cX7_findsBases 108 = .ok (.baload, 1) := by decide +kernel
theorem dX7_findsBases_109 : decode cX7_findsBases 109 = .ok (.ifCond .eq 30, 3) := by decide +kernel
theorem dX7_findsBases_112 : decode cX7_findsBases 112 = .ok (.aload_n 0, 1) := by decide +kernel
theorem dX7_findsBases_113 : decode cX7_findsBases 113 = .ok (.iload 6, 2) := by decide +kernel
theorem dX7_findsBases_115 : decode cX7_findsBases 115 = .ok (.aload_n 0, 1) := by decide +kernel
theorem dX7_findsBases_116 : decode cX7_findsBases 116 = .ok (.getfield 65, 3) := by decide +kernel
theorem dX7_findsBases_119 : decode cX7_findsBases 119 = .ok (.invokevirtual 120, 3) := by decide +kernel
theorem dX7_findsBases_122 : decode cX7_findsBases 122 = .ok (.aload_n 0, 1) := by decide +kernel
theorem dX7_findsBases_123 : decode cX7_findsBases 123 = .ok (.getfield 65, 3) := by decide +kernel
theorem dX7_findsBases_126 : decode cX7_findsBases 126 = .ok (.iload 4, 2) := by decide +kernel
theorem dX7_findsBases_128 : decode cX7_findsBases 128 = .ok (.baload, 1) := by decide +kernel
theorem dX7_findsBases_129 : decode cX7_findsBases 129 = .ok (.ifCond .ne 7, 3) := by decide +kernel
theorem dX7_findsBases_132 : decode cX7_findsBases 132 = .ok (.iconst 1, 1) := by decide +kernel
theorem dX7_findsBases_133 : decode cX7_findsBases 133 = .ok (.goto 4, 3) := by decide +kernel
theorem dX7_findsBases_136 : decode cX7_findsBases 136 = .ok (.iconst 0, 1) := by decide +kernel
theorem dX7_findsBases_137 : decode cX7_findsBases 137 = .ok (.istore 5, 2) := by decide +kernel
theorem dX7_findsBases_139 : decode cX7_findsBases 139 = .ok (.iinc 6 1, 3) := by decide +kernel
theorem dX7_findsBases_142 : decode cX7_findsBases 142 = .ok (.goto (-54), 3) := by decide +kernel
theorem dX7_findsBases_145 : decode cX7_findsBases 145 = .ok (.aload_n 0, 1) := by decide +kernel
theorem dX7_findsBases_146 : decode cX7_findsBases 146 = .ok (.getfield 71, 3) := by decide +kernel
theorem dX7_findsBases_149 : decode cX7_findsBases 149 = .ok (.iload 4, 2) := by decide +kernel
theorem dX7_findsBases_151 : decode cX7_findsBases 151 = .ok (.iload 5, 2) := by decide +kernel
theorem dX7_findsBases_153 : decode cX7_findsBases 153 = .ok (.bastore, 1) := by decide +kernel
theorem dX7_findsBases_154 : decode cX7_findsBases 154 = .ok (.iload_n 3, 1) := by decide +kernel
theorem dX7_findsBases_155 : decode cX7_findsBases 155 = .ok (.iload 5, 2) := by decide +kernel
theorem dX7_findsBases_157 : decode cX7_findsBases 157 = .ok (.ifCond .eq 7, 3) := by decide +kernel
theorem dX7_findsBases_160 : decode cX7_findsBases 160 = .ok (.iconst 1, 1) := by decide +kernel
theorem dX7_findsBases_161 : decode cX7_findsBases 161 = .ok (.goto 4, 3) := by decide +kernel
theorem dX7_findsBases_164 : decode cX7_findsBases 164 = .ok (.iconst 0, 1) := by decide +kernel
theorem dX7_findsBases_165 : decode cX7_findsBases 165 = .ok (.iadd, 1) := by decide +kernel
theorem dX7_findsBases_166 : decode cX7_findsBases 166 = .ok (.istore_n 3, 1) := by decide +kernel
theorem dX7_findsBases_167 : decode cX7_findsBases 167 = .ok (.iinc 4 1, 3) := by decide +kernel
theorem dX7_findsBases_170 : decode cX7_findsBases 170 = .ok (.goto (-104), 3) := by decide +kernel
theorem dX7_findsBases_173 : decode cX7_findsBases 173 = .ok (.iload_n 3, 1) := by decide +kernel
theorem dX7_findsBases_174 : decode cX7_findsBases 174 = .ok (.ireturn, 1) := by decide +kernel
theorem dX7_bestBase_0 : decode cX7_bestBase 0 = .ok (.aload_n 0, 1) := by decide +kernel
theorem dX7_bestBase_1 : decode cX7_bestBase 1 = .ok (.iload_n 1, 1) := by decide +kernel
theorem dX7_bestBase_2 : decode cX7_bestBase 2 = .ok (.iload_n 2, 1) := by decide +kernel
theorem dX7_bestBase_3 : decode cX7_bestBase 3 = .ok (.invokevirtual 124, 3) := by decide +kernel
theorem dX7_bestBase_6 : decode cX7_bestBase 6 = .ok (.pop, 1) := by decide +kernel
theorem dX7_bestBase_7 : decode cX7_bestBase 7 = .ok (.bipush 59, 2) := by decide +kernel
theorem dX7_bestBase_9 : decode cX7_bestBase 9 = .ok (.istore_n 3, 1) := by decide +kernel
theorem dX7_bestBase_10 : decode cX7_bestBase 10 = .ok (.aload_n 0, 1) := by decide +kernel
theorem dX7_bestBase_11 : decode cX7_bestBase 11 = .ok (.getfield 71, 3) := by decide +kernel
theorem dX7_bestBase_14 : decode cX7_bestBase 14 = .ok (.iload_n 3, 1) := by decide +kernel
theorem dX7_bestBase_15 : decode cX7_bestBase 15 = .ok (.baload, 1) := by decide +kernel
theorem dX7_bestBase_16 : decode cX7_bestBase 16 = .ok (.ifCond .ne 9, 3) := by decide +kernel
theorem dX7_bestBase_19 : decode cX7_bestBase 19 = .ok (.iinc 3 (-1), 3) := by decide +kernel
theorem dX7_bestBase_22 : decode cX7_bestBase 22 = .ok (.goto (-12), 3) := by decide +kernel
theorem dX7_bestBase_25 : decode cX7_bestBase 25 = .ok (.iload_n 3, 1) := by decide +kernel
theorem dX7_bestBase_26 : decode cX7_bestBase 26 = .ok (.ireturn, 1) := by decide +kernel
theorem dX7_line_0 : decode cX7_line 0 = .ok (.iload_n 1, 1) := by decide +kernel
theorem dX7_line_1 : decode cX7_line 1 = .ok (.ifCond .ne 11, 3) := by decide +kernel
theorem dX7_line_4 : decode cX7_line 4 = .ok (.iload_n 0, 1) := by decide +kernel
theorem dX7_line_5 : decode cX7_line 5 = .ok (.sipush 1000, 3) := by decide +kernel
theorem dX7_line_8 : decode cX7_line 8 = .ok (.idiv, 1) := by decide +kernel
theorem dX7_line_9 : decode cX7_line 9 = .ok (.goto 37, 3) := by decide +kernel
theorem dX7_line_12 : decode cX7_line 12 = .ok (.iload_n 1, 1) := by decide +kernel
theorem dX7_line_13 : decode cX7_line 13 = .ok (.iconst 1, 1) := by decide +kernel
theorem dX7_line_14 : decode cX7_line 14 = .ok (.if_icmp .ne 13, 3) := by decide +kernel
theorem dX7_line_17 : decode cX7_line 17 = .ok (.iload_n 0, 1) := by decide +kernel
theorem dX7_line_18 : decode cX7_line 18 = .ok (.bipush 100, 2) := by decide +kernel
theorem dX7_line_20 : decode cX7_line 20 = .ok (.idiv, 1) := by decide +kernel
theorem dX7_line_21 : decode cX7_line 21 = .ok (.bipush 10, 2) := by decide +kernel
theorem dX7_line_23 : decode cX7_line 23 = .ok (.irem, 1) := by decide +kernel
theorem dX7_line_24 : decode cX7_line 24 = .ok (.goto 22, 3) := by decide +kernel
theorem dX7_line_27 : decode cX7_line 27 = .ok (.iload_n 1, 1) := by decide +kernel
theorem dX7_line_28 : decode cX7_line 28 = .ok (.iconst 2, 1) := by decide +kernel
theorem dX7_line_29 : decode cX7_line 29 = .ok (.if_icmp .ne 13, 3) := by decide +kernel
theorem dX7_line_32 : decode cX7_line 32 = .ok (.iload_n 0, 1) := by decide +kernel
theorem dX7_line_33 : decode cX7_line 33 = .ok (.bipush 10, 2) := by decide +kernel
theorem dX7_line_35 : decode cX7_line 35 = .ok (.idiv, 1) := by decide +kernel
theorem dX7_line_36 : decode cX7_line 36 = .ok (.bipush 10, 2) := by decide +kernel
theorem dX7_line_38 : decode cX7_line 38 = .ok (.irem, 1) := by decide +kernel
theorem dX7_line_39 : decode cX7_line 39 = .ok (.goto 7, 3) := by decide +kernel
theorem dX7_line_42 : decode cX7_line 42 = .ok (.iload_n 0, 1) := by decide +kernel
theorem dX7_line_43 : decode cX7_line 43 = .ok (.bipush 10, 2) := by decide +kernel
theorem dX7_line_45 : decode cX7_line 45 = .ok (.irem, 1) := by decide +kernel
theorem dX7_line_46 : decode cX7_line 46 = .ok (.ireturn, 1) := by decide +kernel
theorem dX7_likeness_0 : decode cX7_likeness 0 = .ok (.iconst 0, 1) := by decide +kernel
theorem dX7_likeness_1 : decode cX7_likeness 1 = .ok (.istore_n 2, 1) := by decide +kernel
theorem dX7_likeness_2 : decode cX7_likeness 2 = .ok (.iconst 0, 1) := by decide +kernel
theorem dX7_likeness_3 : decode cX7_likeness 3 = .ok (.istore_n 3, 1) := by decide +kernel
theorem dX7_likeness_4 : decode cX7_likeness 4 = .ok (.iload_n 3, 1) := by decide +kernel
theorem dX7_likeness_5 : decode cX7_likeness 5 = .ok (.iconst 4, 1) := by decide +kernel
theorem dX7_likeness_6 : decode cX7_likeness 6 = .ok (.if_icmp .ge 30, 3) := by decide +kernel
theorem dX7_likeness_9 : decode cX7_likeness 9 = .ok (.iload_n 2, 1) := by decide +kernel
theorem dX7_likeness_10 : decode cX7_likeness 10 = .ok (.iload_n 0, 1) := by decide +kernel
theorem dX7_likeness_11 : decode cX7_likeness 11 = .ok (.iload_n 3, 1) := by decide +kernel
theorem dX7_likeness_12 : decode cX7_likeness 12 = .ok (.invokestatic 128, 3) := by decide +kernel
theorem dX7_likeness_15 : decode cX7_likeness 15 = .ok (.iload_n 1, 1) := by decide +kernel
theorem dX7_likeness_16 : decode cX7_likeness 16 = .ok (.iload_n 3, 1) := by decide +kernel
theorem dX7_likeness_17 : decode cX7_likeness 17 = .ok (.invokestatic 128, 3) := by decide +kernel
theorem dX7_likeness_20 : decode cX7_likeness 20 = .ok (.if_icmp .ne 7, 3) := by decide +kernel
theorem dX7_likeness_23 : decode cX7_likeness 23 = .ok (.iconst 1, 1) := by decide +kernel
theorem dX7_likeness_24 : decode cX7_likeness 24 = .ok (.goto 4, 3) := by decide +kernel
theorem dX7_likeness_27 : decode cX7_likeness 27 = .ok (.iconst 0, 1) := by decide +kernel
theorem dX7_likeness_28 : decode cX7_likeness 28 = .ok (.iadd, 1) := by decide +kernel
theorem dX7_likeness_29 : decode cX7_likeness 29 = .ok (.istore_n 2, 1) := by decide +kernel
theorem dX7_likeness_30 : decode cX7_likeness 30 = .ok (.iinc 3 1, 3) := by decide +kernel
theorem dX7_likeness_33 : decode cX7_likeness 33 = .ok (.goto (-29), 3) := by decide +kernel
theorem dX7_likeness_36 : decode cX7_likeness 36 = .ok (.iload_n 2, 1) := by decide +kernel
theorem dX7_likeness_37 : decode cX7_likeness 37 = .ok (.ireturn, 1) := by decide +kernel
theorem dX7_findsMoves_0 : decode cX7_findsMoves 0 = .ok (.iconst 0, 1) := by decide +kernel
theorem dX7_findsMoves_1 : decode cX7_findsMoves 1 = .ok (.istore 4, 2) := by decide +kernel
theorem dX7_findsMoves_3 : decode cX7_findsMoves 3 = .ok (.iload 4, 2) := by decide +kernel
theorem dX7_findsMoves_5 : decode cX7_findsMoves 5 = .ok (.bipush 8, 2) := by decide +kernel
theorem dX7_findsMoves_7 : decode cX7_findsMoves 7 = .ok (.if_icmp .ge 14, 3) := by decide +kernel
theorem dX7_findsMoves_10 : decode cX7_findsMoves 10 = .ok (.aload_n 3, 1) := by decide +kernel
theorem dX7_findsMoves_11 : decode cX7_findsMoves 11 = .ok (.iload 4, 2) := by decide +kernel
theorem dX7_findsMoves_13 : decode cX7_findsMoves 13 = .ok (.iconst (-1), 1) := by decide +kernel
theorem dX7_findsMoves_14 : decode cX7_findsMoves 14 = .ok (.iastore, 1) := by decide +kernel
theorem dX7_findsMoves_15 : decode cX7_findsMoves 15 = .ok (.iinc 4 1, 3) := by decide +kernel
theorem dX7_findsMoves_18 : decode cX7_findsMoves 18 = .ok (.goto (-15), 3) := by decide +kernel
theorem dX7_findsMoves_21 : decode cX7_findsMoves 21 = .ok (.iconst 4, 1) := by decide +kernel
theorem dX7_findsMoves_22 : decode cX7_findsMoves 22 = .ok (.istore 4, 2) := by decide +kernel
theorem dX7_findsMoves_24 : decode cX7_findsMoves 24 = .ok (.iload 4, 2) := by decide +kernel
theorem dX7_findsMoves_26 : decode cX7_findsMoves 26 = .ok (.iconst 3, 1) := by decide +kernel
theorem dX7_findsMoves_27 : decode cX7_findsMoves 27 = .ok (.if_icmp .lt 136, 3) := by decide +kernel
theorem dX7_findsMoves_30 : decode cX7_findsMoves 30 = .ok (.iconst 0, 1) := by decide +kernel
theorem dX7_findsMoves_31 : decode cX7_findsMoves 31 = .ok (.istore 5, 2) := by decide +kernel
theorem dX7_findsMoves_33 : decode cX7_findsMoves 33 = .ok (.iload 5, 2) := by decide +kernel
theorem dX7_findsMoves_35 : decode cX7_findsMoves 35 = .ok (.bipush 8, 2) := by decide +kernel
theorem dX7_findsMoves_37 : decode cX7_findsMoves 37 = .ok (.if_icmp .ge 120, 3) := by decide +kernel
theorem dX7_findsMoves_40 : decode cX7_findsMoves 40 = .ok (.iconst 0, 1) := by decide +kernel
theorem dX7_findsMoves_41 : decode cX7_findsMoves 41 = .ok (.istore 6, 2) := by decide +kernel
theorem dX7_findsMoves_43 : decode cX7_findsMoves 43 = .ok (.iload 6, 2) := by decide +kernel
theorem dX7_findsMoves_45 : decode cX7_findsMoves 45 = .ok (.bipush 8, 2) := by decide +kernel
theorem dX7_findsMoves_47 : decode cX7_findsMoves 47 = .ok (.if_icmp .ge 104, 3) := by decide +kernel
theorem dX7_findsMoves_50 : decode cX7_findsMoves 50 = .ok (.aload_n 1, 1) := by decide +kernel
theorem dX7_findsMoves_51 : decode cX7_findsMoves 51 = .ok (.iload 5, 2) := by decide +kernel
theorem dX7_findsMoves_53 : decode cX7_findsMoves 53 = .ok (.iaload, 1) := by decide +kernel
theorem dX7_findsMoves_54 : decode cX7_findsMoves 54 = .ok (.iconst (-1), 1) := by decide +kernel
theorem dX7_findsMoves_55 : decode cX7_findsMoves 55 = .ok (.if_icmp .eq 23, 3) := by decide +kernel
theorem dX7_findsMoves_58 : decode cX7_findsMoves 58 = .ok (.aload_n 2, 1) := by decide +kernel
theorem dX7_findsMoves_59 : decode cX7_findsMoves 59 = .ok (.iload 5, 2) := by decide +kernel
theorem dX7_findsMoves_61 : decode cX7_findsMoves 61 = .ok (.iaload, 1) := by decide +kernel
theorem dX7_findsMoves_62 : decode cX7_findsMoves 62 = .ok (.iconst (-1), 1) := by decide +kernel
theorem dX7_findsMoves_63 : decode cX7_findsMoves 63 = .ok (.if_icmp .ne 15, 3) := by decide +kernel
theorem dX7_findsMoves_66 : decode cX7_findsMoves 66 = .ok (.aload_n 3, 1) := by decide +kernel
theorem dX7_findsMoves_67 : decode cX7_findsMoves 67 = .ok (.iload 5, 2) := by decide +kernel
theorem dX7_findsMoves_69 : decode cX7_findsMoves 69 = .ok (.iaload, 1) := by decide +kernel
theorem dX7_findsMoves_70 : decode cX7_findsMoves 70 = .ok (.iconst (-1), 1) := by decide +kernel
theorem dX7_findsMoves_71 : decode cX7_findsMoves 71 = .ok (.if_icmp .ne 7, 3) := by decide +kernel
theorem dX7_findsMoves_74 : decode cX7_findsMoves 74 = .ok (.iconst 1, 1) := by decide +kernel
theorem dX7_findsMoves_75 : decode cX7_findsMoves 75 = .ok (.goto 4, 3) := by decide +kernel
theorem dX7_findsMoves_78 : decode cX7_findsMoves 78 = .ok (.iconst 0, 1) := by decide +kernel
theorem dX7_findsMoves_79 : decode cX7_findsMoves 79 = .ok (.istore 7, 2) := by decide +kernel
theorem dX7_findsMoves_81 : decode cX7_findsMoves 81 = .ok (.aload_n 1, 1) := by decide +kernel
theorem dX7_findsMoves_82 : decode cX7_findsMoves 82 = .ok (.iload 6, 2) := by decide +kernel
theorem dX7_findsMoves_84 : decode cX7_findsMoves 84 = .ok (.iaload, 1) := by decide +kernel
theorem dX7_findsMoves_85 : decode cX7_findsMoves 85 = .ok (.iconst (-1), 1) := by decide +kernel
theorem dX7_findsMoves_86 : decode cX7_findsMoves 86 = .ok (.if_icmp .ne 24, 3) := by decide +kernel
theorem dX7_findsMoves_89 : decode cX7_findsMoves 89 = .ok (.aload_n 2, 1) := by decide +kernel
theorem dX7_findsMoves_90 : decode cX7_findsMoves 90 = .ok (.iload 6, 2) := by decide +kernel
theorem dX7_findsMoves_92 : decode cX7_findsMoves 92 = .ok (.iaload, 1) := by decide +kernel
theorem dX7_findsMoves_93 : decode cX7_findsMoves 93 = .ok (.iconst (-1), 1) := by decide +kernel
theorem dX7_findsMoves_94 : decode cX7_findsMoves 94 = .ok (.if_icmp .eq 16, 3) := by decide +kernel
theorem dX7_findsMoves_97 : decode cX7_findsMoves 97 = .ok (.aload_n 3, 1) := by decide +kernel
theorem dX7_findsMoves_98 : decode cX7_findsMoves 98 = .ok (.iload 6, 2) := by decide +kernel
theorem dX7_findsMoves_100 : decode cX7_findsMoves 100 = .ok (.invokestatic 131, 3) := by decide +kernel
theorem dX7_findsMoves_103 : decode cX7_findsMoves 103 = .ok (.ifCond .ne 7, 3) := by decide +kernel
theorem dX7_findsMoves_106 : decode cX7_findsMoves 106 = .ok (.iconst 1, 1) := by decide +kernel
theorem dX7_findsMoves_107 : decode cX7_findsMoves 107 = .ok (.goto 4, 3) := by decide +kernel
theorem dX7_findsMoves_110 : decode cX7_findsMoves 110 = .ok (.iconst 0, 1) := by decide +kernel
theorem dX7_findsMoves_111 : decode cX7_findsMoves 111 = .ok (.istore 8, 2) := by decide +kernel
theorem dX7_findsMoves_113 : decode cX7_findsMoves 113 = .ok (.iload 7, 2) := by decide +kernel
theorem dX7_findsMoves_115 : decode cX7_findsMoves 115 = .ok (.ifCond .eq 30, 3) := by decide +kernel
theorem dX7_findsMoves_118 : decode cX7_findsMoves 118 = .ok (.iload 8, 2) := by decide +kernel
theorem dX7_findsMoves_120 : decode cX7_findsMoves 120 = .ok (.ifCond .eq 25, 3) := by decide +kernel
theorem dX7_findsMoves_123 : decode cX7_findsMoves 123 = .ok (.aload_n 1, 1) := by decide +kernel
theorem dX7_findsMoves_124 : decode cX7_findsMoves 124 = .ok (.iload 5, 2) := by decide +kernel
theorem dX7_findsMoves_126 : decode cX7_findsMoves 126 = .ok (.iaload, 1) := by decide +kernel
theorem dX7_findsMoves_127 : decode cX7_findsMoves 127 = .ok (.aload_n 2, 1) := by decide +kernel
theorem dX7_findsMoves_128 : decode cX7_findsMoves 128 = .ok (.iload 6, 2) := by decide +kernel
theorem dX7_findsMoves_130 : decode cX7_findsMoves 130 = .ok (.iaload, 1) := by decide +kernel
theorem dX7_findsMoves_131 : decode cX7_findsMoves 131 = .ok (.invokestatic 135, 3) := by decide +kernel
theorem dX7_findsMoves_134 : decode cX7_findsMoves 134 = .ok (.iload 4, 2) := by decide +kernel
theorem dX7_findsMoves_136 : decode cX7_findsMoves 136 = .ok (.if_icmp .ne 9, 3) := by decide +kernel
theorem dX7_findsMoves_139 : decode cX7_findsMoves 139 = .ok (.aload_n 3, 1) := by decide +kernel
theorem dX7_findsMoves_140 : decode cX7_findsMoves 140 = .ok (.iload 5, 2) := by decide +kernel
theorem dX7_findsMoves_142 : decode cX7_findsMoves 142 = .ok (.iload 6, 2) := by decide +kernel
theorem dX7_findsMoves_144 : decode cX7_findsMoves 144 = .ok (.iastore, 1) := by decide +kernel
theorem dX7_findsMoves_145 : decode cX7_findsMoves 145 = .ok (.iinc 6 1, 3) := by decide +kernel
theorem dX7_findsMoves_148 : decode cX7_findsMoves 148 = .ok (.goto (-105), 3) := by decide +kernel
theorem dX7_findsMoves_151 : decode cX7_findsMoves 151 = .ok (.iinc 5 1, 3) := by decide +kernel
theorem dX7_findsMoves_154 : decode cX7_findsMoves 154 = .ok (.goto (-121), 3) := by decide +kernel
theorem dX7_findsMoves_157 : decode cX7_findsMoves 157 = .ok (.iinc 4 (-1), 3) := by decide +kernel
theorem dX7_findsMoves_160 : decode cX7_findsMoves 160 = .ok (.goto (-136), 3) := by decide +kernel
theorem dX7_findsMoves_163 : decode cX7_findsMoves 163 = .ok (.return_, 1) := by decide +kernel
theorem dX7_isTarget_0 : decode cX7_isTarget 0 = .ok (.iconst 0, 1) := by decide +kernel
theorem dX7_isTarget_1 : decode cX7_isTarget 1 = .ok (.istore_n 2, 1) := by decide +kernel
theorem dX7_isTarget_2 : decode cX7_isTarget 2 = .ok (.iload_n 2, 1) := by decide +kernel
theorem dX7_isTarget_3 : decode cX7_isTarget 3 = .ok (.bipush 8, 2) := by decide +kernel
theorem dX7_isTarget_5 : decode cX7_isTarget 5 = .ok (.if_icmp .ge 18, 3) := by decide +kernel
theorem dX7_isTarget_8 : decode cX7_isTarget 8 = .ok (.aload_n 0, 1) := by decide +kernel
theorem dX7_isTarget_9 : decode cX7_isTarget 9 = .ok (.iload_n 2, 1) := by decide +kernel
theorem dX7_isTarget_10 : decode cX7_isTarget 10 = .ok (.iaload, 1) := by decide +kernel
theorem dX7_isTarget_11 : decode cX7_isTarget 11 = .ok (.iload_n 1, 1) := by decide +kernel
theorem dX7_isTarget_12 : decode cX7_isTarget 12 = .ok (.if_icmp .ne 5, 3) := by decide +kernel
theorem dX7_isTarget_15 : decode cX7_isTarget 15 = .ok (.iconst 1, 1) := by decide +kernel
theorem dX7_isTarget_16 : decode cX7_isTarget 16 = .ok (.ireturn, 1) := by decide +kernel
theorem dX7_isTarget_17 : decode cX7_isTarget 17 = .ok (.iinc 2 1, 3) := by decide +kernel
theorem dX7_isTarget_20 : decode cX7_isTarget 20 = .ok (.goto (-18), 3) := by decide +kernel
theorem dX7_isTarget_23 : decode cX7_isTarget 23 = .ok (.iconst 0, 1) := by decide +kernel
theorem dX7_isTarget_24 : decode cX7_isTarget 24 = .ok (.ireturn, 1) := by decide +kernel
theorem dX7_placeOf_0 : decode cX7_placeOf 0 = .ok (.aload_n 0, 1) := by decide +kernel
theorem dX7_placeOf_1 : decode cX7_placeOf 1 = .ok (.iload_n 2, 1) := by decide +kernel
theorem dX7_placeOf_2 : decode cX7_placeOf 2 = .ok (.iaload, 1) := by decide +kernel
theorem dX7_placeOf_3 : decode cX7_placeOf 3 = .ok (.iconst (-1), 1) := by decide +kernel
theorem dX7_placeOf_4 : decode cX7_placeOf 4 = .ok (.if_icmp .eq 7, 3) := by decide +kernel
theorem dX7_placeOf_7 : decode cX7_placeOf 7 = .ok (.iload_n 2, 1) := by decide +kernel
theorem dX7_placeOf_8 : decode cX7_placeOf 8 = .ok (.goto 6, 3) := by decide +kernel
theorem dX7_placeOf_11 : decode cX7_placeOf 11 = .ok (.aload_n 1, 1) := by decide +kernel
theorem dX7_placeOf_12 : decode cX7_placeOf 12 = .ok (.iload_n 2, 1) := by decide +kernel
theorem dX7_placeOf_13 : decode cX7_placeOf 13 = .ok (.iaload, 1) := by decide +kernel
theorem dX7_placeOf_14 : decode cX7_placeOf 14 = .ok (.ireturn, 1) := by decide +kernel
theorem dX7_joined_0 : decode cX7_joined 0 = .ok (.iload_n 1, 1) := by decide +kernel
theorem dX7_joined_1 : decode cX7_joined 1 = .ok (.iload_n 2, 1) := by decide +kernel
theorem dX7_joined_2 : decode cX7_joined 2 = .ok (.if_icmp .ne 7, 3) := by decide +kernel
theorem dX7_joined_5 : decode cX7_joined 5 = .ok (.iload_n 1, 1) := by decide +kernel
theorem dX7_joined_6 : decode cX7_joined 6 = .ok (.goto 23, 3) := by decide +kernel
theorem dX7_joined_9 : decode cX7_joined 9 = .ok (.iload_n 1, 1) := by decide +kernel
theorem dX7_joined_10 : decode cX7_joined 10 = .ok (.iload_n 0, 1) := by decide +kernel
theorem dX7_joined_11 : decode cX7_joined 11 = .ok (.if_icmp .ne 7, 3) := by decide +kernel
theorem dX7_joined_14 : decode cX7_joined 14 = .ok (.iload_n 2, 1) := by decide +kernel
theorem dX7_joined_15 : decode cX7_joined 15 = .ok (.goto 14, 3) := by decide +kernel
theorem dX7_joined_18 : decode cX7_joined 18 = .ok (.iload_n 2, 1) := by decide +kernel
theorem dX7_joined_19 : decode cX7_joined 19 = .ok (.iload_n 0, 1) := by decide +kernel
theorem dX7_joined_20 : decode cX7_joined 20 = .ok (.if_icmp .ne 7, 3) := by decide +kernel
theorem dX7_joined_23 : decode cX7_joined 23 = .ok (.iload_n 1, 1) := by decide +kernel
theorem dX7_joined_24 : decode cX7_joined 24 = .ok (.goto 5, 3) := by decide +kernel
theorem dX7_joined_27 : decode cX7_joined 27 = .ok (.bipush (-2), 2) := by decide +kernel
theorem dX7_joined_29 : decode cX7_joined 29 = .ok (.ireturn, 1) := by decide +kernel
theorem dX7_follows_0 : decode cX7_follows 0 = .ok (.aload_n 2, 1) := by decide +kernel
theorem dX7_follows_1 : decode cX7_follows 1 = .ok (.aload_n 0, 1) := by decide +kernel
theorem dX7_follows_2 : decode cX7_follows 2 = .ok (.getfield 31, 3) := by decide +kernel
theorem dX7_follows_5 : decode cX7_follows 5 = .ok (.iload 4, 2) := by decide +kernel
theorem dX7_follows_7 : decode cX7_follows 7 = .ok (.invokestatic 138, 3) := by decide +kernel
theorem dX7_follows_10 : decode cX7_follows 10 = .ok (.istore 5, 2) := by decide +kernel
theorem dX7_follows_12 : decode cX7_follows 12 = .ok (.aload_n 3, 1) := by decide +kernel
theorem dX7_follows_13 : decode cX7_follows 13 = .ok (.aload_n 0, 1) := by decide +kernel
theorem dX7_follows_14 : decode cX7_follows 14 = .ok (.getfield 34, 3) := by decide +kernel
theorem dX7_follows_17 : decode cX7_follows 17 = .ok (.iload 4, 2) := by decide +kernel
theorem dX7_follows_19 : decode cX7_follows 19 = .ok (.invokestatic 138, 3) := by decide +kernel
theorem dX7_follows_22 : decode cX7_follows 22 = .ok (.istore 6, 2) := by decide +kernel
theorem dX7_follows_24 : decode cX7_follows 24 = .ok (.iload 5, 2) := by decide +kernel
theorem dX7_follows_26 : decode cX7_follows 26 = .ok (.iconst (-1), 1) := by decide +kernel
theorem dX7_follows_27 : decode cX7_follows 27 = .ok (.if_icmp .eq 9, 3) := by decide +kernel
theorem dX7_follows_30 : decode cX7_follows 30 = .ok (.iload 6, 2) := by decide +kernel
theorem dX7_follows_32 : decode cX7_follows 32 = .ok (.iconst (-1), 1) := by decide +kernel
theorem dX7_follows_33 : decode cX7_follows 33 = .ok (.if_icmp .ne 88, 3) := by decide +kernel
theorem dX7_follows_36 : decode cX7_follows 36 = .ok (.iload 5, 2) := by decide +kernel
theorem dX7_follows_38 : decode cX7_follows 38 = .ok (.iload 6, 2) := by decide +kernel
theorem dX7_follows_40 : decode cX7_follows 40 = .ok (.if_icmp .ne 7, 3) := by decide +kernel
theorem dX7_follows_43 : decode cX7_follows 43 = .ok (.iconst 1, 1) := by decide +kernel
theorem dX7_follows_44 : decode cX7_follows 44 = .ok (.goto 4, 3) := by decide +kernel
theorem dX7_follows_47 : decode cX7_follows 47 = .ok (.iconst 0, 1) := by decide +kernel
theorem dX7_follows_48 : decode cX7_follows 48 = .ok (.istore 7, 2) := by decide +kernel
theorem dX7_follows_50 : decode cX7_follows 50 = .ok (.iload 5, 2) := by decide +kernel
theorem dX7_follows_52 : decode cX7_follows 52 = .ok (.iload 4, 2) := by decide +kernel
theorem dX7_follows_54 : decode cX7_follows 54 = .ok (.if_icmp .ne 18, 3) := by decide +kernel
theorem dX7_follows_57 : decode cX7_follows 57 = .ok (.aload_n 2, 1) := by decide +kernel
theorem dX7_follows_58 : decode cX7_follows 58 = .ok (.iload 4, 2) := by decide +kernel
theorem dX7_follows_60 : decode cX7_follows 60 = .ok (.iaload, 1) := by decide +kernel
theorem dX7_follows_61 : decode cX7_follows 61 = .ok (.aload_n 1, 1) := by decide +kernel
theorem dX7_follows_62 : decode cX7_follows 62 = .ok (.iload 4, 2) := by decide +kernel
theorem dX7_follows_64 : decode cX7_follows 64 = .ok (.iaload, 1) := by decide +kernel
theorem dX7_follows_65 : decode cX7_follows 65 = .ok (.if_icmp .ne 7, 3) := by decide +kernel
theorem dX7_follows_68 : decode cX7_follows 68 = .ok (.iconst 1, 1) := by decide +kernel
theorem dX7_follows_69 : decode cX7_follows 69 = .ok (.goto 4, 3) := by decide +kernel
theorem dX7_follows_72 : decode cX7_follows 72 = .ok (.iconst 0, 1) := by decide +kernel
theorem dX7_follows_73 : decode cX7_follows 73 = .ok (.istore 8, 2) := by decide +kernel
theorem dX7_follows_75 : decode cX7_follows 75 = .ok (.iload 6, 2) := by decide +kernel
theorem dX7_follows_77 : decode cX7_follows 77 = .ok (.iload 4, 2) := by decide +kernel
theorem dX7_follows_79 : decode cX7_follows 79 = .ok (.if_icmp .ne 18, 3) := by decide +kernel
theorem dX7_follows_82 : decode cX7_follows 82 = .ok (.aload_n 3, 1) := by decide +kernel
theorem dX7_follows_83 : decode cX7_follows 83 = .ok (.iload 4, 2) := by decide +kernel
theorem dX7_follows_85 : decode cX7_follows 85 = .ok (.iaload, 1) := by decide +kernel
theorem dX7_follows_86 : decode cX7_follows 86 = .ok (.aload_n 1, 1) := by decide +kernel
theorem dX7_follows_87 : decode cX7_follows 87 = .ok (.iload 4, 2) := by decide +kernel
theorem dX7_follows_89 : decode cX7_follows 89 = .ok (.iaload, 1) := by decide +kernel
theorem dX7_follows_90 : decode cX7_follows 90 = .ok (.if_icmp .ne 7, 3) := by decide +kernel
theorem dX7_follows_93 : decode cX7_follows 93 = .ok (.iconst 1, 1) := by decide +kernel
theorem dX7_follows_94 : decode cX7_follows 94 = .ok (.goto 4, 3) := by decide +kernel
theorem dX7_follows_97 : decode cX7_follows 97 = .ok (.iconst 0, 1) := by decide +kernel
theorem dX7_follows_98 : decode cX7_follows 98 = .ok (.istore 9, 2) := by decide +kernel
theorem dX7_follows_100 : decode cX7_follows 100 = .ok (.iload 7, 2) := by decide +kernel
theorem dX7_follows_102 : decode cX7_follows 102 = .ok (.ifCond .ne 13, 3) := by decide +kernel
theorem dX7_follows_105 : decode cX7_follows 105 = .ok (.iload 8, 2) := by decide +kernel
theorem dX7_follows_107 : decode cX7_follows 107 = .ok (.ifCond .ne 8, 3) := by decide +kernel
theorem dX7_follows_110 : decode cX7_follows 110 = .ok (.iload 9, 2) := by decide +kernel
theorem dX7_follows_112 : decode cX7_follows 112 = .ok (.ifCond .eq 7, 3) := by decide +kernel
theorem dX7_follows_115 : decode cX7_follows 115 = .ok (.iconst 1, 1) := by decide +kernel
theorem dX7_follows_116 : decode cX7_follows 116 = .ok (.goto 4, 3) := by decide +kernel
theorem dX7_follows_119 : decode cX7_follows 119 = .ok (.iconst 0, 1) := by decide +kernel
theorem dX7_follows_120 : decode cX7_follows 120 = .ok (.ireturn, 1) := by decide +kernel
theorem dX7_follows_121 : decode cX7_follows 121 = .ok (.iload 4, 2) := by decide +kernel
theorem dX7_follows_123 : decode cX7_follows 123 = .ok (.iload 5, 2) := by decide +kernel
theorem dX7_follows_125 : decode cX7_follows 125 = .ok (.iload 6, 2) := by decide +kernel
theorem dX7_follows_127 : decode cX7_follows 127 = .ok (.invokestatic 142, 3) := by decide +kernel
theorem dX7_follows_130 : decode cX7_follows 130 = .ok (.istore 7, 2) := by decide +kernel
theorem dX7_follows_132 : decode cX7_follows 132 = .ok (.iconst 0, 1) := by decide +kernel
theorem dX7_follows_133 : decode cX7_follows 133 = .ok (.istore 8, 2) := by decide +kernel
theorem dX7_follows_135 : decode cX7_follows 135 = .ok (.iload 7, 2) := by decide +kernel
theorem dX7_follows_137 : decode cX7_follows 137 = .ok (.ifCond .lt 7, 3) := by decide +kernel
theorem dX7_follows_140 : decode cX7_follows 140 = .ok (.iconst 1, 1) := by decide +kernel
theorem dX7_follows_141 : decode cX7_follows 141 = .ok (.goto 4, 3) := by decide +kernel
theorem dX7_follows_144 : decode cX7_follows 144 = .ok (.iconst 0, 1) := by decide +kernel
theorem dX7_follows_145 : decode cX7_follows 145 = .ok (.istore 9, 2) := by decide +kernel
theorem dX7_follows_147 : decode cX7_follows 147 = .ok (.iconst 0, 1) := by decide +kernel
theorem dX7_follows_148 : decode cX7_follows 148 = .ok (.istore 10, 2) := by decide +kernel
theorem dX7_follows_150 : decode cX7_follows 150 = .ok (.iload 10, 2) := by decide +kernel
theorem dX7_follows_152 : decode cX7_follows 152 = .ok (.iconst 4, 1) := by decide +kernel
theorem dX7_follows_153 : decode cX7_follows 153 = .ok (.if_icmp .ge 68, 3) := by decide +kernel
theorem dX7_follows_156 : decode cX7_follows 156 = .ok (.aload_n 1, 1) := by decide +kernel
theorem dX7_follows_157 : decode cX7_follows 157 = .ok (.iload 4, 2) := by decide +kernel
theorem dX7_follows_159 : decode cX7_follows 159 = .ok (.iaload, 1) := by decide +kernel
theorem dX7_follows_160 : decode cX7_follows 160 = .ok (.iload 10, 2) := by decide +kernel
theorem dX7_follows_162 : decode cX7_follows 162 = .ok (.invokestatic 128, 3) := by decide +kernel
theorem dX7_follows_165 : decode cX7_follows 165 = .ok (.aload_n 2, 1) := by decide +kernel
theorem dX7_follows_166 : decode cX7_follows 166 = .ok (.iload 5, 2) := by decide +kernel
theorem dX7_follows_168 : decode cX7_follows 168 = .ok (.iaload, 1) := by decide +kernel
theorem dX7_follows_169 : decode cX7_follows 169 = .ok (.iload 10, 2) := by decide +kernel
theorem dX7_follows_171 : decode cX7_follows 171 = .ok (.invokestatic 128, 3) := by decide +kernel
theorem dX7_follows_174 : decode cX7_follows 174 = .ok (.aload_n 3, 1) := by decide +kernel
theorem dX7_follows_175 : decode cX7_follows 175 = .ok (.iload 6, 2) := by decide +kernel
theorem dX7_follows_177 : decode cX7_follows 177 = .ok (.iaload, 1) := by decide +kernel
theorem dX7_follows_178 : decode cX7_follows 178 = .ok (.iload 10, 2) := by decide +kernel
theorem dX7_follows_180 : decode cX7_follows 180 = .ok (.invokestatic 128, 3) := by decide +kernel
theorem dX7_follows_183 : decode cX7_follows 183 = .ok (.invokestatic 142, 3) := by decide +kernel
theorem dX7_follows_186 : decode cX7_follows 186 = .ok (.istore 11, 2) := by decide +kernel
theorem dX7_follows_188 : decode cX7_follows 188 = .ok (.iload 9, 2) := by decide +kernel
theorem dX7_follows_190 : decode cX7_follows 190 = .ok (.ifCond .eq 12, 3) := by decide +kernel
theorem dX7_follows_193 : decode cX7_follows 193 = .ok (.iload 11, 2) := by decide +kernel
theorem dX7_follows_195 : decode cX7_follows 195 = .ok (.ifCond .lt 7, 3) := by decide +kernel
theorem dX7_follows_198 : decode cX7_follows 198 = .ok (.iconst 1, 1) := by decide +kernel
theorem dX7_follows_199 : decode cX7_follows 199 = .ok (.goto 4, 3) := by decide +kernel
theorem dX7_follows_202 : decode cX7_follows 202 = .ok (.iconst 0, 1) := by decide +kernel
theorem dX7_follows_203 : decode cX7_follows 203 = .ok (.istore 9, 2) := by decide +kernel
theorem dX7_follows_205 : decode cX7_follows 205 = .ok (.bipush 10, 2) := by decide +kernel
theorem dX7_follows_207 : decode cX7_follows 207 = .ok (.iload 8, 2) := by decide +kernel
theorem dX7_follows_209 : decode cX7_follows 209 = .ok (.imul, 1) := by decide +kernel
theorem dX7_follows_210 : decode cX7_follows 210 = .ok (.iload 11, 2) := by decide +kernel
theorem dX7_follows_212 : decode cX7_follows 212 = .ok (.iadd, 1) := by decide +kernel
theorem dX7_follows_213 : decode cX7_follows 213 = .ok (.istore 8, 2) := by decide +kernel
theorem dX7_follows_215 : decode cX7_follows 215 = .ok (.iinc 10 1, 3) := by decide +kernel
theorem dX7_follows_218 : decode cX7_follows 218 = .ok (.goto (-68), 3) := by decide +kernel
theorem dX7_follows_221 : decode cX7_follows 221 = .ok (.iload 9, 2) := by decide +kernel
theorem dX7_follows_223 : decode cX7_follows 223 = .ok (.ifCond .eq 11, 3) := by decide +kernel
theorem dX7_follows_226 : decode cX7_follows 226 = .ok (.aload_n 0, 1) := by decide +kernel
theorem dX7_follows_227 : decode cX7_follows 227 = .ok (.iload 7, 2) := by decide +kernel
theorem dX7_follows_229 : decode cX7_follows 229 = .ok (.iload 8, 2) := by decide +kernel
theorem dX7_follows_231 : decode cX7_follows 231 = .ok (.invokevirtual 146, 3) := by decide +kernel
theorem dX7_follows_234 : decode cX7_follows 234 = .ok (.iload 9, 2) := by decide +kernel
theorem dX7_follows_236 : decode cX7_follows 236 = .ok (.ireturn, 1) := by decide +kernel
theorem dX7_comes_0 : decode cX7_comes 0 = .ok (.aload_n 0, 1) := by decide +kernel
theorem dX7_comes_1 : decode cX7_comes 1 = .ok (.getfield 37, 3) := by decide +kernel
theorem dX7_comes_4 : decode cX7_comes 4 = .ok (.iload_n 1, 1) := by decide +kernel
theorem dX7_comes_5 : decode cX7_comes 5 = .ok (.iload_n 2, 1) := by decide +kernel
theorem dX7_comes_6 : decode cX7_comes 6 = .ok (.iastore, 1) := by decide +kernel
theorem dX7_comes_7 : decode cX7_comes 7 = .ok (.aload_n 0, 1) := by decide +kernel
theorem dX7_comes_8 : decode cX7_comes 8 = .ok (.getfield 40, 3) := by decide +kernel
theorem dX7_comes_11 : decode cX7_comes 11 = .ok (.iload_n 1, 1) := by decide +kernel
theorem dX7_comes_12 : decode cX7_comes 12 = .ok (.dup2, 1) := by decide +kernel
theorem dX7_comes_13 : decode cX7_comes 13 = .ok (.iaload, 1) := by decide +kernel
theorem dX7_comes_14 : decode cX7_comes 14 = .ok (.iconst 1, 1) := by decide +kernel
theorem dX7_comes_15 : decode cX7_comes 15 = .ok (.iadd, 1) := by decide +kernel
theorem dX7_comes_16 : decode cX7_comes 16 = .ok (.iastore, 1) := by decide +kernel
theorem dX7_comes_17 : decode cX7_comes 17 = .ok (.return_, 1) := by decide +kernel
theorem dX7_isNew_0 : decode cX7_isNew 0 = .ok (.aload_n 0, 1) := by decide +kernel
theorem dX7_isNew_1 : decode cX7_isNew 1 = .ok (.iload_n 3, 1) := by decide +kernel
theorem dX7_isNew_2 : decode cX7_isNew 2 = .ok (.iaload, 1) := by decide +kernel
theorem dX7_isNew_3 : decode cX7_isNew 3 = .ok (.iconst (-1), 1) := by decide +kernel
theorem dX7_isNew_4 : decode cX7_isNew 4 = .ok (.if_icmp .ne 22, 3) := by decide +kernel
theorem dX7_isNew_7 : decode cX7_isNew 7 = .ok (.aload_n 1, 1) := by decide +kernel
theorem dX7_isNew_8 : decode cX7_isNew 8 = .ok (.iload_n 3, 1) := by decide +kernel
theorem dX7_isNew_9 : decode cX7_isNew 9 = .ok (.iaload, 1) := by decide +kernel
theorem dX7_isNew_10 : decode cX7_isNew 10 = .ok (.iconst (-1), 1) := by decide +kernel
theorem dX7_isNew_11 : decode cX7_isNew 11 = .ok (.if_icmp .eq 15, 3) := by decide +kernel
theorem dX7_isNew_14 : decode cX7_isNew 14 = .ok (.aload_n 2, 1) := by decide +kernel
theorem dX7_isNew_15 : decode cX7_isNew 15 = .ok (.iload_n 3, 1) := by decide +kernel
theorem dX7_isNew_16 : decode cX7_isNew 16 = .ok (.invokestatic 131, 3) := by decide +kernel
theorem dX7_isNew_19 : decode cX7_isNew 19 = .ok (.ifCond .ne 7, 3) := by decide +kernel
theorem dX7_isNew_22 : decode cX7_isNew 22 = .ok (.iconst 1, 1) := by decide +kernel
theorem dX7_isNew_23 : decode cX7_isNew 23 = .ok (.goto 4, 3) := by decide +kernel
theorem dX7_isNew_26 : decode cX7_isNew 26 = .ok (.iconst 0, 1) := by decide +kernel
theorem dX7_isNew_27 : decode cX7_isNew 27 = .ok (.ireturn, 1) := by decide +kernel
theorem dX7_merges_0 : decode cX7_merges 0 = .ok (.aload_n 0, 1) := by decide +kernel
theorem dX7_merges_1 : decode cX7_merges 1 = .ok (.aload_n 1, 1) := by decide +kernel
theorem dX7_merges_2 : decode cX7_merges 2 = .ok (.aload_n 2, 1) := by decide +kernel
theorem dX7_merges_3 : decode cX7_merges 3 = .ok (.aload_n 0, 1) := by decide +kernel
theorem dX7_merges_4 : decode cX7_merges 4 = .ok (.getfield 31, 3) := by decide +kernel
theorem dX7_merges_7 : decode cX7_merges 7 = .ok (.invokevirtual 150, 3) := by decide +kernel
theorem dX7_merges_10 : decode cX7_merges 10 = .ok (.aload_n 0, 1) := by decide +kernel
theorem dX7_merges_11 : decode cX7_merges 11 = .ok (.aload_n 1, 1) := by decide +kernel
theorem dX7_merges_12 : decode cX7_merges 12 = .ok (.aload_n 3, 1) := by decide +kernel
theorem dX7_merges_13 : decode cX7_merges 13 = .ok (.aload_n 0, 1) := by decide +kernel
theorem dX7_merges_14 : decode cX7_merges 14 = .ok (.getfield 34, 3) := by decide +kernel
theorem dX7_merges_17 : decode cX7_merges 17 = .ok (.invokevirtual 150, 3) := by decide +kernel
theorem dX7_merges_20 : decode cX7_merges 20 = .ok (.aload_n 0, 1) := by decide +kernel
theorem dX7_merges_21 : decode cX7_merges 21 = .ok (.iconst 0, 1) := by decide +kernel
theorem dX7_merges_22 : decode cX7_merges 22 = .ok (.putfield 154, 3) := by decide +kernel
theorem dX7_merges_25 : decode cX7_merges 25 = .ok (.iconst 0, 1) := by decide +kernel
theorem dX7_merges_26 : decode cX7_merges 26 = .ok (.istore 4, 2) := by decide +kernel
theorem dX7_merges_28 : decode cX7_merges 28 = .ok (.iload 4, 2) := by decide +kernel
theorem dX7_merges_30 : decode cX7_merges 30 = .ok (.bipush 8, 2) := by decide +kernel
theorem dX7_merges_32 : decode cX7_merges 32 = .ok (.if_icmp .ge 25, 3) := by decide +kernel
theorem dX7_merges_35 : decode cX7_merges 35 = .ok (.aload_n 0, 1) := by decide +kernel
theorem dX7_merges_36 : decode cX7_merges 36 = .ok (.getfield 37, 3) := by decide +kernel
theorem dX7_merges_39 : decode cX7_merges 39 = .ok (.iload 4, 2) := by decide +kernel
theorem dX7_merges_41 : decode cX7_merges 41 = .ok (.iconst (-1), 1) := by decide +kernel
theorem dX7_merges_42 : decode cX7_merges 42 = .ok (.iastore, 1) := by decide +kernel
theorem dX7_merges_43 : decode cX7_merges 43 = .ok (.aload_n 0, 1) := by decide +kernel
theorem dX7_merges_44 : decode cX7_merges 44 = .ok (.getfield 40, 3) := by decide +kernel
theorem dX7_merges_47 : decode cX7_merges 47 = .ok (.iload 4, 2) := by decide +kernel
theorem dX7_merges_49 : decode cX7_merges 49 = .ok (.iconst 0, 1) := by decide +kernel
theorem dX7_merges_50 : decode cX7_merges 50 = .ok (.iastore, 1) := by decide +kernel
theorem dX7_merges_51 : decode cX7_merges 51 = .ok (.iinc 4 1, 3) := by decide +kernel
theorem dX7_merges_54 : decode cX7_merges 54 = .ok (.goto (-26), 3) := by decide +kernel
theorem dX7_merges_57 : decode cX7_merges 57 = .ok (.iconst 0, 1) := by decide +kernel
theorem dX7_merges_58 : decode cX7_merges 58 = .ok (.istore 4, 2) := by decide +kernel
theorem dX7_merges_60 : decode cX7_merges 60 = .ok (.iload 4, 2) := by decide +kernel
theorem dX7_merges_62 : decode cX7_merges 62 = .ok (.bipush 8, 2) := by decide +kernel
theorem dX7_merges_64 : decode cX7_merges 64 = .ok (.if_icmp .ge 43, 3) := by decide +kernel
theorem dX7_merges_67 : decode cX7_merges 67 = .ok (.aload_n 0, 1) := by decide +kernel
theorem dX7_merges_68 : decode cX7_merges 68 = .ok (.dup, 1) := by decide +kernel
theorem dX7_merges_69 : decode cX7_merges 69 = .ok (.getfield 154, 3) := by decide +kernel
theorem dX7_merges_72 : decode cX7_merges 72 = .ok (.aload_n 1, 1) := by decide +kernel
theorem dX7_merges_73 : decode cX7_merges 73 = .ok (.iload 4, 2) := by decide +kernel
theorem dX7_merges_75 : decode cX7_merges 75 = .ok (.iaload, 1) := by decide +kernel
theorem dX7_merges_76 : decode cX7_merges 76 = .ok (.iconst (-1), 1) := by decide +kernel
theorem dX7_merges_77 : decode cX7_merges 77 = .ok (.if_icmp .eq 19, 3) := by decide +kernel
theorem dX7_merges_80 : decode cX7_merges 80 = .ok (.aload_n 0, 1) := by decide +kernel
theorem dX7_merges_81 : decode cX7_merges 81 = .ok (.aload_n 1, 1) := by decide +kernel
theorem dX7_merges_82 : decode cX7_merges 82 = .ok (.aload_n 2, 1) := by decide +kernel
theorem dX7_merges_83 : decode cX7_merges 83 = .ok (.aload_n 3, 1) := by decide +kernel
theorem dX7_merges_84 : decode cX7_merges 84 = .ok (.iload 4, 2) := by decide +kernel
theorem dX7_merges_86 : decode cX7_merges 86 = .ok (.invokevirtual 157, 3) := by decide +kernel
theorem dX7_merges_89 : decode cX7_merges 89 = .ok (.ifCond .ne 7, 3) := by decide +kernel
theorem dX7_merges_92 : decode cX7_merges 92 = .ok (.iconst 1, 1) := by decide +kernel
theorem dX7_merges_93 : decode cX7_merges 93 = .ok (.goto 4, 3) := by decide +kernel
theorem dX7_merges_96 : decode cX7_merges 96 = .ok (.iconst 0, 1) := by decide +kernel
theorem dX7_merges_97 : decode cX7_merges 97 = .ok (.iadd, 1) := by decide +kernel
theorem dX7_merges_98 : decode cX7_merges 98 = .ok (.putfield 154, 3) := by decide +kernel
theorem dX7_merges_101 : decode cX7_merges 101 = .ok (.iinc 4 1, 3) := by decide +kernel
theorem dX7_merges_104 : decode cX7_merges 104 = .ok (.goto (-44), 3) := by decide +kernel
theorem dX7_merges_107 : decode cX7_merges 107 = .ok (.iconst 0, 1) := by decide +kernel
theorem dX7_merges_108 : decode cX7_merges 108 = .ok (.istore 4, 2) := by decide +kernel
theorem dX7_merges_110 : decode cX7_merges 110 = .ok (.iload 4, 2) := by decide +kernel
theorem dX7_merges_112 : decode cX7_merges 112 = .ok (.bipush 8, 2) := by decide +kernel
theorem dX7_merges_114 : decode cX7_merges 114 = .ok (.if_icmp .ge 81, 3) := by decide +kernel
theorem dX7_merges_117 : decode cX7_merges 117 = .ok (.aload_n 1, 1) := by decide +kernel
theorem dX7_merges_118 : decode cX7_merges 118 = .ok (.aload_n 2, 1) := by decide +kernel
theorem dX7_merges_119 : decode cX7_merges 119 = .ok (.aload_n 0, 1) := by decide +kernel
theorem dX7_merges_120 : decode cX7_merges 120 = .ok (.getfield 31, 3) := by decide +kernel
theorem dX7_merges_123 : decode cX7_merges 123 = .ok (.iload 4, 2) := by decide +kernel
theorem dX7_merges_125 : decode cX7_merges 125 = .ok (.invokestatic 161, 3) := by decide +kernel
theorem dX7_merges_128 : decode cX7_merges 128 = .ok (.istore 5, 2) := by decide +kernel
theorem dX7_merges_130 : decode cX7_merges 130 = .ok (.aload_n 1, 1) := by decide +kernel
theorem dX7_merges_131 : decode cX7_merges 131 = .ok (.aload_n 3, 1) := by decide +kernel
theorem dX7_merges_132 : decode cX7_merges 132 = .ok (.aload_n 0, 1) := by decide +kernel
theorem dX7_merges_133 : decode cX7_merges 133 = .ok (.getfield 34, 3) := by decide +kernel
theorem dX7_merges_136 : decode cX7_merges 136 = .ok (.iload 4, 2) := by decide +kernel
theorem dX7_merges_138 : decode cX7_merges 138 = .ok (.invokestatic 161, 3) := by decide +kernel
theorem dX7_merges_141 : decode cX7_merges 141 = .ok (.istore 6, 2) := by decide +kernel
theorem dX7_merges_143 : decode cX7_merges 143 = .ok (.iload 5, 2) := by decide +kernel
theorem dX7_merges_145 : decode cX7_merges 145 = .ok (.ifCond .eq 13, 3) := by decide +kernel
theorem dX7_merges_148 : decode cX7_merges 148 = .ok (.aload_n 0, 1) := by decide +kernel
theorem dX7_merges_149 : decode cX7_merges 149 = .ok (.iload 4, 2) := by decide +kernel
theorem dX7_merges_151 : decode cX7_merges 151 = .ok (.aload_n 2, 1) := by decide +kernel
theorem dX7_merges_152 : decode cX7_merges 152 = .ok (.iload 4, 2) := by decide +kernel
theorem dX7_merges_154 : decode cX7_merges 154 = .ok (.iaload, 1) := by decide +kernel
theorem dX7_merges_155 : decode cX7_merges 155 = .ok (.invokevirtual 146, 3) := by decide +kernel
theorem dX7_merges_158 : decode cX7_merges 158 = .ok (.iload 6, 2) := by decide +kernel
theorem dX7_merges_160 : decode cX7_merges 160 = .ok (.ifCond .eq 29, 3) := by decide +kernel
theorem dX7_merges_163 : decode cX7_merges 163 = .ok (.iload 5, 2) := by decide +kernel
theorem dX7_merges_165 : decode cX7_merges 165 = .ok (.ifCond .eq 14, 3) := by decide +kernel
theorem dX7_merges_168 : decode cX7_merges 168 = .ok (.aload_n 2, 1) := by decide +kernel
theorem dX7_merges_169 : decode cX7_merges 169 = .ok (.iload 4, 2) := by decide +kernel
theorem dX7_merges_171 : decode cX7_merges 171 = .ok (.iaload, 1) := by decide +kernel
theorem dX7_merges_172 : decode cX7_merges 172 = .ok (.aload_n 3, 1) := by decide +kernel
theorem dX7_merges_173 : decode cX7_merges 173 = .ok (.iload 4, 2) := by decide +kernel
theorem dX7_merges_175 : decode cX7_merges 175 = .ok (.iaload, 1) := by decide +kernel
theorem dX7_merges_176 : decode cX7_merges 176 = .ok (.if_icmp .eq 13, 3) := by decide +kernel
theorem dX7_merges_179 : decode cX7_merges 179 = .ok (.aload_n 0, 1) := by decide +kernel
theorem dX7_merges_180 : decode cX7_merges 180 = .ok (.iload 4, 2) := by decide +kernel
theorem dX7_merges_182 : decode cX7_merges 182 = .ok (.aload_n 3, 1) := by decide +kernel
theorem dX7_merges_183 : decode cX7_merges 183 = .ok (.iload 4, 2) := by decide +kernel
theorem dX7_merges_185 : decode cX7_merges 185 = .ok (.iaload, 1) := by decide +kernel
theorem dX7_merges_186 : decode cX7_merges 186 = .ok (.invokevirtual 146, 3) := by decide +kernel
theorem dX7_merges_189 : decode cX7_merges 189 = .ok (.iinc 4 1, 3) := by decide +kernel
theorem dX7_merges_192 : decode cX7_merges 192 = .ok (.goto (-82), 3) := by decide +kernel
theorem dX7_merges_195 : decode cX7_merges 195 = .ok (.iconst 0, 1) := by decide +kernel
theorem dX7_merges_196 : decode cX7_merges 196 = .ok (.istore 4, 2) := by decide +kernel
theorem dX7_merges_198 : decode cX7_merges 198 = .ok (.iload 4, 2) := by decide +kernel
theorem dX7_merges_200 : decode cX7_merges 200 = .ok (.bipush 8, 2) := by decide +kernel
theorem dX7_merges_202 : decode cX7_merges 202 = .ok (.if_icmp .ge 34, 3) := by decide +kernel
theorem dX7_merges_205 : decode cX7_merges 205 = .ok (.aload_n 0, 1) := by decide +kernel
theorem dX7_merges_206 : decode cX7_merges 206 = .ok (.dup, 1) := by decide +kernel
theorem dX7_merges_207 : decode cX7_merges 207 = .ok (.getfield 154, 3) := by decide +kernel
theorem dX7_merges_210 : decode cX7_merges 210 = .ok (.aload_n 0, 1) := by decide +kernel
theorem dX7_merges_211 : decode cX7_merges 211 = .ok (.getfield 40, 3) := by decide +kernel
theorem dX7_merges_214 : decode cX7_merges 214 = .ok (.iload 4, 2) := by decide +kernel
theorem dX7_merges_216 : decode cX7_merges 216 = .ok (.iaload, 1) := by decide +kernel
theorem dX7_merges_217 : decode cX7_merges 217 = .ok (.iconst 1, 1) := by decide +kernel
theorem dX7_merges_218 : decode cX7_merges 218 = .ok (.if_icmp .le 7, 3) := by decide +kernel
theorem dX7_merges_221 : decode cX7_merges 221 = .ok (.iconst 1, 1) := by decide +kernel
theorem dX7_merges_222 : decode cX7_merges 222 = .ok (.goto 4, 3) := by decide +kernel
theorem dX7_merges_225 : decode cX7_merges 225 = .ok (.iconst 0, 1) := by decide +kernel
theorem dX7_merges_226 : decode cX7_merges 226 = .ok (.iadd, 1) := by decide +kernel
theorem dX7_merges_227 : decode cX7_merges 227 = .ok (.putfield 154, 3) := by decide +kernel
theorem dX7_merges_230 : decode cX7_merges 230 = .ok (.iinc 4 1, 3) := by decide +kernel
theorem dX7_merges_233 : decode cX7_merges 233 = .ok (.goto (-35), 3) := by decide +kernel
theorem dX7_merges_236 : decode cX7_merges 236 = .ok (.aload_n 0, 1) := by decide +kernel
theorem dX7_merges_237 : decode cX7_merges 237 = .ok (.getfield 154, 3) := by decide +kernel
theorem dX7_merges_240 : decode cX7_merges 240 = .ok (.ireturn, 1) := by decide +kernel
theorem dX7_merge_0 : decode cX7_merge 0 = .ok (.aload_n 0, 1) := by decide +kernel
theorem dX7_merge_1 : decode cX7_merge 1 = .ok (.iload_n 1, 1) := by decide +kernel
theorem dX7_merge_2 : decode cX7_merge 2 = .ok (.invokevirtual 110, 3) := by decide +kernel
theorem dX7_merge_5 : decode cX7_merge 5 = .ok (.ifCond .eq 5, 3) := by decide +kernel
theorem dX7_merge_8 : decode cX7_merge 8 = .ok (.iconst 0, 1) := by decide +kernel
theorem dX7_merge_9 : decode cX7_merge 9 = .ok (.ireturn, 1) := by decide +kernel
theorem dX7_merge_10 : decode cX7_merge 10 = .ok (.aload_n 0, 1) := by decide +kernel
theorem dX7_merge_11 : decode cX7_merge 11 = .ok (.getfield 25, 3) := by decide +kernel
theorem dX7_merge_14 : decode cX7_merge 14 = .ok (.aload_n 0, 1) := by decide +kernel
theorem dX7_merge_15 : decode cX7_merge 15 = .ok (.getfield 95, 3) := by decide +kernel
theorem dX7_merge_18 : decode cX7_merge 18 = .ok (.iaload, 1) := by decide +kernel
theorem dX7_merge_19 : decode cX7_merge 19 = .ok (.istore_n 2, 1) := by decide +kernel
theorem dX7_merge_20 : decode cX7_merge 20 = .ok (.aload_n 0, 1) := by decide +kernel
theorem dX7_merge_21 : decode cX7_merge 21 = .ok (.getfield 25, 3) := by decide +kernel
theorem dX7_merge_24 : decode cX7_merge 24 = .ok (.iload_n 1, 1) := by decide +kernel
theorem dX7_merge_25 : decode cX7_merge 25 = .ok (.iaload, 1) := by decide +kernel
theorem dX7_merge_26 : decode cX7_merge 26 = .ok (.istore_n 3, 1) := by decide +kernel
theorem dX7_merge_27 : decode cX7_merge 27 = .ok (.aload_n 0, 1) := by decide +kernel
theorem dX7_merge_28 : decode cX7_merge 28 = .ok (.invokevirtual 98, 3) := by decide +kernel
theorem dX7_merge_31 : decode cX7_merge 31 = .ok (.ifCond .gt 12, 3) := by decide +kernel
theorem dX7_merge_34 : decode cX7_merge 34 = .ok (.aload_n 0, 1) := by decide +kernel
theorem dX7_merge_35 : decode cX7_merge 35 = .ok (.iload_n 3, 1) := by decide +kernel
theorem dX7_merge_36 : decode cX7_merge 36 = .ok (.iload_n 2, 1) := by decide +kernel
theorem dX7_merge_37 : decode cX7_merge 37 = .ok (.invokevirtual 164, 3) := by decide +kernel
theorem dX7_merge_40 : decode cX7_merge 40 = .ok (.ifCond .eq 9, 3) := by decide +kernel
theorem dX7_merge_43 : decode cX7_merge 43 = .ok (.aload_n 0, 1) := by decide +kernel
theorem dX7_merge_44 : decode cX7_merge 44 = .ok (.iconst 3, 1) := by decide +kernel
theorem dX7_merge_45 : decode cX7_merge 45 = .ok (.invokevirtual 91, 3) := by decide +kernel
theorem dX7_merge_48 : decode cX7_merge 48 = .ok (.ireturn, 1) := by decide +kernel
theorem dX7_merge_49 : decode cX7_merge 49 = .ok (.aload_n 0, 1) := by decide +kernel
theorem dX7_merge_50 : decode cX7_merge 50 = .ok (.iload_n 2, 1) := by decide +kernel
theorem dX7_merge_51 : decode cX7_merge 51 = .ok (.iload_n 3, 1) := by decide +kernel
theorem dX7_merge_52 : decode cX7_merge 52 = .ok (.invokevirtual 164, 3) := by decide +kernel
theorem dX7_merge_55 : decode cX7_merge 55 = .ok (.ifCond .eq 10, 3) := by decide +kernel
theorem dX7_merge_58 : decode cX7_merge 58 = .ok (.aload_n 0, 1) := by decide +kernel
theorem dX7_merge_59 : decode cX7_merge 59 = .ok (.iload_n 3, 1) := by decide +kernel
theorem dX7_merge_60 : decode cX7_merge 60 = .ok (.invokevirtual 113, 3) := by decide +kernel
theorem dX7_merge_63 : decode cX7_merge 63 = .ok (.iload_n 3, 1) := by decide +kernel
theorem dX7_merge_64 : decode cX7_merge 64 = .ok (.ireturn, 1) := by decide +kernel
theorem dX7_merge_65 : decode cX7_merge 65 = .ok (.aload_n 0, 1) := by decide +kernel
theorem dX7_merge_66 : decode cX7_merge 66 = .ok (.aload_n 0, 1) := by decide +kernel
theorem dX7_merge_67 : decode cX7_merge 67 = .ok (.getfield 11, 3) := by decide +kernel
theorem dX7_merge_70 : decode cX7_merge 70 = .ok (.aload_n 0, 1) := by decide +kernel
theorem dX7_merge_71 : decode cX7_merge 71 = .ok (.iload_n 2, 1) := by decide +kernel
theorem dX7_merge_72 : decode cX7_merge 72 = .ok (.iload_n 3, 1) := by decide +kernel
theorem dX7_merge_73 : decode cX7_merge 73 = .ok (.invokevirtual 168, 3) := by decide +kernel
theorem dX7_merge_76 : decode cX7_merge 76 = .ok (.aaload, 1) := by decide +kernel
theorem dX7_merge_77 : decode cX7_merge 77 = .ok (.aload_n 0, 1) := by decide +kernel
theorem dX7_merge_78 : decode cX7_merge 78 = .ok (.getfield 11, 3) := by decide +kernel
theorem dX7_merge_81 : decode cX7_merge 81 = .ok (.iload_n 2, 1) := by decide +kernel
theorem dX7_merge_82 : decode cX7_merge 82 = .ok (.aaload, 1) := by decide +kernel
theorem dX7_merge_83 : decode cX7_merge 83 = .ok (.aload_n 0, 1) := by decide +kernel
theorem dX7_merge_84 : decode cX7_merge 84 = .ok (.getfield 11, 3) := by decide +kernel
theorem dX7_merge_87 : decode cX7_merge 87 = .ok (.iload_n 3, 1) := by decide +kernel
theorem dX7_merge_88 : decode cX7_merge 88 = .ok (.aaload, 1) := by decide +kernel
theorem dX7_merge_89 : decode cX7_merge 89 = .ok (.invokevirtual 171, 3) := by decide +kernel
theorem dX7_merge_92 : decode cX7_merge 92 = .ok (.ifCond .le 9, 3) := by decide +kernel
theorem dX7_merge_95 : decode cX7_merge 95 = .ok (.aload_n 0, 1) := by decide +kernel
theorem dX7_merge_96 : decode cX7_merge 96 = .ok (.iconst 4, 1) := by decide +kernel
theorem dX7_merge_97 : decode cX7_merge 97 = .ok (.invokevirtual 91, 3) := by decide +kernel
theorem dX7_merge_100 : decode cX7_merge 100 = .ok (.ireturn, 1) := by decide +kernel
theorem dX7_merge_101 : decode cX7_merge 101 = .ok (.aload_n 0, 1) := by decide +kernel
theorem dX7_merge_102 : decode cX7_merge 102 = .ok (.aload_n 0, 1) := by decide +kernel
theorem dX7_merge_103 : decode cX7_merge 103 = .ok (.getfield 37, 3) := by decide +kernel
theorem dX7_merge_106 : decode cX7_merge 106 = .ok (.iload_n 2, 1) := by decide +kernel
theorem dX7_merge_107 : decode cX7_merge 107 = .ok (.iload_n 3, 1) := by decide +kernel
theorem dX7_merge_108 : decode cX7_merge 108 = .ok (.invokevirtual 106, 3) := by decide +kernel
theorem dX7_merge_111 : decode cX7_merge 111 = .ok (.istore 4, 2) := by decide +kernel
theorem dX7_merge_113 : decode cX7_merge 113 = .ok (.iload 4, 2) := by decide +kernel
theorem dX7_merge_115 : decode cX7_merge 115 = .ok (.iconst (-1), 1) := by decide +kernel
theorem dX7_merge_116 : decode cX7_merge 116 = .ok (.if_icmp .ne 9, 3) := by decide +kernel
theorem dX7_merge_119 : decode cX7_merge 119 = .ok (.aload_n 0, 1) := by decide +kernel
theorem dX7_merge_120 : decode cX7_merge 120 = .ok (.iconst 4, 1) := by decide +kernel
theorem dX7_merge_121 : decode cX7_merge 121 = .ok (.invokevirtual 91, 3) := by decide +kernel
theorem dX7_merge_124 : decode cX7_merge 124 = .ok (.ireturn, 1) := by decide +kernel
theorem dX7_merge_125 : decode cX7_merge 125 = .ok (.aload_n 0, 1) := by decide +kernel
theorem dX7_merge_126 : decode cX7_merge 126 = .ok (.iload 4, 2) := by decide +kernel
theorem dX7_merge_128 : decode cX7_merge 128 = .ok (.invokevirtual 113, 3) := by decide +kernel
theorem dX7_merge_131 : decode cX7_merge 131 = .ok (.iload 4, 2) := by decide +kernel
theorem dX7_merge_133 : decode cX7_merge 133 = .ok (.ireturn, 1) := by decide +kernel
theorem dX7_putOnto_0 : decode cX7_putOnto 0 = .ok (.aload_n 0, 1) := by decide +kernel
theorem dX7_putOnto_1 : decode cX7_putOnto 1 = .ok (.iload_n 1, 1) := by decide +kernel
theorem dX7_putOnto_2 : decode cX7_putOnto 2 = .ok (.invokevirtual 110, 3) := by decide +kernel
theorem dX7_putOnto_5 : decode cX7_putOnto 5 = .ok (.ifCond .eq 5, 3) := by decide +kernel
theorem dX7_putOnto_8 : decode cX7_putOnto 8 = .ok (.iconst 0, 1) := by decide +kernel
theorem dX7_putOnto_9 : decode cX7_putOnto 9 = .ok (.ireturn, 1) := by decide +kernel
theorem dX7_putOnto_10 : decode cX7_putOnto 10 = .ok (.aload_n 0, 1) := by decide +kernel
theorem dX7_putOnto_11 : decode cX7_putOnto 11 = .ok (.getfield 25, 3) := by decide +kernel
theorem dX7_putOnto_14 : decode cX7_putOnto 14 = .ok (.iload_n 1, 1) := by decide +kernel
theorem dX7_putOnto_15 : decode cX7_putOnto 15 = .ok (.iaload, 1) := by decide +kernel
theorem dX7_putOnto_16 : decode cX7_putOnto 16 = .ok (.istore_n 2, 1) := by decide +kernel
theorem dX7_putOnto_17 : decode cX7_putOnto 17 = .ok (.aload_n 0, 1) := by decide +kernel
theorem dX7_putOnto_18 : decode cX7_putOnto 18 = .ok (.invokevirtual 98, 3) := by decide +kernel
theorem dX7_putOnto_21 : decode cX7_putOnto 21 = .ok (.ifCond .gt 20, 3) := by decide +kernel
theorem dX7_putOnto_24 : decode cX7_putOnto 24 = .ok (.aload_n 0, 1) := by decide +kernel
theorem dX7_putOnto_25 : decode cX7_putOnto 25 = .ok (.aload_n 0, 1) := by decide +kernel
theorem dX7_putOnto_26 : decode cX7_putOnto 26 = .ok (.getfield 25, 3) := by decide +kernel
theorem dX7_putOnto_29 : decode cX7_putOnto 29 = .ok (.aload_n 0, 1) := by decide +kernel
theorem dX7_putOnto_30 : decode cX7_putOnto 30 = .ok (.getfield 95, 3) := by decide +kernel
theorem dX7_putOnto_33 : decode cX7_putOnto 33 = .ok (.iaload, 1) := by decide +kernel
theorem dX7_putOnto_34 : decode cX7_putOnto 34 = .ok (.iload_n 2, 1) := by decide +kernel
theorem dX7_putOnto_35 : decode cX7_putOnto 35 = .ok (.invokevirtual 164, 3) := by decide +kernel
theorem dX7_putOnto_38 : decode cX7_putOnto 38 = .ok (.ifCond .eq 9, 3) := by decide +kernel
theorem dX7_putOnto_41 : decode cX7_putOnto 41 = .ok (.aload_n 0, 1) := by decide +kernel
theorem dX7_putOnto_42 : decode cX7_putOnto 42 = .ok (.iconst 3, 1) := by decide +kernel
theorem dX7_putOnto_43 : decode cX7_putOnto 43 = .ok (.invokevirtual 91, 3) := by decide +kernel
theorem dX7_putOnto_46 : decode cX7_putOnto 46 = .ok (.ireturn, 1) := by decide +kernel
theorem dX7_putOnto_47 : decode cX7_putOnto 47 = .ok (.aload_n 0, 1) := by decide +kernel
theorem dX7_putOnto_48 : decode cX7_putOnto 48 = .ok (.iload_n 2, 1) := by decide +kernel
theorem dX7_putOnto_49 : decode cX7_putOnto 49 = .ok (.aload_n 0, 1) := by decide +kernel
theorem dX7_putOnto_50 : decode cX7_putOnto 50 = .ok (.getfield 65, 3) := by decide +kernel
theorem dX7_putOnto_53 : decode cX7_putOnto 53 = .ok (.invokevirtual 120, 3) := by decide +kernel
theorem dX7_putOnto_56 : decode cX7_putOnto 56 = .ok (.iconst 0, 1) := by decide +kernel
theorem dX7_putOnto_57 : decode cX7_putOnto 57 = .ok (.istore_n 3, 1) := by decide +kernel
theorem dX7_putOnto_58 : decode cX7_putOnto 58 = .ok (.aload_n 0, 1) := by decide +kernel
theorem dX7_putOnto_59 : decode cX7_putOnto 59 = .ok (.getfield 25, 3) := by decide +kernel
theorem dX7_putOnto_62 : decode cX7_putOnto 62 = .ok (.aload_n 0, 1) := by decide +kernel
theorem dX7_putOnto_63 : decode cX7_putOnto 63 = .ok (.getfield 95, 3) := by decide +kernel
theorem dX7_putOnto_66 : decode cX7_putOnto 66 = .ok (.iaload, 1) := by decide +kernel
theorem dX7_putOnto_67 : decode cX7_putOnto 67 = .ok (.istore 4, 2) := by decide +kernel
theorem dX7_putOnto_69 : decode cX7_putOnto 69 = .ok (.aload_n 0, 1) := by decide +kernel
theorem dX7_putOnto_70 : decode cX7_putOnto 70 = .ok (.getfield 65, 3) := by decide +kernel
theorem dX7_putOnto_73 : decode cX7_putOnto 73 = .ok (.iload 4, 2) := by decide +kernel
theorem dX7_putOnto_75 : decode cX7_putOnto 75 = .ok (.baload, 1) := by decide +kernel
theorem dX7_putOnto_76 : decode cX7_putOnto 76 = .ok (.ifCond .ne 26, 3) := by decide +kernel
theorem dX7_putOnto_79 : decode cX7_putOnto 79 = .ok (.aload_n 0, 1) := by decide +kernel
theorem dX7_putOnto_80 : decode cX7_putOnto 80 = .ok (.getfield 43, 3) := by decide +kernel
theorem dX7_putOnto_83 : decode cX7_putOnto 83 = .ok (.iload_n 3, 1) := by decide +kernel
theorem dX7_putOnto_84 : decode cX7_putOnto 84 = .ok (.iload 4, 2) := by decide +kernel
theorem dX7_putOnto_86 : decode cX7_putOnto 86 = .ok (.iastore, 1) := by decide +kernel
theorem dX7_putOnto_87 : decode cX7_putOnto 87 = .ok (.iinc 3 1, 3) := by decide +kernel
theorem dX7_putOnto_90 : decode cX7_putOnto 90 = .ok (.aload_n 0, 1) := by decide +kernel
theorem dX7_putOnto_91 : decode cX7_putOnto 91 = .ok (.getfield 14, 3) := by decide +kernel
theorem dX7_putOnto_94 : decode cX7_putOnto 94 = .ok (.iload 4, 2) := by decide +kernel
theorem dX7_putOnto_96 : decode cX7_putOnto 96 = .ok (.iaload, 1) := by decide +kernel
theorem dX7_putOnto_97 : decode cX7_putOnto 97 = .ok (.istore 4, 2) := by decide +kernel
theorem dX7_putOnto_99 : decode cX7_putOnto 99 = .ok (.goto (-30), 3) := by decide +kernel
theorem dX7_putOnto_102 : decode cX7_putOnto 102 = .ok (.aload_n 0, 1) := by decide +kernel
theorem dX7_putOnto_103 : decode cX7_putOnto 103 = .ok (.getfield 21, 3) := by decide +kernel
theorem dX7_putOnto_106 : decode cX7_putOnto 106 = .ok (.istore 4, 2) := by decide +kernel
theorem dX7_putOnto_108 : decode cX7_putOnto 108 = .ok (.iload_n 2, 1) := by decide +kernel
theorem dX7_putOnto_109 : decode cX7_putOnto 109 = .ok (.istore 5, 2) := by decide +kernel
theorem dX7_putOnto_111 : decode cX7_putOnto 111 = .ok (.iload_n 3, 1) := by decide +kernel
theorem dX7_putOnto_112 : decode cX7_putOnto 112 = .ok (.iconst 1, 1) := by decide +kernel
theorem dX7_putOnto_113 : decode cX7_putOnto 113 = .ok (.isub, 1) := by decide +kernel
theorem dX7_putOnto_114 : decode cX7_putOnto 114 = .ok (.istore 6, 2) := by decide +kernel
theorem dX7_putOnto_116 : decode cX7_putOnto 116 = .ok (.iload 6, 2) := by decide +kernel
theorem dX7_putOnto_118 : decode cX7_putOnto 118 = .ok (.ifCond .lt 42, 3) := by decide +kernel
theorem dX7_putOnto_121 : decode cX7_putOnto 121 = .ok (.aload_n 0, 1) := by decide +kernel
theorem dX7_putOnto_122 : decode cX7_putOnto 122 = .ok (.aload_n 0, 1) := by decide +kernel
theorem dX7_putOnto_123 : decode cX7_putOnto 123 = .ok (.getfield 43, 3) := by decide +kernel
theorem dX7_putOnto_126 : decode cX7_putOnto 126 = .ok (.iload 6, 2) := by decide +kernel
theorem dX7_putOnto_128 : decode cX7_putOnto 128 = .ok (.iaload, 1) := by decide +kernel
theorem dX7_putOnto_129 : decode cX7_putOnto 129 = .ok (.iload 5, 2) := by decide +kernel
theorem dX7_putOnto_131 : decode cX7_putOnto 131 = .ok (.invokevirtual 175, 3) := by decide +kernel
theorem dX7_putOnto_134 : decode cX7_putOnto 134 = .ok (.istore 5, 2) := by decide +kernel
theorem dX7_putOnto_136 : decode cX7_putOnto 136 = .ok (.iload 5, 2) := by decide +kernel
theorem dX7_putOnto_138 : decode cX7_putOnto 138 = .ok (.iconst (-1), 1) := by decide +kernel
theorem dX7_putOnto_139 : decode cX7_putOnto 139 = .ok (.if_icmp .ne 15, 3) := by decide +kernel
theorem dX7_putOnto_142 : decode cX7_putOnto 142 = .ok (.aload_n 0, 1) := by decide +kernel
theorem dX7_putOnto_143 : decode cX7_putOnto 143 = .ok (.iload 4, 2) := by decide +kernel
theorem dX7_putOnto_145 : decode cX7_putOnto 145 = .ok (.putfield 21, 3) := by decide +kernel
theorem dX7_putOnto_148 : decode cX7_putOnto 148 = .ok (.aload_n 0, 1) := by decide +kernel
theorem dX7_putOnto_149 : decode cX7_putOnto 149 = .ok (.iconst 4, 1) := by decide +kernel
theorem dX7_putOnto_150 : decode cX7_putOnto 150 = .ok (.invokevirtual 91, 3) := by decide +kernel
theorem dX7_putOnto_153 : decode cX7_putOnto 153 = .ok (.ireturn, 1) := by decide +kernel
theorem dX7_putOnto_154 : decode cX7_putOnto 154 = .ok (.iinc 6 (-1), 3) := by decide +kernel
theorem dX7_putOnto_157 : decode cX7_putOnto 157 = .ok (.goto (-41), 3) := by decide +kernel
theorem dX7_putOnto_160 : decode cX7_putOnto 160 = .ok (.aload_n 0, 1) := by decide +kernel
theorem dX7_putOnto_161 : decode cX7_putOnto 161 = .ok (.iload 5, 2) := by decide +kernel
theorem dX7_putOnto_163 : decode cX7_putOnto 163 = .ok (.invokevirtual 113, 3) := by decide +kernel
theorem dX7_putOnto_166 : decode cX7_putOnto 166 = .ok (.iload_n 3, 1) := by decide +kernel
theorem dX7_putOnto_167 : decode cX7_putOnto 167 = .ok (.ireturn, 1) := by decide +kernel
theorem dX7_applied_0 : decode cX7_applied 0 = .ok (.iconst 0, 1) := by decide +kernel
theorem dX7_applied_1 : decode cX7_applied 1 = .ok (.istore_n 3, 1) := by decide +kernel
theorem dX7_applied_2 : decode cX7_applied 2 = .ok (.iload_n 3, 1) := by decide +kernel
theorem dX7_applied_3 : decode cX7_applied 3 = .ok (.bipush 8, 2) := by decide +kernel
theorem dX7_applied_5 : decode cX7_applied 5 = .ok (.if_icmp .ge 23, 3) := by decide +kernel
theorem dX7_applied_8 : decode cX7_applied 8 = .ok (.aload_n 0, 1) := by decide +kernel
theorem dX7_applied_9 : decode cX7_applied 9 = .ok (.getfield 46, 3) := by decide +kernel
theorem dX7_applied_12 : decode cX7_applied 12 = .ok (.iload_n 3, 1) := by decide +kernel
theorem dX7_applied_13 : decode cX7_applied 13 = .ok (.aload_n 0, 1) := by decide +kernel
theorem dX7_applied_14 : decode cX7_applied 14 = .ok (.getfield 11, 3) := by decide +kernel
theorem dX7_applied_17 : decode cX7_applied 17 = .ok (.iload_n 2, 1) := by decide +kernel
theorem dX7_applied_18 : decode cX7_applied 18 = .ok (.aaload, 1) := by decide +kernel
theorem dX7_applied_19 : decode cX7_applied 19 = .ok (.iload_n 3, 1) := by decide +kernel
theorem dX7_applied_20 : decode cX7_applied 20 = .ok (.iaload, 1) := by decide +kernel
theorem dX7_applied_21 : decode cX7_applied 21 = .ok (.iastore, 1) := by decide +kernel
theorem dX7_applied_22 : decode cX7_applied 22 = .ok (.iinc 3 1, 3) := by decide +kernel
theorem dX7_applied_25 : decode cX7_applied 25 = .ok (.goto (-23), 3) := by decide +kernel
theorem dX7_applied_28 : decode cX7_applied 28 = .ok (.aload_n 0, 1) := by decide +kernel
theorem dX7_applied_29 : decode cX7_applied 29 = .ok (.aload_n 0, 1) := by decide +kernel
theorem dX7_applied_30 : decode cX7_applied 30 = .ok (.getfield 11, 3) := by decide +kernel
theorem dX7_applied_33 : decode cX7_applied 33 = .ok (.aload_n 0, 1) := by decide +kernel
theorem dX7_applied_34 : decode cX7_applied 34 = .ok (.getfield 14, 3) := by decide +kernel
theorem dX7_applied_37 : decode cX7_applied 37 = .ok (.iload_n 1, 1) := by decide +kernel
theorem dX7_applied_38 : decode cX7_applied 38 = .ok (.iaload, 1) := by decide +kernel
theorem dX7_applied_39 : decode cX7_applied 39 = .ok (.aaload, 1) := by decide +kernel
theorem dX7_applied_40 : decode cX7_applied 40 = .ok (.aload_n 0, 1) := by decide +kernel
theorem dX7_applied_41 : decode cX7_applied 41 = .ok (.getfield 46, 3) := by decide +kernel
theorem dX7_applied_44 : decode cX7_applied 44 = .ok (.aload_n 0, 1) := by decide +kernel
theorem dX7_applied_45 : decode cX7_applied 45 = .ok (.getfield 11, 3) := by decide +kernel
theorem dX7_applied_48 : decode cX7_applied 48 = .ok (.iload_n 1, 1) := by decide +kernel
theorem dX7_applied_49 : decode cX7_applied 49 = .ok (.aaload, 1) := by decide +kernel
theorem dX7_applied_50 : decode cX7_applied 50 = .ok (.invokevirtual 171, 3) := by decide +kernel
theorem dX7_applied_53 : decode cX7_applied 53 = .ok (.ifCond .le 5, 3) := by decide +kernel
theorem dX7_applied_56 : decode cX7_applied 56 = .ok (.iconst (-1), 1) := by decide +kernel
theorem dX7_applied_57 : decode cX7_applied 57 = .ok (.ireturn, 1) := by decide +kernel
theorem dX7_applied_58 : decode cX7_applied 58 = .ok (.aload_n 0, 1) := by decide +kernel
theorem dX7_applied_59 : decode cX7_applied 59 = .ok (.getfield 37, 3) := by decide +kernel
theorem dX7_applied_62 : decode cX7_applied 62 = .ok (.aload_n 0, 1) := by decide +kernel
theorem dX7_applied_63 : decode cX7_applied 63 = .ok (.getfield 46, 3) := by decide +kernel
theorem dX7_applied_66 : decode cX7_applied 66 = .ok (.invokestatic 102, 3) := by decide +kernel
theorem dX7_applied_69 : decode cX7_applied 69 = .ok (.ifCond .eq 7, 3) := by decide +kernel
theorem dX7_applied_72 : decode cX7_applied 72 = .ok (.iload_n 2, 1) := by decide +kernel
theorem dX7_applied_73 : decode cX7_applied 73 = .ok (.goto 13, 3) := by decide +kernel
theorem dX7_applied_76 : decode cX7_applied 76 = .ok (.aload_n 0, 1) := by decide +kernel
theorem dX7_applied_77 : decode cX7_applied 77 = .ok (.aload_n 0, 1) := by decide +kernel
theorem dX7_applied_78 : decode cX7_applied 78 = .ok (.getfield 37, 3) := by decide +kernel
theorem dX7_applied_81 : decode cX7_applied 81 = .ok (.iload_n 2, 1) := by decide +kernel
theorem dX7_applied_82 : decode cX7_applied 82 = .ok (.iconst (-1), 1) := by decide +kernel
theorem dX7_applied_83 : decode cX7_applied 83 = .ok (.invokevirtual 106, 3) := by decide +kernel
theorem dX7_applied_86 : decode cX7_applied 86 = .ok (.ireturn, 1) := by decide +kernel
theorem dX7_currentBranch_0 : decode cX7_currentBranch 0 = .ok (.aload_n 0, 1) := by decide +kernel
theorem dX7_currentBranch_1 : decode cX7_currentBranch 1 = .ok (.iconst 0, 1) := by decide +kernel
theorem dX7_currentBranch_2 : decode cX7_currentBranch 2 = .ok (.putfield 77, 3) := by decide +kernel
theorem dX7_currentBranch_5 : decode cX7_currentBranch 5 = .ok (.aload_n 0, 1) := by decide +kernel
theorem dX7_currentBranch_6 : decode cX7_currentBranch 6 = .ok (.getfield 95, 3) := by decide +kernel
theorem dX7_currentBranch_9 : decode cX7_currentBranch 9 = .ok (.ireturn, 1) := by decide +kernel
theorem dX7_head_0 : decode cX7_head 0 = .ok (.aload_n 0, 1) := by decide +kernel
theorem dX7_head_1 : decode cX7_head 1 = .ok (.iload_n 1, 1) := by decide +kernel
theorem dX7_head_2 : decode cX7_head 2 = .ok (.invokevirtual 110, 3) := by decide +kernel
theorem dX7_head_5 : decode cX7_head 5 = .ok (.ifCond .eq 7, 3) := by decide +kernel
theorem dX7_head_8 : decode cX7_head 8 = .ok (.iconst 0, 1) := by decide +kernel
theorem dX7_head_9 : decode cX7_head 9 = .ok (.goto 9, 3) := by decide +kernel
theorem dX7_head_12 : decode cX7_head 12 = .ok (.aload_n 0, 1) := by decide +kernel
theorem dX7_head_13 : decode cX7_head 13 = .ok (.getfield 25, 3) := by decide +kernel
theorem dX7_head_16 : decode cX7_head 16 = .ok (.iload_n 1, 1) := by decide +kernel
theorem dX7_head_17 : decode cX7_head 17 = .ok (.iaload, 1) := by decide +kernel
theorem dX7_head_18 : decode cX7_head 18 = .ok (.ireturn, 1) := by decide +kernel
theorem dX7_commits_0 : decode cX7_commits 0 = .ok (.aload_n 0, 1) := by decide +kernel
theorem dX7_commits_1 : decode cX7_commits 1 = .ok (.iconst 0, 1) := by decide +kernel
theorem dX7_commits_2 : decode cX7_commits 2 = .ok (.putfield 77, 3) := by decide +kernel
theorem dX7_commits_5 : decode cX7_commits 5 = .ok (.aload_n 0, 1) := by decide +kernel
theorem dX7_commits_6 : decode cX7_commits 6 = .ok (.getfield 21, 3) := by decide +kernel
theorem dX7_commits_9 : decode cX7_commits 9 = .ok (.ireturn, 1) := by decide +kernel
theorem dX7_contentIn_0 : decode cX7_contentIn 0 = .ok (.aload_n 0, 1) := by decide +kernel
theorem dX7_contentIn_1 : decode cX7_contentIn 1 = .ok (.aload_n 0, 1) := by decide +kernel
theorem dX7_contentIn_2 : decode cX7_contentIn 2 = .ok (.iload_n 1, 1) := by decide +kernel
theorem dX7_contentIn_3 : decode cX7_contentIn 3 = .ok (.invokevirtual 117, 3) := by decide +kernel
theorem dX7_contentIn_6 : decode cX7_contentIn 6 = .ok (.ifCond .eq 10, 3) := by decide +kernel
theorem dX7_contentIn_9 : decode cX7_contentIn 9 = .ok (.iload_n 2, 1) := by decide +kernel
theorem dX7_contentIn_10 : decode cX7_contentIn 10 = .ok (.invokestatic 84, 3) := by decide +kernel
theorem dX7_contentIn_13 : decode cX7_contentIn 13 = .ok (.ifCond .ne 7, 3) := by decide +kernel
theorem dX7_contentIn_16 : decode cX7_contentIn 16 = .ok (.iconst 1, 1) := by decide +kernel
theorem dX7_contentIn_17 : decode cX7_contentIn 17 = .ok (.goto 20, 3) := by decide +kernel
theorem dX7_contentIn_20 : decode cX7_contentIn 20 = .ok (.aload_n 0, 1) := by decide +kernel
theorem dX7_contentIn_21 : decode cX7_contentIn 21 = .ok (.getfield 11, 3) := by decide +kernel
theorem dX7_contentIn_24 : decode cX7_contentIn 24 = .ok (.iload_n 1, 1) := by decide +kernel
theorem dX7_contentIn_25 : decode cX7_contentIn 25 = .ok (.aaload, 1) := by decide +kernel
theorem dX7_contentIn_26 : decode cX7_contentIn 26 = .ok (.iload_n 2, 1) := by decide +kernel
theorem dX7_contentIn_27 : decode cX7_contentIn 27 = .ok (.iaload, 1) := by decide +kernel
theorem dX7_contentIn_28 : decode cX7_contentIn 28 = .ok (.iconst (-1), 1) := by decide +kernel
theorem dX7_contentIn_29 : decode cX7_contentIn 29 = .ok (.if_icmp .ne 7, 3) := by decide +kernel
theorem dX7_contentIn_32 : decode cX7_contentIn 32 = .ok (.iconst 2, 1) := by decide +kernel
theorem dX7_contentIn_33 : decode cX7_contentIn 33 = .ok (.goto 4, 3) := by decide +kernel
theorem dX7_contentIn_36 : decode cX7_contentIn 36 = .ok (.iconst 0, 1) := by decide +kernel
theorem dX7_contentIn_37 : decode cX7_contentIn 37 = .ok (.putfield 77, 3) := by decide +kernel
theorem dX7_contentIn_40 : decode cX7_contentIn 40 = .ok (.aload_n 0, 1) := by decide +kernel
theorem dX7_contentIn_41 : decode cX7_contentIn 41 = .ok (.getfield 77, 3) := by decide +kernel
theorem dX7_contentIn_44 : decode cX7_contentIn 44 = .ok (.ifCond .le 7, 3) := by decide +kernel
theorem dX7_contentIn_47 : decode cX7_contentIn 47 = .ok (.iconst 0, 1) := by decide +kernel
theorem dX7_contentIn_48 : decode cX7_contentIn 48 = .ok (.goto 11, 3) := by decide +kernel
theorem dX7_contentIn_51 : decode cX7_contentIn 51 = .ok (.aload_n 0, 1) := by decide +kernel
theorem dX7_contentIn_52 : decode cX7_contentIn 52 = .ok (.getfield 11, 3) := by decide +kernel
theorem dX7_contentIn_55 : decode cX7_contentIn 55 = .ok (.iload_n 1, 1) := by decide +kernel
theorem dX7_contentIn_56 : decode cX7_contentIn 56 = .ok (.aaload, 1) := by decide +kernel
theorem dX7_contentIn_57 : decode cX7_contentIn 57 = .ok (.iload_n 2, 1) := by decide +kernel
theorem dX7_contentIn_58 : decode cX7_contentIn 58 = .ok (.iaload, 1) := by decide +kernel
theorem dX7_contentIn_59 : decode cX7_contentIn 59 = .ok (.ireturn, 1) := by decide +kernel
theorem dX7_parentOf_0 : decode cX7_parentOf 0 = .ok (.aload_n 0, 1) := by decide +kernel
theorem dX7_parentOf_1 : decode cX7_parentOf 1 = .ok (.iload_n 1, 1) := by decide +kernel
theorem dX7_parentOf_2 : decode cX7_parentOf 2 = .ok (.invokevirtual 117, 3) := by decide +kernel
theorem dX7_parentOf_5 : decode cX7_parentOf 5 = .ok (.ifCond .eq 12, 3) := by decide +kernel
theorem dX7_parentOf_8 : decode cX7_parentOf 8 = .ok (.iload_n 2, 1) := by decide +kernel
theorem dX7_parentOf_9 : decode cX7_parentOf 9 = .ok (.iconst 0, 1) := by decide +kernel
theorem dX7_parentOf_10 : decode cX7_parentOf 10 = .ok (.iconst 1, 1) := by decide +kernel
theorem dX7_parentOf_11 : decode cX7_parentOf 11 = .ok (.invokestatic 80, 3) := by decide +kernel
theorem dX7_parentOf_14 : decode cX7_parentOf 14 = .ok (.ifCond .ne 9, 3) := by decide +kernel
theorem dX7_parentOf_17 : decode cX7_parentOf 17 = .ok (.aload_n 0, 1) := by decide +kernel
theorem dX7_parentOf_18 : decode cX7_parentOf 18 = .ok (.iconst 1, 1) := by decide +kernel
theorem dX7_parentOf_19 : decode cX7_parentOf 19 = .ok (.invokevirtual 91, 3) := by decide +kernel
theorem dX7_parentOf_22 : decode cX7_parentOf 22 = .ok (.ireturn, 1) := by decide +kernel
theorem dX7_parentOf_23 : decode cX7_parentOf 23 = .ok (.iload_n 2, 1) := by decide +kernel
theorem dX7_parentOf_24 : decode cX7_parentOf 24 = .ok (.ifCond .ne 12, 3) := by decide +kernel
theorem dX7_parentOf_27 : decode cX7_parentOf 27 = .ok (.aload_n 0, 1) := by decide +kernel
theorem dX7_parentOf_28 : decode cX7_parentOf 28 = .ok (.getfield 14, 3) := by decide +kernel
theorem dX7_parentOf_31 : decode cX7_parentOf 31 = .ok (.iload_n 1, 1) := by decide +kernel
theorem dX7_parentOf_32 : decode cX7_parentOf 32 = .ok (.iaload, 1) := by decide +kernel
theorem dX7_parentOf_33 : decode cX7_parentOf 33 = .ok (.goto 9, 3) := by decide +kernel
theorem dX7_parentOf_36 : decode cX7_parentOf 36 = .ok (.aload_n 0, 1) := by decide +kernel
theorem dX7_parentOf_37 : decode cX7_parentOf 37 = .ok (.getfield 18, 3) := by decide +kernel
theorem dX7_parentOf_40 : decode cX7_parentOf 40 = .ok (.iload_n 1, 1) := by decide +kernel
theorem dX7_parentOf_41 : decode cX7_parentOf 41 = .ok (.iaload, 1) := by decide +kernel
theorem dX7_parentOf_42 : decode cX7_parentOf 42 = .ok (.istore_n 3, 1) := by decide +kernel
theorem dX7_parentOf_43 : decode cX7_parentOf 43 = .ok (.aload_n 0, 1) := by decide +kernel
theorem dX7_parentOf_44 : decode cX7_parentOf 44 = .ok (.iconst 0, 1) := by decide +kernel
theorem dX7_parentOf_45 : decode cX7_parentOf 45 = .ok (.putfield 77, 3) := by decide +kernel
theorem dX7_parentOf_48 : decode cX7_parentOf 48 = .ok (.iload_n 3, 1) := by decide +kernel
theorem dX7_parentOf_49 : decode cX7_parentOf 49 = .ok (.iconst (-1), 1) := by decide +kernel
theorem dX7_parentOf_50 : decode cX7_parentOf 50 = .ok (.if_icmp .ne 11, 3) := by decide +kernel
theorem dX7_parentOf_53 : decode cX7_parentOf 53 = .ok (.aload_n 0, 1) := by decide +kernel
theorem dX7_parentOf_54 : decode cX7_parentOf 54 = .ok (.iconst 2, 1) := by decide +kernel
theorem dX7_parentOf_55 : decode cX7_parentOf 55 = .ok (.invokevirtual 91, 3) := by decide +kernel
theorem dX7_parentOf_58 : decode cX7_parentOf 58 = .ok (.goto 4, 3) := by decide +kernel
theorem dX7_parentOf_61 : decode cX7_parentOf 61 = .ok (.iload_n 3, 1) := by decide +kernel
theorem dX7_parentOf_62 : decode cX7_parentOf 62 = .ok (.ireturn, 1) := by decide +kernel
theorem dX7_findsGenerations_0 : decode cX7_findsGenerations 0 = .ok (.iconst 1, 1) := by decide +kernel
theorem dX7_findsGenerations_1 : decode cX7_findsGenerations 1 = .ok (.istore_n 1, 1) := by decide +kernel
theorem dX7_findsGenerations_2 : decode cX7_findsGenerations 2 = .ok (.iload_n 1, 1) := by decide +kernel
theorem dX7_findsGenerations_3 : decode cX7_findsGenerations 3 = .ok (.aload_n 0, 1) := by decide +kernel
theorem dX7_findsGenerations_4 : decode cX7_findsGenerations 4 = .ok (.getfield 21, 3) := by decide +kernel
theorem dX7_findsGenerations_7 : decode cX7_findsGenerations 7 = .ok (.if_icmp .ge 58, 3) := by decide +kernel
theorem dX7_findsGenerations_10 : decode cX7_findsGenerations 10 = .ok (.aload_n 0, 1) := by decide +kernel
theorem dX7_findsGenerations_11 : decode cX7_findsGenerations 11 = .ok (.getfield 18, 3) := by decide +kernel
theorem dX7_findsGenerations_14 : decode cX7_findsGenerations 14 = .ok (.iload_n 1, 1) := by decide +kernel
theorem dX7_findsGenerations_15 : decode cX7_findsGenerations 15 = .ok (.iaload, 1) := by decide +kernel
theorem dX7_findsGenerations_16 : decode cX7_findsGenerations 16 = .ok (.iconst (-1), 1) := by decide +kernel
theorem dX7_findsGenerations_17 : decode cX7_findsGenerations 17 = .ok (.if_icmp .ne 7, 3) := by decide +kernel
theorem dX7_findsGenerations_20 : decode cX7_findsGenerations 20 = .ok (.iconst 0, 1) := by decide +kernel
theorem dX7_findsGenerations_21 : decode cX7_findsGenerations 21 = .ok (.goto 14, 3) := by decide +kernel
theorem dX7_findsGenerations_24 : decode cX7_findsGenerations 24 = .ok (.aload_n 0, 1) := by decide +kernel
theorem dX7_findsGenerations_25 : decode cX7_findsGenerations 25 = .ok (.getfield 74, 3) := by decide +kernel
theorem dX7_findsGenerations_28 : decode cX7_findsGenerations 28 = .ok (.aload_n 0, 1) := by decide +kernel
theorem dX7_findsGenerations_29 : decode cX7_findsGenerations 29 = .ok (.getfield 18, 3) := by decide +kernel
theorem dX7_findsGenerations_32 : decode cX7_findsGenerations 32 = .ok (.iload_n 1, 1) := by decide +kernel
theorem dX7_findsGenerations_33 : decode cX7_findsGenerations 33 = .ok (.iaload, 1) := by decide +kernel
theorem dX7_findsGenerations_34 : decode cX7_findsGenerations 34 = .ok (.iaload, 1) := by decide +kernel
theorem dX7_findsGenerations_35 : decode cX7_findsGenerations 35 = .ok (.istore_n 2, 1) := by decide +kernel
theorem dX7_findsGenerations_36 : decode cX7_findsGenerations 36 = .ok (.aload_n 0, 1) := by decide +kernel
theorem dX7_findsGenerations_37 : decode cX7_findsGenerations 37 = .ok (.getfield 74, 3) := by decide +kernel
theorem dX7_findsGenerations_40 : decode cX7_findsGenerations 40 = .ok (.iload_n 1, 1) := by decide +kernel
theorem dX7_findsGenerations_41 : decode cX7_findsGenerations 41 = .ok (.iconst 1, 1) := by decide +kernel
theorem dX7_findsGenerations_42 : decode cX7_findsGenerations 42 = .ok (.aload_n 0, 1) := by decide +kernel
theorem dX7_findsGenerations_43 : decode cX7_findsGenerations 43 = .ok (.getfield 74, 3) := by decide +kernel
theorem dX7_findsGenerations_46 : decode cX7_findsGenerations 46 = .ok (.aload_n 0, 1) := by decide +kernel
theorem dX7_findsGenerations_47 : decode cX7_findsGenerations 47 = .ok (.getfield 14, 3) := by decide +kernel
theorem dX7_findsGenerations_50 : decode cX7_findsGenerations 50 = .ok (.iload_n 1, 1) := by decide +kernel
theorem dX7_findsGenerations_51 : decode cX7_findsGenerations 51 = .ok (.iaload, 1) := by decide +kernel
theorem dX7_findsGenerations_52 : decode cX7_findsGenerations 52 = .ok (.iaload, 1) := by decide +kernel
theorem dX7_findsGenerations_53 : decode cX7_findsGenerations 53 = .ok (.iload_n 2, 1) := by decide +kernel
theorem dX7_findsGenerations_54 : decode cX7_findsGenerations 54 = .ok (.invokestatic 178, 3) := by decide +kernel
theorem dX7_findsGenerations_57 : decode cX7_findsGenerations 57 = .ok (.iadd, 1) := by decide +kernel
theorem dX7_findsGenerations_58 : decode cX7_findsGenerations 58 = .ok (.iastore, 1) := by decide +kernel
theorem dX7_findsGenerations_59 : decode cX7_findsGenerations 59 = .ok (.iinc 1 1, 3) := by decide +kernel
theorem dX7_findsGenerations_62 : decode cX7_findsGenerations 62 = .ok (.goto (-60), 3) := by decide +kernel
theorem dX7_findsGenerations_65 : decode cX7_findsGenerations 65 = .ok (.return_, 1) := by decide +kernel
theorem dX7_generation_0 : decode cX7_generation 0 = .ok (.aload_n 0, 1) := by decide +kernel
theorem dX7_generation_1 : decode cX7_generation 1 = .ok (.aload_n 0, 1) := by decide +kernel
theorem dX7_generation_2 : decode cX7_generation 2 = .ok (.iload_n 1, 1) := by decide +kernel
theorem dX7_generation_3 : decode cX7_generation 3 = .ok (.invokevirtual 117, 3) := by decide +kernel
theorem dX7_generation_6 : decode cX7_generation 6 = .ok (.ifCond .eq 7, 3) := by decide +kernel
theorem dX7_generation_9 : decode cX7_generation 9 = .ok (.iconst 0, 1) := by decide +kernel
theorem dX7_generation_10 : decode cX7_generation 10 = .ok (.goto 4, 3) := by decide +kernel
theorem dX7_generation_13 : decode cX7_generation 13 = .ok (.iconst 1, 1) := by decide +kernel
theorem dX7_generation_14 : decode cX7_generation 14 = .ok (.putfield 77, 3) := by decide +kernel
theorem dX7_generation_17 : decode cX7_generation 17 = .ok (.aload_n 0, 1) := by decide +kernel
theorem dX7_generation_18 : decode cX7_generation 18 = .ok (.getfield 77, 3) := by decide +kernel
theorem dX7_generation_21 : decode cX7_generation 21 = .ok (.ifCond .le 5, 3) := by decide +kernel
theorem dX7_generation_24 : decode cX7_generation 24 = .ok (.iconst 0, 1) := by decide +kernel
theorem dX7_generation_25 : decode cX7_generation 25 = .ok (.ireturn, 1) := by decide +kernel
theorem dX7_generation_26 : decode cX7_generation 26 = .ok (.aload_n 0, 1) := by decide +kernel
theorem dX7_generation_27 : decode cX7_generation 27 = .ok (.invokevirtual 183, 3) := by decide +kernel
theorem dX7_generation_30 : decode cX7_generation 30 = .ok (.aload_n 0, 1) := by decide +kernel
theorem dX7_generation_31 : decode cX7_generation 31 = .ok (.getfield 74, 3) := by decide +kernel
theorem dX7_generation_34 : decode cX7_generation 34 = .ok (.iload_n 1, 1) := by decide +kernel
theorem dX7_generation_35 : decode cX7_generation 35 = .ok (.iaload, 1) := by decide +kernel
theorem dX7_generation_36 : decode cX7_generation 36 = .ok (.ireturn, 1) := by decide +kernel
theorem dX7_areCommits_0 : decode cX7_areCommits 0 = .ok (.aload_n 0, 1) := by decide +kernel
theorem dX7_areCommits_1 : decode cX7_areCommits 1 = .ok (.aload_n 0, 1) := by decide +kernel
theorem dX7_areCommits_2 : decode cX7_areCommits 2 = .ok (.iload_n 1, 1) := by decide +kernel
theorem dX7_areCommits_3 : decode cX7_areCommits 3 = .ok (.invokevirtual 117, 3) := by decide +kernel
theorem dX7_areCommits_6 : decode cX7_areCommits 6 = .ok (.ifCond .eq 15, 3) := by decide +kernel
theorem dX7_areCommits_9 : decode cX7_areCommits 9 = .ok (.aload_n 0, 1) := by decide +kernel
theorem dX7_areCommits_10 : decode cX7_areCommits 10 = .ok (.iload_n 2, 1) := by decide +kernel
theorem dX7_areCommits_11 : decode cX7_areCommits 11 = .ok (.invokevirtual 117, 3) := by decide +kernel
theorem dX7_areCommits_14 : decode cX7_areCommits 14 = .ok (.ifCond .eq 7, 3) := by decide +kernel
theorem dX7_areCommits_17 : decode cX7_areCommits 17 = .ok (.iconst 0, 1) := by decide +kernel
theorem dX7_areCommits_18 : decode cX7_areCommits 18 = .ok (.goto 4, 3) := by decide +kernel
theorem dX7_areCommits_21 : decode cX7_areCommits 21 = .ok (.iconst 1, 1) := by decide +kernel
theorem dX7_areCommits_22 : decode cX7_areCommits 22 = .ok (.putfield 77, 3) := by decide +kernel
theorem dX7_areCommits_25 : decode cX7_areCommits 25 = .ok (.aload_n 0, 1) := by decide +kernel
theorem dX7_areCommits_26 : decode cX7_areCommits 26 = .ok (.getfield 77, 3) := by decide +kernel
theorem dX7_areCommits_29 : decode cX7_areCommits 29 = .ok (.ifCond .ne 7, 3) := by decide +kernel
theorem dX7_areCommits_32 : decode cX7_areCommits 32 = .ok (.iconst 1, 1) := by decide +kernel
theorem dX7_areCommits_33 : decode cX7_areCommits 33 = .ok (.goto 4, 3) := by decide +kernel
theorem dX7_areCommits_36 : decode cX7_areCommits 36 = .ok (.iconst 0, 1) := by decide +kernel
theorem dX7_areCommits_37 : decode cX7_areCommits 37 = .ok (.ireturn, 1) := by decide +kernel
theorem dX7_isAncestor_0 : decode cX7_isAncestor 0 = .ok (.aload_n 0, 1) := by decide +kernel
theorem dX7_isAncestor_1 : decode cX7_isAncestor 1 = .ok (.iload_n 1, 1) := by decide +kernel
theorem dX7_isAncestor_2 : decode cX7_isAncestor 2 = .ok (.iload_n 2, 1) := by decide +kernel
theorem dX7_isAncestor_3 : decode cX7_isAncestor 3 = .ok (.invokevirtual 186, 3) := by decide +kernel
theorem dX7_isAncestor_6 : decode cX7_isAncestor 6 = .ok (.ifCond .eq 16, 3) := by decide +kernel
theorem dX7_isAncestor_9 : decode cX7_isAncestor 9 = .ok (.aload_n 0, 1) := by decide +kernel
theorem dX7_isAncestor_10 : decode cX7_isAncestor 10 = .ok (.iload_n 1, 1) := by decide +kernel
theorem dX7_isAncestor_11 : decode cX7_isAncestor 11 = .ok (.iload_n 2, 1) := by decide +kernel
theorem dX7_isAncestor_12 : decode cX7_isAncestor 12 = .ok (.invokevirtual 164, 3) := by decide +kernel
theorem dX7_isAncestor_15 : decode cX7_isAncestor 15 = .ok (.ifCond .eq 7, 3) := by decide +kernel
theorem dX7_isAncestor_18 : decode cX7_isAncestor 18 = .ok (.iconst 1, 1) := by decide +kernel
theorem dX7_isAncestor_19 : decode cX7_isAncestor 19 = .ok (.goto 4, 3) := by decide +kernel
theorem dX7_isAncestor_22 : decode cX7_isAncestor 22 = .ok (.iconst 0, 1) := by decide +kernel
theorem dX7_isAncestor_23 : decode cX7_isAncestor 23 = .ok (.ireturn, 1) := by decide +kernel
theorem dX7_isAncestorByWalking_0 : decode cX7_isAncestorByWalking 0 = .ok (.aload_n 0, 1) := by decide +kernel
theorem dX7_isAncestorByWalking_1 : decode cX7_isAncestorByWalking 1 = .ok (.iload_n 1, 1) := by decide +kernel
theorem dX7_isAncestorByWalking_2 : decode cX7_isAncestorByWalking 2 = .ok (.iload_n 2, 1) := by decide +kernel
theorem dX7_isAncestorByWalking_3 : decode cX7_isAncestorByWalking 3 = .ok (.invokevirtual 189, 3) := by decide +kernel
theorem dX7_isAncestorByWalking_6 : decode cX7_isAncestorByWalking 6 = .ok (.ireturn, 1) := by decide +kernel
theorem dX7_base_0 : decode cX7_base 0 = .ok (.aload_n 0, 1) := by decide +kernel
theorem dX7_base_1 : decode cX7_base 1 = .ok (.iload_n 1, 1) := by decide +kernel
theorem dX7_base_2 : decode cX7_base 2 = .ok (.iload_n 2, 1) := by decide +kernel
theorem dX7_base_3 : decode cX7_base 3 = .ok (.invokevirtual 186, 3) := by decide +kernel
theorem dX7_base_6 : decode cX7_base 6 = .ok (.ifCond .eq 12, 3) := by decide +kernel
theorem dX7_base_9 : decode cX7_base 9 = .ok (.aload_n 0, 1) := by decide +kernel
theorem dX7_base_10 : decode cX7_base 10 = .ok (.iload_n 1, 1) := by decide +kernel
theorem dX7_base_11 : decode cX7_base 11 = .ok (.iload_n 2, 1) := by decide +kernel
theorem dX7_base_12 : decode cX7_base 12 = .ok (.invokevirtual 168, 3) := by decide +kernel
theorem dX7_base_15 : decode cX7_base 15 = .ok (.goto 4, 3) := by decide +kernel
theorem dX7_base_18 : decode cX7_base 18 = .ok (.iconst 0, 1) := by decide +kernel
theorem dX7_base_19 : decode cX7_base 19 = .ok (.ireturn, 1) := by decide +kernel
theorem dX7_baseByWalking_0 : decode cX7_baseByWalking 0 = .ok (.aload_n 0, 1) := by decide +kernel
theorem dX7_baseByWalking_1 : decode cX7_baseByWalking 1 = .ok (.iload_n 1, 1) := by decide +kernel
theorem dX7_baseByWalking_2 : decode cX7_baseByWalking 2 = .ok (.iload_n 2, 1) := by decide +kernel
theorem dX7_baseByWalking_3 : decode cX7_baseByWalking 3 = .ok (.invokevirtual 192, 3) := by decide +kernel
theorem dX7_baseByWalking_6 : decode cX7_baseByWalking 6 = .ok (.ireturn, 1) := by decide +kernel
theorem dX7_bases_0 : decode cX7_bases 0 = .ok (.aload_n 0, 1) := by decide +kernel
theorem dX7_bases_1 : decode cX7_bases 1 = .ok (.iload_n 1, 1) := by decide +kernel
theorem dX7_bases_2 : decode cX7_bases 2 = .ok (.iload_n 2, 1) := by decide +kernel
theorem dX7_bases_3 : decode cX7_bases 3 = .ok (.invokevirtual 186, 3) := by decide +kernel
theorem dX7_bases_6 : decode cX7_bases 6 = .ok (.ifCond .eq 12, 3) := by decide +kernel
theorem dX7_bases_9 : decode cX7_bases 9 = .ok (.aload_n 0, 1) := by decide +kernel
theorem dX7_bases_10 : decode cX7_bases 10 = .ok (.iload_n 1, 1) := by decide +kernel
theorem dX7_bases_11 : decode cX7_bases 11 = .ok (.iload_n 2, 1) := by decide +kernel
theorem dX7_bases_12 : decode cX7_bases 12 = .ok (.invokevirtual 124, 3) := by decide +kernel
theorem dX7_bases_15 : decode cX7_bases 15 = .ok (.goto 4, 3) := by decide +kernel
theorem dX7_bases_18 : decode cX7_bases 18 = .ok (.iconst 0, 1) := by decide +kernel
theorem dX7_bases_19 : decode cX7_bases 19 = .ok (.ireturn, 1) := by decide +kernel
theorem dX7_movedTo_0 : decode cX7_movedTo 0 = .ok (.aload_n 0, 1) := by decide +kernel
theorem dX7_movedTo_1 : decode cX7_movedTo 1 = .ok (.iload_n 1, 1) := by decide +kernel
theorem dX7_movedTo_2 : decode cX7_movedTo 2 = .ok (.iload_n 2, 1) := by decide +kernel
theorem dX7_movedTo_3 : decode cX7_movedTo 3 = .ok (.invokevirtual 186, 3) := by decide +kernel
theorem dX7_movedTo_6 : decode cX7_movedTo 6 = .ok (.ifCond .eq 10, 3) := by decide +kernel
theorem dX7_movedTo_9 : decode cX7_movedTo 9 = .ok (.iload_n 3, 1) := by decide +kernel
theorem dX7_movedTo_10 : decode cX7_movedTo 10 = .ok (.invokestatic 84, 3) := by decide +kernel
theorem dX7_movedTo_13 : decode cX7_movedTo 13 = .ok (.ifCond .ne 9, 3) := by decide +kernel
theorem dX7_movedTo_16 : decode cX7_movedTo 16 = .ok (.aload_n 0, 1) := by decide +kernel
theorem dX7_movedTo_17 : decode cX7_movedTo 17 = .ok (.iconst 1, 1) := by decide +kernel
theorem dX7_movedTo_18 : decode cX7_movedTo 18 = .ok (.invokevirtual 91, 3) := by decide +kernel
theorem dX7_movedTo_21 : decode cX7_movedTo 21 = .ok (.ireturn, 1) := by decide +kernel
theorem dX7_movedTo_22 : decode cX7_movedTo 22 = .ok (.aload_n 0, 1) := by decide +kernel
theorem dX7_movedTo_23 : decode cX7_movedTo 23 = .ok (.aload_n 0, 1) := by decide +kernel
theorem dX7_movedTo_24 : decode cX7_movedTo 24 = .ok (.getfield 11, 3) := by decide +kernel
theorem dX7_movedTo_27 : decode cX7_movedTo 27 = .ok (.iload_n 1, 1) := by decide +kernel
theorem dX7_movedTo_28 : decode cX7_movedTo 28 = .ok (.aaload, 1) := by decide +kernel
theorem dX7_movedTo_29 : decode cX7_movedTo 29 = .ok (.aload_n 0, 1) := by decide +kernel
theorem dX7_movedTo_30 : decode cX7_movedTo 30 = .ok (.getfield 11, 3) := by decide +kernel
theorem dX7_movedTo_33 : decode cX7_movedTo 33 = .ok (.iload_n 2, 1) := by decide +kernel
theorem dX7_movedTo_34 : decode cX7_movedTo 34 = .ok (.aaload, 1) := by decide +kernel
theorem dX7_movedTo_35 : decode cX7_movedTo 35 = .ok (.aload_n 0, 1) := by decide +kernel
theorem dX7_movedTo_36 : decode cX7_movedTo 36 = .ok (.getfield 31, 3) := by decide +kernel
theorem dX7_movedTo_39 : decode cX7_movedTo 39 = .ok (.invokevirtual 150, 3) := by decide +kernel
theorem dX7_movedTo_42 : decode cX7_movedTo 42 = .ok (.aload_n 0, 1) := by decide +kernel
theorem dX7_movedTo_43 : decode cX7_movedTo 43 = .ok (.getfield 31, 3) := by decide +kernel
theorem dX7_movedTo_46 : decode cX7_movedTo 46 = .ok (.iload_n 3, 1) := by decide +kernel
theorem dX7_movedTo_47 : decode cX7_movedTo 47 = .ok (.iaload, 1) := by decide +kernel
theorem dX7_movedTo_48 : decode cX7_movedTo 48 = .ok (.iconst (-1), 1) := by decide +kernel
theorem dX7_movedTo_49 : decode cX7_movedTo 49 = .ok (.if_icmp .ne 11, 3) := by decide +kernel
theorem dX7_movedTo_52 : decode cX7_movedTo 52 = .ok (.aload_n 0, 1) := by decide +kernel
theorem dX7_movedTo_53 : decode cX7_movedTo 53 = .ok (.iconst 2, 1) := by decide +kernel
theorem dX7_movedTo_54 : decode cX7_movedTo 54 = .ok (.invokevirtual 91, 3) := by decide +kernel
theorem dX7_movedTo_57 : decode cX7_movedTo 57 = .ok (.goto 9, 3) := by decide +kernel
theorem dX7_movedTo_60 : decode cX7_movedTo 60 = .ok (.aload_n 0, 1) := by decide +kernel
theorem dX7_movedTo_61 : decode cX7_movedTo 61 = .ok (.getfield 31, 3) := by decide +kernel
theorem dX7_movedTo_64 : decode cX7_movedTo 64 = .ok (.iload_n 3, 1) := by decide +kernel
theorem dX7_movedTo_65 : decode cX7_movedTo 65 = .ok (.iaload, 1) := by decide +kernel
theorem dX7_movedTo_66 : decode cX7_movedTo 66 = .ok (.ireturn, 1) := by decide +kernel
theorem dX7_conflicts_0 : decode cX7_conflicts 0 = .ok (.aload_n 0, 1) := by decide +kernel
theorem dX7_conflicts_1 : decode cX7_conflicts 1 = .ok (.iload_n 1, 1) := by decide +kernel
theorem dX7_conflicts_2 : decode cX7_conflicts 2 = .ok (.iload_n 2, 1) := by decide +kernel
theorem dX7_conflicts_3 : decode cX7_conflicts 3 = .ok (.invokevirtual 186, 3) := by decide +kernel
theorem dX7_conflicts_6 : decode cX7_conflicts 6 = .ok (.ifCond .eq 33, 3) := by decide +kernel
theorem dX7_conflicts_9 : decode cX7_conflicts 9 = .ok (.aload_n 0, 1) := by decide +kernel
theorem dX7_conflicts_10 : decode cX7_conflicts 10 = .ok (.aload_n 0, 1) := by decide +kernel
theorem dX7_conflicts_11 : decode cX7_conflicts 11 = .ok (.getfield 11, 3) := by decide +kernel
theorem dX7_conflicts_14 : decode cX7_conflicts 14 = .ok (.aload_n 0, 1) := by decide +kernel
theorem dX7_conflicts_15 : decode cX7_conflicts 15 = .ok (.iload_n 1, 1) := by decide +kernel
theorem dX7_conflicts_16 : decode cX7_conflicts 16 = .ok (.iload_n 2, 1) := by decide +kernel
theorem dX7_conflicts_17 : decode cX7_conflicts 17 = .ok (.invokevirtual 168, 3) := by decide +kernel
theorem dX7_conflicts_20 : decode cX7_conflicts 20 = .ok (.aaload, 1) := by decide +kernel
theorem dX7_conflicts_21 : decode cX7_conflicts 21 = .ok (.aload_n 0, 1) := by decide +kernel
theorem dX7_conflicts_22 : decode cX7_conflicts 22 = .ok (.getfield 11, 3) := by decide +kernel
theorem dX7_conflicts_25 : decode cX7_conflicts 25 = .ok (.iload_n 1, 1) := by decide +kernel
theorem dX7_conflicts_26 : decode cX7_conflicts 26 = .ok (.aaload, 1) := by decide +kernel
theorem dX7_conflicts_27 : decode cX7_conflicts 27 = .ok (.aload_n 0, 1) := by decide +kernel
theorem dX7_conflicts_28 : decode cX7_conflicts 28 = .ok (.getfield 11, 3) := by decide +kernel
theorem dX7_conflicts_31 : decode cX7_conflicts 31 = .ok (.iload_n 2, 1) := by decide +kernel
theorem dX7_conflicts_32 : decode cX7_conflicts 32 = .ok (.aaload, 1) := by decide +kernel
theorem dX7_conflicts_33 : decode cX7_conflicts 33 = .ok (.invokevirtual 171, 3) := by decide +kernel
theorem dX7_conflicts_36 : decode cX7_conflicts 36 = .ok (.goto 4, 3) := by decide +kernel
theorem dX7_conflicts_39 : decode cX7_conflicts 39 = .ok (.iconst 0, 1) := by decide +kernel
theorem dX7_conflicts_40 : decode cX7_conflicts 40 = .ok (.ireturn, 1) := by decide +kernel
theorem dX7_lastChange_0 : decode cX7_lastChange 0 = .ok (.aload_n 0, 1) := by decide +kernel
theorem dX7_lastChange_1 : decode cX7_lastChange 1 = .ok (.iload_n 1, 1) := by decide +kernel
theorem dX7_lastChange_2 : decode cX7_lastChange 2 = .ok (.invokestatic 84, 3) := by decide +kernel
theorem dX7_lastChange_5 : decode cX7_lastChange 5 = .ok (.ifCond .eq 7, 3) := by decide +kernel
theorem dX7_lastChange_8 : decode cX7_lastChange 8 = .ok (.iconst 0, 1) := by decide +kernel
theorem dX7_lastChange_9 : decode cX7_lastChange 9 = .ok (.goto 4, 3) := by decide +kernel
theorem dX7_lastChange_12 : decode cX7_lastChange 12 = .ok (.iconst 1, 1) := by decide +kernel
theorem dX7_lastChange_13 : decode cX7_lastChange 13 = .ok (.putfield 77, 3) := by decide +kernel
theorem dX7_lastChange_16 : decode cX7_lastChange 16 = .ok (.aload_n 0, 1) := by decide +kernel
theorem dX7_lastChange_17 : decode cX7_lastChange 17 = .ok (.getfield 77, 3) := by decide +kernel
theorem dX7_lastChange_20 : decode cX7_lastChange 20 = .ok (.ifCond .le 5, 3) := by decide +kernel
theorem dX7_lastChange_23 : decode cX7_lastChange 23 = .ok (.iconst 0, 1) := by decide +kernel
theorem dX7_lastChange_24 : decode cX7_lastChange 24 = .ok (.ireturn, 1) := by decide +kernel
theorem dX7_lastChange_25 : decode cX7_lastChange 25 = .ok (.aload_n 0, 1) := by decide +kernel
theorem dX7_lastChange_26 : decode cX7_lastChange 26 = .ok (.getfield 25, 3) := by decide +kernel
theorem dX7_lastChange_29 : decode cX7_lastChange 29 = .ok (.aload_n 0, 1) := by decide +kernel
theorem dX7_lastChange_30 : decode cX7_lastChange 30 = .ok (.getfield 95, 3) := by decide +kernel
theorem dX7_lastChange_33 : decode cX7_lastChange 33 = .ok (.iaload, 1) := by decide +kernel
theorem dX7_lastChange_34 : decode cX7_lastChange 34 = .ok (.istore_n 2, 1) := by decide +kernel
theorem dX7_lastChange_35 : decode cX7_lastChange 35 = .ok (.iload_n 2, 1) := by decide +kernel
theorem dX7_lastChange_36 : decode cX7_lastChange 36 = .ok (.ifCond .le 39, 3) := by decide +kernel
theorem dX7_lastChange_39 : decode cX7_lastChange 39 = .ok (.aload_n 0, 1) := by decide +kernel
theorem dX7_lastChange_40 : decode cX7_lastChange 40 = .ok (.getfield 11, 3) := by decide +kernel
theorem dX7_lastChange_43 : decode cX7_lastChange 43 = .ok (.iload_n 2, 1) := by decide +kernel
theorem dX7_lastChange_44 : decode cX7_lastChange 44 = .ok (.aaload, 1) := by decide +kernel
theorem dX7_lastChange_45 : decode cX7_lastChange 45 = .ok (.iload_n 1, 1) := by decide +kernel
theorem dX7_lastChange_46 : decode cX7_lastChange 46 = .ok (.iaload, 1) := by decide +kernel
theorem dX7_lastChange_47 : decode cX7_lastChange 47 = .ok (.aload_n 0, 1) := by decide +kernel
theorem dX7_lastChange_48 : decode cX7_lastChange 48 = .ok (.getfield 11, 3) := by decide +kernel
theorem dX7_lastChange_51 : decode cX7_lastChange 51 = .ok (.aload_n 0, 1) := by decide +kernel
theorem dX7_lastChange_52 : decode cX7_lastChange 52 = .ok (.getfield 14, 3) := by decide +kernel
theorem dX7_lastChange_55 : decode cX7_lastChange 55 = .ok (.iload_n 2, 1) := by decide +kernel
theorem dX7_lastChange_56 : decode cX7_lastChange 56 = .ok (.iaload, 1) := by decide +kernel
theorem dX7_lastChange_57 : decode cX7_lastChange 57 = .ok (.aaload, 1) := by decide +kernel
theorem dX7_lastChange_58 : decode cX7_lastChange 58 = .ok (.iload_n 1, 1) := by decide +kernel
theorem dX7_lastChange_59 : decode cX7_lastChange 59 = .ok (.iaload, 1) := by decide +kernel
theorem dX7_lastChange_60 : decode cX7_lastChange 60 = .ok (.if_icmp .eq 5, 3) := by decide +kernel
theorem dX7_lastChange_63 : decode cX7_lastChange 63 = .ok (.iload_n 2, 1) := by decide +kernel
theorem dX7_lastChange_64 : decode cX7_lastChange 64 = .ok (.ireturn, 1) := by decide +kernel
theorem dX7_lastChange_65 : decode cX7_lastChange 65 = .ok (.aload_n 0, 1) := by decide +kernel
theorem dX7_lastChange_66 : decode cX7_lastChange 66 = .ok (.getfield 14, 3) := by decide +kernel
theorem dX7_lastChange_69 : decode cX7_lastChange 69 = .ok (.iload_n 2, 1) := by decide +kernel
theorem dX7_lastChange_70 : decode cX7_lastChange 70 = .ok (.iaload, 1) := by decide +kernel
theorem dX7_lastChange_71 : decode cX7_lastChange 71 = .ok (.istore_n 2, 1) := by decide +kernel
theorem dX7_lastChange_72 : decode cX7_lastChange 72 = .ok (.goto (-37), 3) := by decide +kernel
theorem dX7_lastChange_75 : decode cX7_lastChange 75 = .ok (.aload_n 0, 1) := by decide +kernel
theorem dX7_lastChange_76 : decode cX7_lastChange 76 = .ok (.iconst 2, 1) := by decide +kernel
theorem dX7_lastChange_77 : decode cX7_lastChange 77 = .ok (.invokevirtual 91, 3) := by decide +kernel
theorem dX7_lastChange_80 : decode cX7_lastChange 80 = .ok (.ireturn, 1) := by decide +kernel
theorem dX7_packedAt_0 : decode cX7_packedAt 0 = .ok (.iconst 0, 1) := by decide +kernel
theorem dX7_packedAt_1 : decode cX7_packedAt 1 = .ok (.istore_n 2, 1) := by decide +kernel
theorem dX7_packedAt_2 : decode cX7_packedAt 2 = .ok (.iload_n 2, 1) := by decide +kernel
theorem dX7_packedAt_3 : decode cX7_packedAt 3 = .ok (.aload_n 0, 1) := by decide +kernel
theorem dX7_packedAt_4 : decode cX7_packedAt 4 = .ok (.getfield 195, 3) := by decide +kernel
theorem dX7_packedAt_7 : decode cX7_packedAt 7 = .ok (.if_icmp .ge 21, 3) := by decide +kernel
theorem dX7_packedAt_10 : decode cX7_packedAt 10 = .ok (.aload_n 0, 1) := by decide +kernel
theorem dX7_packedAt_11 : decode cX7_packedAt 11 = .ok (.getfield 53, 3) := by decide +kernel
theorem dX7_packedAt_14 : decode cX7_packedAt 14 = .ok (.iload_n 2, 1) := by decide +kernel
theorem dX7_packedAt_15 : decode cX7_packedAt 15 = .ok (.iaload, 1) := by decide +kernel
theorem dX7_packedAt_16 : decode cX7_packedAt 16 = .ok (.iload_n 1, 1) := by decide +kernel
theorem dX7_packedAt_17 : decode cX7_packedAt 17 = .ok (.if_icmp .ne 5, 3) := by decide +kernel
theorem dX7_packedAt_20 : decode cX7_packedAt 20 = .ok (.iload_n 2, 1) := by decide +kernel
theorem dX7_packedAt_21 : decode cX7_packedAt 21 = .ok (.ireturn, 1) := by decide +kernel
theorem dX7_packedAt_22 : decode cX7_packedAt 22 = .ok (.iinc 2 1, 3) := by decide +kernel
theorem dX7_packedAt_25 : decode cX7_packedAt 25 = .ok (.goto (-23), 3) := by decide +kernel
theorem dX7_packedAt_28 : decode cX7_packedAt 28 = .ok (.iconst (-1), 1) := by decide +kernel
theorem dX7_packedAt_29 : decode cX7_packedAt 29 = .ok (.ireturn, 1) := by decide +kernel
theorem dX7_packs_0 : decode cX7_packs 0 = .ok (.iconst (-1), 1) := by decide +kernel
theorem dX7_packs_1 : decode cX7_packs 1 = .ok (.istore_n 2, 1) := by decide +kernel
theorem dX7_packs_2 : decode cX7_packs 2 = .ok (.iconst 4, 1) := by decide +kernel
theorem dX7_packs_3 : decode cX7_packs 3 = .ok (.istore_n 3, 1) := by decide +kernel
theorem dX7_packs_4 : decode cX7_packs 4 = .ok (.iconst 0, 1) := by decide +kernel
theorem dX7_packs_5 : decode cX7_packs 5 = .ok (.istore 4, 2) := by decide +kernel
theorem dX7_packs_7 : decode cX7_packs 7 = .ok (.iload 4, 2) := by decide +kernel
theorem dX7_packs_9 : decode cX7_packs 9 = .ok (.aload_n 0, 1) := by decide +kernel
theorem dX7_packs_10 : decode cX7_packs 10 = .ok (.getfield 195, 3) := by decide +kernel
theorem dX7_packs_13 : decode cX7_packs 13 = .ok (.if_icmp .ge 47, 3) := by decide +kernel
theorem dX7_packs_16 : decode cX7_packs 16 = .ok (.iconst 5, 1) := by decide +kernel
theorem dX7_packs_17 : decode cX7_packs 17 = .ok (.aload_n 0, 1) := by decide +kernel
theorem dX7_packs_18 : decode cX7_packs 18 = .ok (.getfield 53, 3) := by decide +kernel
theorem dX7_packs_21 : decode cX7_packs 21 = .ok (.iload 4, 2) := by decide +kernel
theorem dX7_packs_23 : decode cX7_packs 23 = .ok (.iaload, 1) := by decide +kernel
theorem dX7_packs_24 : decode cX7_packs 24 = .ok (.iload_n 1, 1) := by decide +kernel
theorem dX7_packs_25 : decode cX7_packs 25 = .ok (.invokestatic 135, 3) := by decide +kernel
theorem dX7_packs_28 : decode cX7_packs 28 = .ok (.isub, 1) := by decide +kernel
theorem dX7_packs_29 : decode cX7_packs 29 = .ok (.istore 5, 2) := by decide +kernel
theorem dX7_packs_31 : decode cX7_packs 31 = .ok (.aload_n 0, 1) := by decide +kernel
theorem dX7_packs_32 : decode cX7_packs 32 = .ok (.getfield 59, 3) := by decide +kernel
theorem dX7_packs_35 : decode cX7_packs 35 = .ok (.iload 4, 2) := by decide +kernel
theorem dX7_packs_37 : decode cX7_packs 37 = .ok (.iaload, 1) := by decide +kernel
theorem dX7_packs_38 : decode cX7_packs 38 = .ok (.iconst 2, 1) := by decide +kernel
theorem dX7_packs_39 : decode cX7_packs 39 = .ok (.if_icmp .gt 15, 3) := by decide +kernel
theorem dX7_packs_42 : decode cX7_packs 42 = .ok (.iload 5, 2) := by decide +kernel
theorem dX7_packs_44 : decode cX7_packs 44 = .ok (.iload_n 3, 1) := by decide +kernel
theorem dX7_packs_45 : decode cX7_packs 45 = .ok (.if_icmp .ge 9, 3) := by decide +kernel
theorem dX7_packs_48 : decode cX7_packs 48 = .ok (.iload 4, 2) := by decide +kernel
theorem dX7_packs_50 : decode cX7_packs 50 = .ok (.istore_n 2, 1) := by decide +kernel
theorem dX7_packs_51 : decode cX7_packs 51 = .ok (.iload 5, 2) := by decide +kernel
theorem dX7_packs_53 : decode cX7_packs 53 = .ok (.istore_n 3, 1) := by decide +kernel
theorem dX7_packs_54 : decode cX7_packs 54 = .ok (.iinc 4 1, 3) := by decide +kernel
theorem dX7_packs_57 : decode cX7_packs 57 = .ok (.goto (-50), 3) := by decide +kernel
theorem dX7_packs_60 : decode cX7_packs 60 = .ok (.aload_n 0, 1) := by decide +kernel
theorem dX7_packs_61 : decode cX7_packs 61 = .ok (.getfield 53, 3) := by decide +kernel
theorem dX7_packs_64 : decode cX7_packs 64 = .ok (.aload_n 0, 1) := by decide +kernel
theorem dX7_packs_65 : decode cX7_packs 65 = .ok (.getfield 195, 3) := by decide +kernel
theorem dX7_packs_68 : decode cX7_packs 68 = .ok (.iload_n 1, 1) := by decide +kernel
theorem dX7_packs_69 : decode cX7_packs 69 = .ok (.iastore, 1) := by decide +kernel
theorem dX7_packs_70 : decode cX7_packs 70 = .ok (.aload_n 0, 1) := by decide +kernel
theorem dX7_packs_71 : decode cX7_packs 71 = .ok (.getfield 56, 3) := by decide +kernel
theorem dX7_packs_74 : decode cX7_packs 74 = .ok (.aload_n 0, 1) := by decide +kernel
theorem dX7_packs_75 : decode cX7_packs 75 = .ok (.getfield 195, 3) := by decide +kernel
theorem dX7_packs_78 : decode cX7_packs 78 = .ok (.iload_n 3, 1) := by decide +kernel
theorem dX7_packs_79 : decode cX7_packs 79 = .ok (.iastore, 1) := by decide +kernel
theorem dX7_packs_80 : decode cX7_packs 80 = .ok (.aload_n 0, 1) := by decide +kernel
theorem dX7_packs_81 : decode cX7_packs 81 = .ok (.getfield 59, 3) := by decide +kernel
theorem dX7_packs_84 : decode cX7_packs 84 = .ok (.aload_n 0, 1) := by decide +kernel
theorem dX7_packs_85 : decode cX7_packs 85 = .ok (.getfield 195, 3) := by decide +kernel
theorem dX7_packs_88 : decode cX7_packs 88 = .ok (.iload_n 2, 1) := by decide +kernel
theorem dX7_packs_89 : decode cX7_packs 89 = .ok (.iconst (-1), 1) := by decide +kernel
theorem dX7_packs_90 : decode cX7_packs 90 = .ok (.if_icmp .ne 7, 3) := by decide +kernel
theorem dX7_packs_93 : decode cX7_packs 93 = .ok (.iconst 0, 1) := by decide +kernel
theorem dX7_packs_94 : decode cX7_packs 94 = .ok (.goto 11, 3) := by decide +kernel
theorem dX7_packs_97 : decode cX7_packs 97 = .ok (.aload_n 0, 1) := by decide +kernel
theorem dX7_packs_98 : decode cX7_packs 98 = .ok (.getfield 59, 3) := by decide +kernel
theorem dX7_packs_101 : decode cX7_packs 101 = .ok (.iload_n 2, 1) := by decide +kernel
theorem dX7_packs_102 : decode cX7_packs 102 = .ok (.iaload, 1) := by decide +kernel
theorem dX7_packs_103 : decode cX7_packs 103 = .ok (.iconst 1, 1) := by decide +kernel
theorem dX7_packs_104 : decode cX7_packs 104 = .ok (.iadd, 1) := by decide +kernel
theorem dX7_packs_105 : decode cX7_packs 105 = .ok (.iastore, 1) := by decide +kernel
theorem dX7_packs_106 : decode cX7_packs 106 = .ok (.aload_n 0, 1) := by decide +kernel
theorem dX7_packs_107 : decode cX7_packs 107 = .ok (.getfield 62, 3) := by decide +kernel
theorem dX7_packs_110 : decode cX7_packs 110 = .ok (.aload_n 0, 1) := by decide +kernel
theorem dX7_packs_111 : decode cX7_packs 111 = .ok (.getfield 195, 3) := by decide +kernel
theorem dX7_packs_114 : decode cX7_packs 114 = .ok (.iload_n 2, 1) := by decide +kernel
theorem dX7_packs_115 : decode cX7_packs 115 = .ok (.iastore, 1) := by decide +kernel
theorem dX7_packs_116 : decode cX7_packs 116 = .ok (.aload_n 0, 1) := by decide +kernel
theorem dX7_packs_117 : decode cX7_packs 117 = .ok (.dup, 1) := by decide +kernel
theorem dX7_packs_118 : decode cX7_packs 118 = .ok (.getfield 195, 3) := by decide +kernel
theorem dX7_packs_121 : decode cX7_packs 121 = .ok (.iconst 1, 1) := by decide +kernel
theorem dX7_packs_122 : decode cX7_packs 122 = .ok (.iadd, 1) := by decide +kernel
theorem dX7_packs_123 : decode cX7_packs 123 = .ok (.putfield 195, 3) := by decide +kernel
theorem dX7_packs_126 : decode cX7_packs 126 = .ok (.return_, 1) := by decide +kernel
theorem dX7_packsAll_0 : decode cX7_packsAll 0 = .ok (.aload_n 0, 1) := by decide +kernel
theorem dX7_packsAll_1 : decode cX7_packsAll 1 = .ok (.iconst 0, 1) := by decide +kernel
theorem dX7_packsAll_2 : decode cX7_packsAll 2 = .ok (.putfield 77, 3) := by decide +kernel
theorem dX7_packsAll_5 : decode cX7_packsAll 5 = .ok (.aload_n 0, 1) := by decide +kernel
theorem dX7_packsAll_6 : decode cX7_packsAll 6 = .ok (.iconst 0, 1) := by decide +kernel
theorem dX7_packsAll_7 : decode cX7_packsAll 7 = .ok (.putfield 195, 3) := by decide +kernel
theorem dX7_packsAll_10 : decode cX7_packsAll 10 = .ok (.iconst 0, 1) := by decide +kernel
theorem dX7_packsAll_11 : decode cX7_packsAll 11 = .ok (.istore_n 1, 1) := by decide +kernel
theorem dX7_packsAll_12 : decode cX7_packsAll 12 = .ok (.iload_n 1, 1) := by decide +kernel
theorem dX7_packsAll_13 : decode cX7_packsAll 13 = .ok (.aload_n 0, 1) := by decide +kernel
theorem dX7_packsAll_14 : decode cX7_packsAll 14 = .ok (.getfield 21, 3) := by decide +kernel
theorem dX7_packsAll_17 : decode cX7_packsAll 17 = .ok (.if_icmp .ge 63, 3) := by decide +kernel
theorem dX7_packsAll_20 : decode cX7_packsAll 20 = .ok (.iconst 0, 1) := by decide +kernel
theorem dX7_packsAll_21 : decode cX7_packsAll 21 = .ok (.istore_n 2, 1) := by decide +kernel
theorem dX7_packsAll_22 : decode cX7_packsAll 22 = .ok (.iload_n 2, 1) := by decide +kernel
theorem dX7_packsAll_23 : decode cX7_packsAll 23 = .ok (.bipush 8, 2) := by decide +kernel
theorem dX7_packsAll_25 : decode cX7_packsAll 25 = .ok (.if_icmp .ge 49, 3) := by decide +kernel
theorem dX7_packsAll_28 : decode cX7_packsAll 28 = .ok (.aload_n 0, 1) := by decide +kernel
theorem dX7_packsAll_29 : decode cX7_packsAll 29 = .ok (.getfield 11, 3) := by decide +kernel
theorem dX7_packsAll_32 : decode cX7_packsAll 32 = .ok (.iload_n 1, 1) := by decide +kernel
theorem dX7_packsAll_33 : decode cX7_packsAll 33 = .ok (.aaload, 1) := by decide +kernel
theorem dX7_packsAll_34 : decode cX7_packsAll 34 = .ok (.iload_n 2, 1) := by decide +kernel
theorem dX7_packsAll_35 : decode cX7_packsAll 35 = .ok (.iaload, 1) := by decide +kernel
theorem dX7_packsAll_36 : decode cX7_packsAll 36 = .ok (.iconst (-1), 1) := by decide +kernel
theorem dX7_packsAll_37 : decode cX7_packsAll 37 = .ok (.if_icmp .eq 31, 3) := by decide +kernel
theorem dX7_packsAll_40 : decode cX7_packsAll 40 = .ok (.aload_n 0, 1) := by decide +kernel
theorem dX7_packsAll_41 : decode cX7_packsAll 41 = .ok (.aload_n 0, 1) := by decide +kernel
theorem dX7_packsAll_42 : decode cX7_packsAll 42 = .ok (.getfield 11, 3) := by decide +kernel
theorem dX7_packsAll_45 : decode cX7_packsAll 45 = .ok (.iload_n 1, 1) := by decide +kernel
theorem dX7_packsAll_46 : decode cX7_packsAll 46 = .ok (.aaload, 1) := by decide +kernel
theorem dX7_packsAll_47 : decode cX7_packsAll 47 = .ok (.iload_n 2, 1) := by decide +kernel
theorem dX7_packsAll_48 : decode cX7_packsAll 48 = .ok (.iaload, 1) := by decide +kernel
theorem dX7_packsAll_49 : decode cX7_packsAll 49 = .ok (.invokevirtual 198, 3) := by decide +kernel
theorem dX7_packsAll_52 : decode cX7_packsAll 52 = .ok (.iconst (-1), 1) := by decide +kernel
theorem dX7_packsAll_53 : decode cX7_packsAll 53 = .ok (.if_icmp .ne 15, 3) := by decide +kernel
theorem dX7_packsAll_56 : decode cX7_packsAll 56 = .ok (.aload_n 0, 1) := by decide +kernel
theorem dX7_packsAll_57 : decode cX7_packsAll 57 = .ok (.aload_n 0, 1) := by decide +kernel
theorem dX7_packsAll_58 : decode cX7_packsAll 58 = .ok (.getfield 11, 3) := by decide +kernel
theorem dX7_packsAll_61 : decode cX7_packsAll 61 = .ok (.iload_n 1, 1) := by decide +kernel
theorem dX7_packsAll_62 : decode cX7_packsAll 62 = .ok (.aaload, 1) := by decide +kernel
theorem dX7_packsAll_63 : decode cX7_packsAll 63 = .ok (.iload_n 2, 1) := by decide +kernel
theorem dX7_packsAll_64 : decode cX7_packsAll 64 = .ok (.iaload, 1) := by decide +kernel
theorem dX7_packsAll_65 : decode cX7_packsAll 65 = .ok (.invokevirtual 201, 3) := by decide +kernel
theorem dX7_packsAll_68 : decode cX7_packsAll 68 = .ok (.iinc 2 1, 3) := by decide +kernel
theorem dX7_packsAll_71 : decode cX7_packsAll 71 = .ok (.goto (-49), 3) := by decide +kernel
theorem dX7_packsAll_74 : decode cX7_packsAll 74 = .ok (.iinc 1 1, 3) := by decide +kernel
theorem dX7_packsAll_77 : decode cX7_packsAll 77 = .ok (.goto (-65), 3) := by decide +kernel
theorem dX7_packsAll_80 : decode cX7_packsAll 80 = .ok (.return_, 1) := by decide +kernel
theorem dX7_packed_0 : decode cX7_packed 0 = .ok (.aload_n 0, 1) := by decide +kernel
theorem dX7_packed_1 : decode cX7_packed 1 = .ok (.invokevirtual 204, 3) := by decide +kernel
theorem dX7_packed_4 : decode cX7_packed 4 = .ok (.aload_n 0, 1) := by decide +kernel
theorem dX7_packed_5 : decode cX7_packed 5 = .ok (.getfield 195, 3) := by decide +kernel
theorem dX7_packed_8 : decode cX7_packed 8 = .ok (.ireturn, 1) := by decide +kernel
theorem dX7_depthOf_0 : decode cX7_depthOf 0 = .ok (.aload_n 0, 1) := by decide +kernel
theorem dX7_depthOf_1 : decode cX7_depthOf 1 = .ok (.invokevirtual 204, 3) := by decide +kernel
theorem dX7_depthOf_4 : decode cX7_depthOf 4 = .ok (.aload_n 0, 1) := by decide +kernel
theorem dX7_depthOf_5 : decode cX7_depthOf 5 = .ok (.iload_n 1, 1) := by decide +kernel
theorem dX7_depthOf_6 : decode cX7_depthOf 6 = .ok (.invokevirtual 198, 3) := by decide +kernel
theorem dX7_depthOf_9 : decode cX7_depthOf 9 = .ok (.istore_n 2, 1) := by decide +kernel
theorem dX7_depthOf_10 : decode cX7_depthOf 10 = .ok (.iload_n 2, 1) := by decide +kernel
theorem dX7_depthOf_11 : decode cX7_depthOf 11 = .ok (.iconst (-1), 1) := by decide +kernel
theorem dX7_depthOf_12 : decode cX7_depthOf 12 = .ok (.if_icmp .ne 11, 3) := by decide +kernel
theorem dX7_depthOf_15 : decode cX7_depthOf 15 = .ok (.aload_n 0, 1) := by decide +kernel
theorem dX7_depthOf_16 : decode cX7_depthOf 16 = .ok (.iconst 1, 1) := by decide +kernel
theorem dX7_depthOf_17 : decode cX7_depthOf 17 = .ok (.invokevirtual 91, 3) := by decide +kernel
theorem dX7_depthOf_20 : decode cX7_depthOf 20 = .ok (.goto 9, 3) := by decide +kernel
theorem dX7_depthOf_23 : decode cX7_depthOf 23 = .ok (.aload_n 0, 1) := by decide +kernel
theorem dX7_depthOf_24 : decode cX7_depthOf 24 = .ok (.getfield 59, 3) := by decide +kernel
theorem dX7_depthOf_27 : decode cX7_depthOf 27 = .ok (.iload_n 2, 1) := by decide +kernel
theorem dX7_depthOf_28 : decode cX7_depthOf 28 = .ok (.iaload, 1) := by decide +kernel
theorem dX7_depthOf_29 : decode cX7_depthOf 29 = .ok (.ireturn, 1) := by decide +kernel
theorem dX7_packedFrom_0 : decode cX7_packedFrom 0 = .ok (.aload_n 0, 1) := by decide +kernel
theorem dX7_packedFrom_1 : decode cX7_packedFrom 1 = .ok (.invokevirtual 204, 3) := by decide +kernel
theorem dX7_packedFrom_4 : decode cX7_packedFrom 4 = .ok (.aload_n 0, 1) := by decide +kernel
theorem dX7_packedFrom_5 : decode cX7_packedFrom 5 = .ok (.iload_n 1, 1) := by decide +kernel
theorem dX7_packedFrom_6 : decode cX7_packedFrom 6 = .ok (.invokevirtual 198, 3) := by decide +kernel
theorem dX7_packedFrom_9 : decode cX7_packedFrom 9 = .ok (.istore_n 2, 1) := by decide +kernel
theorem dX7_packedFrom_10 : decode cX7_packedFrom 10 = .ok (.iload_n 2, 1) := by decide +kernel
theorem dX7_packedFrom_11 : decode cX7_packedFrom 11 = .ok (.iconst (-1), 1) := by decide +kernel
theorem dX7_packedFrom_12 : decode cX7_packedFrom 12 = .ok (.if_icmp .eq 13, 3) := by decide +kernel
theorem dX7_packedFrom_15 : decode cX7_packedFrom 15 = .ok (.aload_n 0, 1) := by decide +kernel
theorem dX7_packedFrom_16 : decode cX7_packedFrom 16 = .ok (.getfield 62, 3) := by decide +kernel
theorem dX7_packedFrom_19 : decode cX7_packedFrom 19 = .ok (.iload_n 2, 1) := by decide +kernel
theorem dX7_packedFrom_20 : decode cX7_packedFrom 20 = .ok (.iaload, 1) := by decide +kernel
theorem dX7_packedFrom_21 : decode cX7_packedFrom 21 = .ok (.iconst (-1), 1) := by decide +kernel
theorem dX7_packedFrom_22 : decode cX7_packedFrom 22 = .ok (.if_icmp .ne 11, 3) := by decide +kernel
theorem dX7_packedFrom_25 : decode cX7_packedFrom 25 = .ok (.aload_n 0, 1) := by decide +kernel
theorem dX7_packedFrom_26 : decode cX7_packedFrom 26 = .ok (.iconst 1, 1) := by decide +kernel
theorem dX7_packedFrom_27 : decode cX7_packedFrom 27 = .ok (.invokevirtual 91, 3) := by decide +kernel
theorem dX7_packedFrom_30 : decode cX7_packedFrom 30 = .ok (.goto 14, 3) := by decide +kernel
theorem dX7_packedFrom_33 : decode cX7_packedFrom 33 = .ok (.aload_n 0, 1) := by decide +kernel
theorem dX7_packedFrom_34 : decode cX7_packedFrom 34 = .ok (.getfield 53, 3) := by decide +kernel
theorem dX7_packedFrom_37 : decode cX7_packedFrom 37 = .ok (.aload_n 0, 1) := by decide +kernel
theorem dX7_packedFrom_38 : decode cX7_packedFrom 38 = .ok (.getfield 62, 3) := by decide +kernel
theorem dX7_packedFrom_41 : decode cX7_packedFrom 41 = .ok (.iload_n 2, 1) := by decide +kernel
theorem dX7_packedFrom_42 : decode cX7_packedFrom 42 = .ok (.iaload, 1) := by decide +kernel
theorem dX7_packedFrom_43 : decode cX7_packedFrom 43 = .ok (.iaload, 1) := by decide +kernel
theorem dX7_packedFrom_44 : decode cX7_packedFrom 44 = .ok (.ireturn, 1) := by decide +kernel
theorem dX7_sum_0 : decode cX7_sum 0 = .ok (.lconst 0, 1) := by decide +kernel
theorem dX7_sum_1 : decode cX7_sum 1 = .ok (.lstore_n 1, 1) := by decide +kernel
theorem dX7_sum_2 : decode cX7_sum 2 = .ok (.iconst 0, 1) := by decide +kernel
theorem dX7_sum_3 : decode cX7_sum 3 = .ok (.istore_n 3, 1) := by decide +kernel
theorem dX7_sum_4 : decode cX7_sum 4 = .ok (.iload_n 3, 1) := by decide +kernel
theorem dX7_sum_5 : decode cX7_sum 5 = .ok (.aload_n 0, 1) := by decide +kernel
theorem dX7_sum_6 : decode cX7_sum 6 = .ok (.getfield 195, 3) := by decide +kernel
theorem dX7_sum_9 : decode cX7_sum 9 = .ok (.if_icmp .ge 19, 3) := by decide +kernel
theorem dX7_sum_12 : decode cX7_sum 12 = .ok (.lload_n 1, 1) := by decide +kernel
theorem dX7_sum_13 : decode cX7_sum 13 = .ok (.aload_n 0, 1) := by decide +kernel
theorem dX7_sum_14 : decode cX7_sum 14 = .ok (.getfield 56, 3) := by decide +kernel
theorem dX7_sum_17 : decode cX7_sum 17 = .ok (.iload_n 3, 1) := by decide +kernel
theorem dX7_sum_18 : decode cX7_sum 18 = .ok (.iaload, 1) := by decide +kernel
theorem dX7_sum_19 : decode cX7_sum 19 = .ok (.i2l, 1) := by decide +kernel
theorem dX7_sum_20 : decode cX7_sum 20 = .ok (.ladd, 1) := by decide +kernel
theorem dX7_sum_21 : decode cX7_sum 21 = .ok (.lstore_n 1, 1) := by decide +kernel
theorem dX7_sum_22 : decode cX7_sum 22 = .ok (.iinc 3 1, 3) := by decide +kernel
theorem dX7_sum_25 : decode cX7_sum 25 = .ok (.goto (-21), 3) := by decide +kernel
theorem dX7_sum_28 : decode cX7_sum 28 = .ok (.lload_n 1, 1) := by decide +kernel
theorem dX7_sum_29 : decode cX7_sum 29 = .ok (.lreturn, 1) := by decide +kernel
theorem dX7_packSize_0 : decode cX7_packSize 0 = .ok (.aload_n 0, 1) := by decide +kernel
theorem dX7_packSize_1 : decode cX7_packSize 1 = .ok (.invokevirtual 204, 3) := by decide +kernel
theorem dX7_packSize_4 : decode cX7_packSize 4 = .ok (.aload_n 0, 1) := by decide +kernel
theorem dX7_packSize_5 : decode cX7_packSize 5 = .ok (.invokevirtual 207, 3) := by decide +kernel
theorem dX7_packSize_8 : decode cX7_packSize 8 = .ok (.lreturn, 1) := by decide +kernel
theorem dX7_packShare_0 : decode cX7_packShare 0 = .ok (.aload_n 0, 1) := by decide +kernel
theorem dX7_packShare_1 : decode cX7_packShare 1 = .ok (.invokevirtual 204, 3) := by decide +kernel
theorem dX7_packShare_4 : decode cX7_packShare 4 = .ok (.aload_n 0, 1) := by decide +kernel
theorem dX7_packShare_5 : decode cX7_packShare 5 = .ok (.getfield 195, 3) := by decide +kernel
theorem dX7_packShare_8 : decode cX7_packShare 8 = .ok (.ifCond .ne 11, 3) := by decide +kernel
theorem dX7_packShare_11 : decode cX7_packShare 11 = .ok (.aload_n 0, 1) := by decide +kernel
theorem dX7_packShare_12 : decode cX7_packShare 12 = .ok (.iconst 1, 1) := by decide +kernel
theorem dX7_packShare_13 : decode cX7_packShare 13 = .ok (.invokevirtual 91, 3) := by decide +kernel
theorem dX7_packShare_16 : decode cX7_packShare 16 = .ok (.pop, 1) := by decide +kernel
theorem dX7_packShare_17 : decode cX7_packShare 17 = .ok (.fconst 0, 1) := by decide +kernel
theorem dX7_packShare_18 : decode cX7_packShare 18 = .ok (.freturn, 1) := by decide +kernel
theorem dX7_packShare_19 : decode cX7_packShare 19 = .ok (.aload_n 0, 1) := by decide +kernel
theorem dX7_packShare_20 : decode cX7_packShare 20 = .ok (.invokevirtual 207, 3) := by decide +kernel
theorem dX7_packShare_23 : decode cX7_packShare 23 = .ok (.l2f, 1) := by decide +kernel
theorem dX7_packShare_24 : decode cX7_packShare 24 = .ok (.iconst 4, 1) := by decide +kernel
theorem dX7_packShare_25 : decode cX7_packShare 25 = .ok (.aload_n 0, 1) := by decide +kernel
theorem dX7_packShare_26 : decode cX7_packShare 26 = .ok (.getfield 195, 3) := by decide +kernel
theorem dX7_packShare_29 : decode cX7_packShare 29 = .ok (.imul, 1) := by decide +kernel
theorem dX7_packShare_30 : decode cX7_packShare 30 = .ok (.i2f, 1) := by decide +kernel
theorem dX7_packShare_31 : decode cX7_packShare 31 = .ok (.fdiv, 1) := by decide +kernel
theorem dX7_packShare_32 : decode cX7_packShare 32 = .ok (.freturn, 1) := by decide +kernel
theorem dX7_meanFiles_0 : decode cX7_meanFiles 0 = .ok (.aload_n 0, 1) := by decide +kernel
theorem dX7_meanFiles_1 : decode cX7_meanFiles 1 = .ok (.iconst 0, 1) := by decide +kernel
theorem dX7_meanFiles_2 : decode cX7_meanFiles 2 = .ok (.putfield 77, 3) := by decide +kernel
theorem dX7_meanFiles_5 : decode cX7_meanFiles 5 = .ok (.iconst 0, 1) := by decide +kernel
theorem dX7_meanFiles_6 : decode cX7_meanFiles 6 = .ok (.istore_n 1, 1) := by decide +kernel
theorem dX7_meanFiles_7 : decode cX7_meanFiles 7 = .ok (.iconst 0, 1) := by decide +kernel
theorem dX7_meanFiles_8 : decode cX7_meanFiles 8 = .ok (.istore_n 2, 1) := by decide +kernel
theorem dX7_meanFiles_9 : decode cX7_meanFiles 9 = .ok (.iload_n 2, 1) := by decide +kernel
theorem dX7_meanFiles_10 : decode cX7_meanFiles 10 = .ok (.aload_n 0, 1) := by decide +kernel
theorem dX7_meanFiles_11 : decode cX7_meanFiles 11 = .ok (.getfield 21, 3) := by decide +kernel
theorem dX7_meanFiles_14 : decode cX7_meanFiles 14 = .ok (.if_icmp .ge 43, 3) := by decide +kernel
theorem dX7_meanFiles_17 : decode cX7_meanFiles 17 = .ok (.iconst 0, 1) := by decide +kernel
theorem dX7_meanFiles_18 : decode cX7_meanFiles 18 = .ok (.istore_n 3, 1) := by decide +kernel
theorem dX7_meanFiles_19 : decode cX7_meanFiles 19 = .ok (.iload_n 3, 1) := by decide +kernel
theorem dX7_meanFiles_20 : decode cX7_meanFiles 20 = .ok (.bipush 8, 2) := by decide +kernel
theorem dX7_meanFiles_22 : decode cX7_meanFiles 22 = .ok (.if_icmp .ge 29, 3) := by decide +kernel
theorem dX7_meanFiles_25 : decode cX7_meanFiles 25 = .ok (.iload_n 1, 1) := by decide +kernel
theorem dX7_meanFiles_26 : decode cX7_meanFiles 26 = .ok (.aload_n 0, 1) := by decide +kernel
theorem dX7_meanFiles_27 : decode cX7_meanFiles 27 = .ok (.getfield 11, 3) := by decide +kernel
theorem dX7_meanFiles_30 : decode cX7_meanFiles 30 = .ok (.iload_n 2, 1) := by decide +kernel
theorem dX7_meanFiles_31 : decode cX7_meanFiles 31 = .ok (.aaload, 1) := by decide +kernel
theorem dX7_meanFiles_32 : decode cX7_meanFiles 32 = .ok (.iload_n 3, 1) := by decide +kernel
theorem dX7_meanFiles_33 : decode cX7_meanFiles 33 = .ok (.iaload, 1) := by decide +kernel
theorem dX7_meanFiles_34 : decode cX7_meanFiles 34 = .ok (.iconst (-1), 1) := by decide +kernel
theorem dX7_meanFiles_35 : decode cX7_meanFiles 35 = .ok (.if_icmp .ne 7, 3) := by decide +kernel
theorem dX7_meanFiles_38 : decode cX7_meanFiles 38 = .ok (.iconst 0, 1) := by decide +kernel
theorem dX7_meanFiles_39 : decode cX7_meanFiles 39 = .ok (.goto 4, 3) := by decide +kernel
theorem dX7_meanFiles_42 : decode cX7_meanFiles 42 = .ok (.iconst 1, 1) := by decide +kernel
theorem dX7_meanFiles_43 : decode cX7_meanFiles 43 = .ok (.iadd, 1) := by decide +kernel
theorem dX7_meanFiles_44 : decode cX7_meanFiles 44 = .ok (.istore_n 1, 1) := by decide +kernel
theorem dX7_meanFiles_45 : decode cX7_meanFiles 45 = .ok (.iinc 3 1, 3) := by decide +kernel
theorem dX7_meanFiles_48 : decode cX7_meanFiles 48 = .ok (.goto (-29), 3) := by decide +kernel
theorem dX7_meanFiles_51 : decode cX7_meanFiles 51 = .ok (.iinc 2 1, 3) := by decide +kernel
theorem dX7_meanFiles_54 : decode cX7_meanFiles 54 = .ok (.goto (-45), 3) := by decide +kernel
theorem dX7_meanFiles_57 : decode cX7_meanFiles 57 = .ok (.iload_n 1, 1) := by decide +kernel
theorem dX7_meanFiles_58 : decode cX7_meanFiles 58 = .ok (.i2d, 1) := by decide +kernel
theorem dX7_meanFiles_59 : decode cX7_meanFiles 59 = .ok (.aload_n 0, 1) := by decide +kernel
theorem dX7_meanFiles_60 : decode cX7_meanFiles 60 = .ok (.getfield 21, 3) := by decide +kernel
theorem dX7_meanFiles_63 : decode cX7_meanFiles 63 = .ok (.i2d, 1) := by decide +kernel
theorem dX7_meanFiles_64 : decode cX7_meanFiles 64 = .ok (.ddiv, 1) := by decide +kernel
theorem dX7_meanFiles_65 : decode cX7_meanFiles 65 = .ok (.dreturn, 1) := by decide +kernel
