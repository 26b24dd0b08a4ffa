theorem dX1_digest_13 : decode cX1_digest 13 = .ok (.aload_n 0, 1) := by decide +kernel
theorem dX1_digest_14 : decode cX1_digest 14 = .ok (.getfield 69, 3) := by decide +kernel
theorem dX1_digest_17 : decode cX1_digest 17 = .ok (.i2l, 1) := by decide +kernel
theorem dX1_digest_18 : decode cX1_digest 18 = .ok (.invokestatic 166, 3) := by decide +kernel
theorem dX1_digest_21 : decode cX1_digest 21 = .ok (.lstore_n 1, 1) := by decide +kernel
theorem dX1_digest_22 : decode cX1_digest 22 = .ok (.iconst 0, 1) := by decide +kernel
theorem dX1_digest_23 : decode cX1_digest 23 = .ok (.istore_n 3, 1) := by decide +kernel
theorem dX1_digest_24 : decode cX1_digest 24 = .ok (.iload_n 3, 1) := by decide +kernel
theorem dX1_digest_25 : decode cX1_digest 25 = .ok (.aload_n 0, 1) := by decide +kernel
theorem dX1_digest_26 : decode cX1_digest 26 = .ok (.getfield 69, 3) := by decide +kernel
theorem dX1_digest_29 : decode cX1_digest 29 = .ok (.if_icmp .ge 31, 3) := by decide +kernel
theorem dX1_digest_32 : decode cX1_digest 32 = .ok (.lload_n 1, 1) := by decide +kernel
theorem dX1_digest_33 : decode cX1_digest 33 = .ok (.aload_n 0, 1) := by decide +kernel
theorem dX1_digest_34 : decode cX1_digest 34 = .ok (.getfield 9, 3) := by decide +kernel
theorem dX1_digest_37 : decode cX1_digest 37 = .ok (.iload_n 3, 1) := by decide +kernel
theorem dX1_digest_38 : decode cX1_digest 38 = .ok (.iaload, 1) := by decide +kernel
theorem dX1_digest_39 : decode cX1_digest 39 = .ok (.i2l, 1) := by decide +kernel
theorem dX1_digest_40 : decode cX1_digest 40 = .ok (.invokestatic 166, 3) := by decide +kernel
theorem dX1_digest_43 : decode cX1_digest 43 = .ok (.aload_n 0, 1) := by decide +kernel
theorem dX1_digest_44 : decode cX1_digest 44 = .ok (.getfield 13, 3) := by decide +kernel
theorem dX1_digest_47 : decode cX1_digest 47 = .ok (.iload_n 3, 1) := by decide +kernel
theorem dX1_digest_48 : decode cX1_digest 48 = .ok (.iaload, 1) := by decide +kernel
theorem dX1_digest_49 : decode cX1_digest 49 = .ok (.i2l, 1) := by decide +kernel
theorem dX1_digest_50 : decode cX1_digest 50 = .ok (.invokestatic 166, 3) := by decide +kernel
theorem dX1_digest_53 : decode cX1_digest 53 = .ok (.lstore_n 1, 1) := by decide +kernel
theorem dX1_digest_54 : decode cX1_digest 54 = .ok (.iinc 3 1, 3) := by decide +kernel
theorem dX1_digest_57 : decode cX1_digest 57 = .ok (.goto (-33), 3) := by decide +kernel
theorem dX1_digest_60 : decode cX1_digest 60 = .ok (.lload_n 1, 1) := by decide +kernel
theorem dX1_digest_61 : decode cX1_digest 61 = .ok (.aload_n 0, 1) := by decide +kernel
theorem dX1_digest_62 : decode cX1_digest 62 = .ok (.getfield 79, 3) := by decide +kernel
theorem dX1_digest_65 : decode cX1_digest 65 = .ok (.i2l, 1) := by decide +kernel
theorem dX1_digest_66 : decode cX1_digest 66 = .ok (.invokestatic 166, 3) := by decide +kernel
theorem dX1_digest_69 : decode cX1_digest 69 = .ok (.lstore_n 1, 1) := by decide +kernel
theorem dX1_digest_70 : decode cX1_digest 70 = .ok (.iconst 0, 1) := by decide +kernel
theorem dX1_digest_71 : decode cX1_digest 71 = .ok (.istore_n 3, 1) := by decide +kernel
theorem dX1_digest_72 : decode cX1_digest 72 = .ok (.iload_n 3, 1) := by decide +kernel
theorem dX1_digest_73 : decode cX1_digest 73 = .ok (.aload_n 0, 1) := by decide +kernel
theorem dX1_digest_74 : decode cX1_digest 74 = .ok (.getfield 79, 3) := by decide +kernel
theorem dX1_digest_77 : decode cX1_digest 77 = .ok (.if_icmp .ge 41, 3) := by decide +kernel
theorem dX1_digest_80 : decode cX1_digest 80 = .ok (.lload_n 1, 1) := by decide +kernel
theorem dX1_digest_81 : decode cX1_digest 81 = .ok (.aload_n 0, 1) := by decide +kernel
theorem dX1_digest_82 : decode cX1_digest 82 = .ok (.getfield 16, 3) := by decide +kernel
theorem dX1_digest_85 : decode cX1_digest 85 = .ok (.iload_n 3, 1) := by decide +kernel
theorem dX1_digest_86 : decode cX1_digest 86 = .ok (.iaload, 1) := by decide +kernel
theorem dX1_digest_87 : decode cX1_digest 87 = .ok (.i2l, 1) := by decide +kernel
theorem dX1_digest_88 : decode cX1_digest 88 = .ok (.invokestatic 166, 3) := by decide +kernel
theorem dX1_digest_91 : decode cX1_digest 91 = .ok (.aload_n 0, 1) := by decide +kernel
theorem dX1_digest_92 : decode cX1_digest 92 = .ok (.getfield 19, 3) := by decide +kernel
theorem dX1_digest_95 : decode cX1_digest 95 = .ok (.iload_n 3, 1) := by decide +kernel
theorem dX1_digest_96 : decode cX1_digest 96 = .ok (.iaload, 1) := by decide +kernel
theorem dX1_digest_97 : decode cX1_digest 97 = .ok (.i2l, 1) := by decide +kernel
theorem dX1_digest_98 : decode cX1_digest 98 = .ok (.invokestatic 166, 3) := by decide +kernel
theorem dX1_digest_101 : decode cX1_digest 101 = .ok (.aload_n 0, 1) := by decide +kernel
theorem dX1_digest_102 : decode cX1_digest 102 = .ok (.getfield 22, 3) := by decide +kernel
theorem dX1_digest_105 : decode cX1_digest 105 = .ok (.iload_n 3, 1) := by decide +kernel
theorem dX1_digest_106 : decode cX1_digest 106 = .ok (.iaload, 1) := by decide +kernel
theorem dX1_digest_107 : decode cX1_digest 107 = .ok (.i2l, 1) := by decide +kernel
theorem dX1_digest_108 : decode cX1_digest 108 = .ok (.invokestatic 166, 3) := by decide +kernel
theorem dX1_digest_111 : decode cX1_digest 111 = .ok (.lstore_n 1, 1) := by decide +kernel
theorem dX1_digest_112 : decode cX1_digest 112 = .ok (.iinc 3 1, 3) := by decide +kernel
theorem dX1_digest_115 : decode cX1_digest 115 = .ok (.goto (-43), 3) := by decide +kernel
theorem dX1_digest_118 : decode cX1_digest 118 = .ok (.iconst 0, 1) := by decide +kernel
theorem dX1_digest_119 : decode cX1_digest 119 = .ok (.istore_n 3, 1) := by decide +kernel
theorem dX1_digest_120 : decode cX1_digest 120 = .ok (.iload_n 3, 1) := by decide +kernel
theorem dX1_digest_121 : decode cX1_digest 121 = .ok (.aload_n 0, 1) := by decide +kernel
theorem dX1_digest_122 : decode cX1_digest 122 = .ok (.getfield 79, 3) := by decide +kernel
theorem dX1_digest_125 : decode cX1_digest 125 = .ok (.if_icmp .ge 50, 3) := by decide +kernel
theorem dX1_digest_128 : decode cX1_digest 128 = .ok (.iconst 0, 1) := by decide +kernel
theorem dX1_digest_129 : decode cX1_digest 129 = .ok (.istore 4, 2) := by decide +kernel
theorem dX1_digest_131 : decode cX1_digest 131 = .ok (.iload 4, 2) := by decide +kernel
theorem dX1_digest_133 : decode cX1_digest 133 = .ok (.aload_n 0, 1) := by decide +kernel
theorem dX1_digest_134 : decode cX1_digest 134 = .ok (.getfield 79, 3) := by decide +kernel
theorem dX1_digest_137 : decode cX1_digest 137 = .ok (.if_icmp .ge 32, 3) := by decide +kernel
theorem dX1_digest_140 : decode cX1_digest 140 = .ok (.lload_n 1, 1) := by decide +kernel
theorem dX1_digest_141 : decode cX1_digest 141 = .ok (.aload_n 0, 1) := by decide +kernel
theorem dX1_digest_142 : decode cX1_digest 142 = .ok (.getfield 28, 3) := by decide +kernel
theorem dX1_digest_145 : decode cX1_digest 145 = .ok (.iload_n 3, 1) := by decide +kernel
theorem dX1_digest_146 : decode cX1_digest 146 = .ok (.iload 4, 2) := by decide +kernel
theorem dX1_digest_148 : decode cX1_digest 148 = .ok (.invokevirtual 94, 3) := by decide +kernel
theorem dX1_digest_151 : decode cX1_digest 151 = .ok (.ifCond .eq 7, 3) := by decide +kernel
theorem dX1_digest_154 : decode cX1_digest 154 = .ok (.lconst 1, 1) := by decide +kernel
theorem dX1_digest_155 : decode cX1_digest 155 = .ok (.goto 4, 3) := by decide +kernel
theorem dX1_digest_158 : decode cX1_digest 158 = .ok (.lconst 0, 1) := by decide +kernel
theorem dX1_digest_159 : decode cX1_digest 159 = .ok (.invokestatic 166, 3) := by decide +kernel
theorem dX1_digest_162 : decode cX1_digest 162 = .ok (.lstore_n 1, 1) := by decide +kernel
theorem dX1_digest_163 : decode cX1_digest 163 = .ok (.iinc 4 1, 3) := by decide +kernel
theorem dX1_digest_166 : decode cX1_digest 166 = .ok (.goto (-35), 3) := by decide +kernel
theorem dX1_digest_169 : decode cX1_digest 169 = .ok (.iinc 3 1, 3) := by decide +kernel
theorem dX1_digest_172 : decode cX1_digest 172 = .ok (.goto (-52), 3) := by decide +kernel
theorem dX1_digest_175 : decode cX1_digest 175 = .ok (.lload_n 1, 1) := by decide +kernel
theorem dX1_digest_176 : decode cX1_digest 176 = .ok (.aload_n 0, 1) := by decide +kernel
theorem dX1_digest_177 : decode cX1_digest 177 = .ok (.getfield 149, 3) := by decide +kernel
theorem dX1_digest_180 : decode cX1_digest 180 = .ok (.i2l, 1) := by decide +kernel
theorem dX1_digest_181 : decode cX1_digest 181 = .ok (.invokestatic 166, 3) := by decide +kernel
theorem dX1_digest_184 : decode cX1_digest 184 = .ok (.lstore_n 1, 1) := by decide +kernel
theorem dX1_digest_185 : decode cX1_digest 185 = .ok (.iconst 0, 1) := by decide +kernel
theorem dX1_digest_186 : decode cX1_digest 186 = .ok (.istore_n 3, 1) := by decide +kernel
theorem dX1_digest_187 : decode cX1_digest 187 = .ok (.iload_n 3, 1) := by decide +kernel
theorem dX1_digest_188 : decode cX1_digest 188 = .ok (.aload_n 0, 1) := by decide +kernel
theorem dX1_digest_189 : decode cX1_digest 189 = .ok (.getfield 149, 3) := by decide +kernel
theorem dX1_digest_192 : decode cX1_digest 192 = .ok (.if_icmp .ge 21, 3) := by decide +kernel
theorem dX1_digest_195 : decode cX1_digest 195 = .ok (.lload_n 1, 1) := by decide +kernel
theorem dX1_digest_196 : decode cX1_digest 196 = .ok (.aload_n 0, 1) := by decide +kernel
theorem dX1_digest_197 : decode cX1_digest 197 = .ok (.getfield 32, 3) := by decide +kernel
theorem dX1_digest_200 : decode cX1_digest 200 = .ok (.iload_n 3, 1) := by decide +kernel
theorem dX1_digest_201 : decode cX1_digest 201 = .ok (.iaload, 1) := by decide +kernel
theorem dX1_digest_202 : decode cX1_digest 202 = .ok (.i2l, 1) := by decide +kernel
theorem dX1_digest_203 : decode cX1_digest 203 = .ok (.invokestatic 166, 3) := by decide +kernel
theorem dX1_digest_206 : decode cX1_digest 206 = .ok (.lstore_n 1, 1) := by decide +kernel
theorem dX1_digest_207 : decode cX1_digest 207 = .ok (.iinc 3 1, 3) := by decide +kernel
theorem dX1_digest_210 : decode cX1_digest 210 = .ok (.goto (-23), 3) := by decide +kernel
theorem dX1_digest_213 : decode cX1_digest 213 = .ok (.lload_n 1, 1) := by decide +kernel
theorem dX1_digest_214 : decode cX1_digest 214 = .ok (.lreturn, 1) := by decide +kernel
theorem dX1_checkLiteral_0 : decode cX1_checkLiteral 0 = .ok (.iload_n 0, 1) := by decide +kernel
theorem dX1_checkLiteral_1 : decode cX1_checkLiteral 1 = .ok (.ifCond .lt 9, 3) := by decide +kernel
theorem dX1_checkLiteral_4 : decode cX1_checkLiteral 4 = .ok (.iload_n 0, 1) := by decide +kernel
theorem dX1_checkLiteral_5 : decode cX1_checkLiteral 5 = .ok (.bipush 16, 2) := by decide +kernel
theorem dX1_checkLiteral_7 : decode cX1_checkLiteral 7 = .ok (.if_icmp .lt 13, 3) := by decide +kernel
theorem dX1_checkLiteral_10 : decode cX1_checkLiteral 10 = .ok (.new 155, 3) := by decide +kernel
theorem dX1_checkLiteral_13 : decode cX1_checkLiteral 13 = .ok (.dup, 1) := by decide +kernel
theorem dX1_checkLiteral_14 : decode cX1_checkLiteral 14 = .ok (.ldc 170, 2) := by decide +kernel
theorem dX1_checkLiteral_16 : decode cX1_checkLiteral 16 = .ok (.invokespecial 159, 3) := by decide +kernel
theorem dX1_checkLiteral_19 : decode cX1_checkLiteral 19 = .ok (.athrow, 1) := by decide +kernel
theorem dX1_checkLiteral_20 : decode cX1_checkLiteral 20 = .ok (.return_, 1) := by decide +kernel
theorem dX1_checkSet_0 : decode cX1_checkSet 0 = .ok (.iload_n 0, 1) := by decide +kernel
theorem dX1_checkSet_1 : decode cX1_checkSet 1 = .ok (.ifCond .lt 9, 3) := by decide +kernel
theorem dX1_checkSet_4 : decode cX1_checkSet 4 = .ok (.iload_n 0, 1) := by decide +kernel
theorem dX1_checkSet_5 : decode cX1_checkSet 5 = .ok (.ldc 142, 2) := by decide +kernel
theorem dX1_checkSet_7 : decode cX1_checkSet 7 = .ok (.if_icmp .le 13, 3) := by decide +kernel
theorem dX1_checkSet_10 : decode cX1_checkSet 10 = .ok (.new 97, 3) := by decide +kernel
theorem dX1_checkSet_13 : decode cX1_checkSet 13 = .ok (.dup, 1) := by decide +kernel
theorem dX1_checkSet_14 : decode cX1_checkSet 14 = .ok (.ldc 172, 2) := by decide +kernel
theorem dX1_checkSet_16 : decode cX1_checkSet 16 = .ok (.invokespecial 101, 3) := by decide +kernel
theorem dX1_checkSet_19 : decode cX1_checkSet 19 = .ok (.athrow, 1) := by decide +kernel
theorem dX1_checkSet_20 : decode cX1_checkSet 20 = .ok (.return_, 1) := by decide +kernel
theorem dX1_checkDefault_0 : decode cX1_checkDefault 0 = .ok (.iload_n 1, 1) := by decide +kernel
theorem dX1_checkDefault_1 : decode cX1_checkDefault 1 = .ok (.ifCond .lt 11, 3) := by decide +kernel
theorem dX1_checkDefault_4 : decode cX1_checkDefault 4 = .ok (.iload_n 1, 1) := by decide +kernel
theorem dX1_checkDefault_5 : decode cX1_checkDefault 5 = .ok (.aload_n 0, 1) := by decide +kernel
theorem dX1_checkDefault_6 : decode cX1_checkDefault 6 = .ok (.getfield 79, 3) := by decide +kernel
theorem dX1_checkDefault_9 : decode cX1_checkDefault 9 = .ok (.if_icmp .lt 13, 3) := by decide +kernel
theorem dX1_checkDefault_12 : decode cX1_checkDefault 12 = .ok (.new 155, 3) := by decide +kernel
theorem dX1_checkDefault_15 : decode cX1_checkDefault 15 = .ok (.dup, 1) := by decide +kernel
theorem dX1_checkDefault_16 : decode cX1_checkDefault 16 = .ok (.ldc 174, 2) := by decide +kernel
theorem dX1_checkDefault_18 : decode cX1_checkDefault 18 = .ok (.invokespecial 159, 3) := by decide +kernel
theorem dX1_checkDefault_21 : decode cX1_checkDefault 21 = .ok (.athrow, 1) := by decide +kernel
theorem dX1_checkDefault_22 : decode cX1_checkDefault 22 = .ok (.return_, 1) := by decide +kernel
theorem dX1_checkExtension_0 : decode cX1_checkExtension 0 = .ok (.iload_n 1, 1) := by decide +kernel
theorem dX1_checkExtension_1 : decode cX1_checkExtension 1 = .ok (.ifCond .lt 11, 3) := by decide +kernel
theorem dX1_checkExtension_4 : decode cX1_checkExtension 4 = .ok (.iload_n 1, 1) := by decide +kernel
theorem dX1_checkExtension_5 : decode cX1_checkExtension 5 = .ok (.aload_n 0, 1) := by decide +kernel
theorem dX1_checkExtension_6 : decode cX1_checkExtension 6 = .ok (.getfield 130, 3) := by decide +kernel
theorem dX1_checkExtension_9 : decode cX1_checkExtension 9 = .ok (.if_icmp .lt 13, 3) := by decide +kernel
theorem dX1_checkExtension_12 : decode cX1_checkExtension 12 = .ok (.new 155, 3) := by decide +kernel
theorem dX1_checkExtension_15 : decode cX1_checkExtension 15 = .ok (.dup, 1) := by decide +kernel
theorem dX1_checkExtension_16 : decode cX1_checkExtension 16 = .ok (.ldc 176, 2) := by decide +kernel
theorem dX1_checkExtension_18 : decode cX1_checkExtension 18 = .ok (.invokespecial 159, 3) := by decide +kernel
theorem dX1_checkExtension_21 : decode cX1_checkExtension 21 = .ok (.athrow, 1) := by decide +kernel
theorem dX1_checkExtension_22 : decode cX1_checkExtension 22 = .ok (.return_, 1) := by decide +kernel
theorem dX1_checkOrder_0 : decode cX1_checkOrder 0 = .ok (.iload_n 1, 1) := by decide +kernel
theorem dX1_checkOrder_1 : decode cX1_checkOrder 1 = .ok (.ifCond .lt 15, 3) := by decide +kernel
theorem dX1_checkOrder_4 : decode cX1_checkOrder 4 = .ok (.iload_n 1, 1) := by decide +kernel
theorem dX1_checkOrder_5 : decode cX1_checkOrder 5 = .ok (.getstatic 178, 3) := by decide +kernel
theorem dX1_checkOrder_8 : decode cX1_checkOrder 8 = .ok (.aload_n 0, 1) := by decide +kernel
theorem dX1_checkOrder_9 : decode cX1_checkOrder 9 = .ok (.getfield 79, 3) := by decide +kernel
theorem dX1_checkOrder_12 : decode cX1_checkOrder 12 = .ok (.iaload, 1) := by decide +kernel
theorem dX1_checkOrder_13 : decode cX1_checkOrder 13 = .ok (.if_icmp .lt 13, 3) := by decide +kernel
theorem dX1_checkOrder_16 : decode cX1_checkOrder 16 = .ok (.new 97, 3) := by decide +kernel
theorem dX1_checkOrder_19 : decode cX1_checkOrder 19 = .ok (.dup, 1) := by decide +kernel
theorem dX1_checkOrder_20 : decode cX1_checkOrder 20 = .ok (.ldc 181, 2) := by decide +kernel
theorem dX1_checkOrder_22 : decode cX1_checkOrder 22 = .ok (.invokespecial 101, 3) := by decide +kernel
theorem dX1_checkOrder_25 : decode cX1_checkOrder 25 = .ok (.athrow, 1) := by decide +kernel
theorem dX1_checkOrder_26 : decode cX1_checkOrder 26 = .ok (.return_, 1) := by decide +kernel
theorem dX1_has_0 : decode cX1_has 0 = .ok (.iload_n 0, 1) := by decide +kernel
theorem dX1_has_1 : decode cX1_has 1 = .ok (.iload_n 1, 1) := by decide +kernel
theorem dX1_has_2 : decode cX1_has 2 = .ok (.iushr, 1) := by decide +kernel
theorem dX1_has_3 : decode cX1_has 3 = .ok (.iconst 1, 1) := by decide +kernel
theorem dX1_has_4 : decode cX1_has 4 = .ok (.iand, 1) := by decide +kernel
theorem dX1_has_5 : decode cX1_has 5 = .ok (.ifCond .eq 7, 3) := by decide +kernel
theorem dX1_has_8 : decode cX1_has 8 = .ok (.iconst 1, 1) := by decide +kernel
theorem dX1_has_9 : decode cX1_has 9 = .ok (.goto 4, 3) := by decide +kernel
theorem dX1_has_12 : decode cX1_has 12 = .ok (.iconst 0, 1) := by decide +kernel
theorem dX1_has_13 : decode cX1_has 13 = .ok (.ireturn, 1) := by decide +kernel
theorem dX1_contains_0 : decode cX1_contains 0 = .ok (.iload_n 1, 1) := by decide +kernel
theorem dX1_contains_1 : decode cX1_contains 1 = .ok (.iload_n 0, 1) := by decide +kernel
theorem dX1_contains_2 : decode cX1_contains 2 = .ok (.iconst (-1), 1) := by decide +kernel
theorem dX1_contains_3 : decode cX1_contains 3 = .ok (.ixor, 1) := by decide +kernel
theorem dX1_contains_4 : decode cX1_contains 4 = .ok (.iand, 1) := by decide +kernel
theorem dX1_contains_5 : decode cX1_contains 5 = .ok (.ifCond .ne 7, 3) := by decide +kernel
theorem dX1_contains_8 : decode cX1_contains 8 = .ok (.iconst 1, 1) := by decide +kernel
theorem dX1_contains_9 : decode cX1_contains 9 = .ok (.goto 4, 3) := by decide +kernel
theorem dX1_contains_12 : decode cX1_contains 12 = .ok (.iconst 0, 1) := by decide +kernel
theorem dX1_contains_13 : decode cX1_contains 13 = .ok (.ireturn, 1) := by decide +kernel
theorem dX1_complements_0 : decode cX1_complements 0 = .ok (.iload_n 0, 1) := by decide +kernel
theorem dX1_complements_1 : decode cX1_complements 1 = .ok (.sipush 255, 3) := by decide +kernel
theorem dX1_complements_4 : decode cX1_complements 4 = .ok (.iand, 1) := by decide +kernel
theorem dX1_complements_5 : decode cX1_complements 5 = .ok (.bipush 8, 2) := by decide +kernel
theorem dX1_complements_7 : decode cX1_complements 7 = .ok (.ishl, 1) := by decide +kernel
theorem dX1_complements_8 : decode cX1_complements 8 = .ok (.iload_n 0, 1) := by decide +kernel
theorem dX1_complements_9 : decode cX1_complements 9 = .ok (.bipush 8, 2) := by decide +kernel
theorem dX1_complements_11 : decode cX1_complements 11 = .ok (.iushr, 1) := by decide +kernel
theorem dX1_complements_12 : decode cX1_complements 12 = .ok (.sipush 255, 3) := by decide +kernel
theorem dX1_complements_15 : decode cX1_complements 15 = .ok (.iand, 1) := by decide +kernel
theorem dX1_complements_16 : decode cX1_complements 16 = .ok (.ior, 1) := by decide +kernel
theorem dX1_complements_17 : decode cX1_complements 17 = .ok (.ireturn, 1) := by decide +kernel
theorem dX1_mix_0 : decode cX1_mix 0 = .ok (.lload_n 0, 1) := by decide +kernel
theorem dX1_mix_1 : decode cX1_mix 1 = .ok (.ldc2_w 183, 3) := by decide +kernel
theorem dX1_mix_4 : decode cX1_mix 4 = .ok (.lmul, 1) := by decide +kernel
theorem dX1_mix_5 : decode cX1_mix 5 = .ok (.lload_n 2, 1) := by decide +kernel
theorem dX1_mix_6 : decode cX1_mix 6 = .ok (.ladd, 1) := by decide +kernel
theorem dX1_mix_7 : decode cX1_mix 7 = .ok (.lreturn, 1) := by decide +kernel
set_option maxRecDepth 20000 in
theorem ggX1_closeUp_X1_contains : GoodIn wsX1_closeUp wsX1_contains := goodIn_r _ [8] (by decide +kernel) (by decide +kernel)
set_option maxRecDepth 20000 in
theorem gX1_closeUp_X1_contains : GoodIn wsX1_closeUp (va_wsS RX1 185 yX1_contains wsX1_contains) := goodIn_app (goodIn_of _ (by decide +kernel)) ggX1_closeUp_X1_contains
set_option maxRecDepth 20000 in
theorem ggX1_closeUp_X1_complements : GoodIn wsX1_closeUp wsX1_complements := goodIn_r _ [11] (by decide +kernel) (by decide +kernel)
set_option maxRecDepth 20000 in
theorem gX1_closeUp_X1_complements : GoodIn wsX1_closeUp (va_wsS RX1 188 yX1_complements wsX1_complements) := goodIn_app (goodIn_of _ (by decide +kernel)) ggX1_closeUp_X1_complements
theorem dX1_closeUp_0 : decode cX1_closeUp 0 = .ok (.iload_n 1, 1) := by decide +kernel
theorem dX1_closeUp_1 : decode cX1_closeUp 1 = .ok (.istore_n 2, 1) := by decide +kernel
theorem dX1_closeUp_2 : decode cX1_closeUp 2 = .ok (.iconst 0, 1) := by decide +kernel
theorem dX1_closeUp_3 : decode cX1_closeUp 3 = .ok (.istore_n 3, 1) := by decide +kernel
theorem dX1_closeUp_4 : decode cX1_closeUp 4 = .ok (.iload_n 3, 1) := by decide +kernel
theorem dX1_closeUp_5 : decode cX1_closeUp 5 = .ok (.bipush 16, 2) := by decide +kernel
theorem dX1_closeUp_7 : decode cX1_closeUp 7 = .ok (.if_icmp .gt 65, 3) := by decide +kernel
theorem dX1_closeUp_10 : decode cX1_closeUp 10 = .ok (.iload_n 2, 1) := by decide +kernel
theorem dX1_closeUp_11 : decode cX1_closeUp 11 = .ok (.istore 4, 2) := by decide +kernel
theorem dX1_closeUp_13 : decode cX1_closeUp 13 = .ok (.iconst 0, 1) := by decide +kernel
theorem dX1_closeUp_14 : decode cX1_closeUp 14 = .ok (.istore 5, 2) := by decide +kernel
theorem dX1_closeUp_16 : decode cX1_closeUp 16 = .ok (.iload 5, 2) := by decide +kernel
theorem dX1_closeUp_18 : decode cX1_closeUp 18 = .ok (.aload_n 0, 1) := by decide +kernel
theorem dX1_closeUp_19 : decode cX1_closeUp 19 = .ok (.getfield 69, 3) := by decide +kernel
theorem dX1_closeUp_22 : decode cX1_closeUp 22 = .ok (.if_icmp .ge 35, 3) := by decide +kernel
theorem dX1_closeUp_25 : decode cX1_closeUp 25 = .ok (.iload_n 2, 1) := by decide +kernel
theorem dX1_closeUp_26 : decode cX1_closeUp 26 = .ok (.aload_n 0, 1) := by decide +kernel
theorem dX1_closeUp_27 : decode cX1_closeUp 27 = .ok (.getfield 9, 3) := by decide +kernel
theorem dX1_closeUp_30 : decode cX1_closeUp 30 = .ok (.iload 5, 2) := by decide +kernel
theorem dX1_closeUp_32 : decode cX1_closeUp 32 = .ok (.iaload, 1) := by decide +kernel
theorem dX1_closeUp_33 : decode cX1_closeUp 33 = .ok (.invokestatic 185, 3) := by decide +kernel
theorem dX1_closeUp_36 : decode cX1_closeUp 36 = .ok (.ifCond .eq 15, 3) := by decide +kernel
theorem dX1_closeUp_39 : decode cX1_closeUp 39 = .ok (.iload_n 2, 1) := by decide +kernel
theorem dX1_closeUp_40 : decode cX1_closeUp 40 = .ok (.iconst 1, 1) := by decide +kernel
theorem dX1_closeUp_41 : decode cX1_closeUp 41 = .ok (.aload_n 0, 1) := by decide +kernel
theorem dX1_closeUp_42 : decode cX1_closeUp 42 = .ok (.getfield 13, 3) := by decide +kernel
theorem dX1_closeUp_45 : decode cX1_closeUp 45 = .ok (.iload 5, 2) := by decide +kernel
theorem dX1_closeUp_47 : decode cX1_closeUp 47 = .ok (.iaload, 1) := by decide +kernel
theorem dX1_closeUp_48 : decode cX1_closeUp 48 = .ok (.ishl, 1) := by decide +kernel
theorem dX1_closeUp_49 : decode cX1_closeUp 49 = .ok (.ior, 1) := by decide +kernel
theorem dX1_closeUp_50 : decode cX1_closeUp 50 = .ok (.istore_n 2, 1) := by decide +kernel
theorem dX1_closeUp_51 : decode cX1_closeUp 51 = .ok (.iinc 5 1, 3) := by decide +kernel
theorem dX1_closeUp_54 : decode cX1_closeUp 54 = .ok (.goto (-38), 3) := by decide +kernel
theorem dX1_closeUp_57 : decode cX1_closeUp 57 = .ok (.iload_n 2, 1) := by decide +kernel
theorem dX1_closeUp_58 : decode cX1_closeUp 58 = .ok (.iload 4, 2) := by decide +kernel
theorem dX1_closeUp_60 : decode cX1_closeUp 60 = .ok (.if_icmp .ne 6, 3) := by decide +kernel
theorem dX1_closeUp_63 : decode cX1_closeUp 63 = .ok (.goto 9, 3) := by decide +kernel
theorem dX1_closeUp_66 : decode cX1_closeUp 66 = .ok (.iinc 3 1, 3) := by decide +kernel
theorem dX1_closeUp_69 : decode cX1_closeUp 69 = .ok (.goto (-65), 3) := by decide +kernel
theorem dX1_closeUp_72 : decode cX1_closeUp 72 = .ok (.iload_n 2, 1) := by decide +kernel
theorem dX1_closeUp_73 : decode cX1_closeUp 73 = .ok (.iload_n 2, 1) := by decide +kernel
theorem dX1_closeUp_74 : decode cX1_closeUp 74 = .ok (.invokestatic 188, 3) := by decide +kernel
theorem dX1_closeUp_77 : decode cX1_closeUp 77 = .ok (.iand, 1) := by decide +kernel
theorem dX1_closeUp_78 : decode cX1_closeUp 78 = .ok (.ifCond .eq 8, 3) := by decide +kernel
theorem dX1_closeUp_81 : decode cX1_closeUp 81 = .ok (.ldc 142, 2) := by decide +kernel
theorem dX1_closeUp_83 : decode cX1_closeUp 83 = .ok (.goto 4, 3) := by decide +kernel
theorem dX1_closeUp_86 : decode cX1_closeUp 86 = .ok (.iload_n 2, 1) := by decide +kernel
theorem dX1_closeUp_87 : decode cX1_closeUp 87 = .ok (.ireturn, 1) := by decide +kernel
set_option maxRecDepth 20000 in
theorem ggX1_opens_X1_complements : GoodIn wsX1_opens wsX1_complements := goodIn_r _ [5] (by decide +kernel) (by decide +kernel)
set_option maxRecDepth 20000 in
theorem gX1_opens_X1_complements : GoodIn wsX1_opens (va_wsS RX1 188 yX1_complements wsX1_complements) := goodIn_app (goodIn_of _ (by decide +kernel)) ggX1_opens_X1_complements
theorem dX1_opens_0 : decode cX1_opens 0 = .ok (.aload_n 0, 1) := by decide +kernel
theorem dX1_opens_1 : decode cX1_opens 1 = .ok (.getfield 19, 3) := by decide +kernel
theorem dX1_opens_4 : decode cX1_opens 4 = .ok (.iload_n 1, 1) := by decide +kernel
theorem dX1_opens_5 : decode cX1_opens 5 = .ok (.iaload, 1) := by decide +kernel
theorem dX1_opens_6 : decode cX1_opens 6 = .ok (.invokestatic 188, 3) := by decide +kernel
theorem dX1_opens_9 : decode cX1_opens 9 = .ok (.iload_n 2, 1) := by decide +kernel
theorem dX1_opens_10 : decode cX1_opens 10 = .ok (.iand, 1) := by decide +kernel
theorem dX1_opens_11 : decode cX1_opens 11 = .ok (.ifCond .ne 7, 3) := by decide +kernel
theorem dX1_opens_14 : decode cX1_opens 14 = .ok (.iconst 1, 1) := by decide +kernel
theorem dX1_opens_15 : decode cX1_opens 15 = .ok (.goto 4, 3) := by decide +kernel
theorem dX1_opens_18 : decode cX1_opens 18 = .ok (.iconst 0, 1) := by decide +kernel
theorem dX1_opens_19 : decode cX1_opens 19 = .ok (.ireturn, 1) := by decide +kernel
theorem dX1_forgetFindings_0 : decode cX1_forgetFindings 0 = .ok (.aload_n 0, 1) := by decide +kernel
theorem dX1_forgetFindings_1 : decode cX1_forgetFindings 1 = .ok (.iconst 0, 1) := by decide +kernel
theorem dX1_forgetFindings_2 : decode cX1_forgetFindings 2 = .ok (.putfield 191, 3) := by decide +kernel
theorem dX1_forgetFindings_5 : decode cX1_forgetFindings 5 = .ok (.aload_n 0, 1) := by decide +kernel
theorem dX1_forgetFindings_6 : decode cX1_forgetFindings 6 = .ok (.iconst 0, 1) := by decide +kernel
theorem dX1_forgetFindings_7 : decode cX1_forgetFindings 7 = .ok (.putfield 106, 3) := by decide +kernel
theorem dX1_forgetFindings_10 : decode cX1_forgetFindings 10 = .ok (.return_, 1) := by decide +kernel
set_option maxRecDepth 20000 in
theorem ggX1_findExtensions_X1_conclusionsOf : GoodIn wsX1_findExtensions wsX1_conclusionsOf := goodIn_r _ [11, 2, 12, 13, 14, 10, 15, 49, 50, 51, 52, 53, 54, 55, 56, 57, 58, 59, 60, 61, 62, 63, 64, 65, 66, 67, 68] (by decide +kernel) (by decide +kernel)
set_option maxRecDepth 20000 in
theorem gX1_findExtensions_X1_conclusionsOf : GoodIn wsX1_findExtensions (wsV RX1 194 RX1 yX1_conclusionsOf wsX1_conclusionsOf) := goodIn_app (goodIn_of _ (by decide +kernel)) ggX1_findExtensions_X1_conclusionsOf
set_option maxRecDepth 20000 in
theorem ggX1_findExtensions_X1_closeUp : GoodIn wsX1_findExtensions wsX1_closeUp := goodIn_r _ [19, 20, 21, 22, 23, 24, 25, 10, 26, 27, 28, 29, 49, 50, 51, 52, 53, 54, 55, 56, 57, 58, 59, 60, 61, 62, 63, 64, 65, 66, 67, 68] (by decide +kernel) (by decide +kernel)
set_option maxRecDepth 20000 in
theorem gX1_findExtensions_X1_closeUp : GoodIn wsX1_findExtensions (wsV RX1 117 RX1 yX1_closeUp wsX1_closeUp) := goodIn_app (goodIn_of _ (by decide +kernel)) ggX1_findExtensions_X1_closeUp
set_option maxRecDepth 20000 in
theorem ggX1_findExtensions_X1_usableFor : GoodIn wsX1_findExtensions wsX1_usableFor := goodIn_r _ [33, 2, 34, 12, 24, 25, 10, 26, 35, 36, 37, 38, 39, 27, 28, 29, 13, 14, 15, 49, 50, 51, 52, 53, 54, 55, 56, 57, 58, 59, 60, 61, 62, 63, 64, 65, 66, 67, 68] (by decide +kernel) (by decide +kernel)
set_option maxRecDepth 20000 in
theorem gX1_findExtensions_X1_usableFor : GoodIn wsX1_findExtensions (wsV RX1 197 RX1 yX1_usableFor wsX1_usableFor) := goodIn_app (goodIn_of _ (by decide +kernel)) ggX1_findExtensions_X1_usableFor
set_option maxRecDepth 20000 in
theorem ggX1_findExtensions_X1_generatorsFor : GoodIn wsX1_findExtensions wsX1_generatorsFor := goodIn_r _ [43, 2, 3, 34, 35, 36, 37, 10, 38, 39, 27, 28, 29, 24, 25, 26, 49, 50, 51, 52, 53, 54, 55, 56, 57, 58, 59, 60, 61, 62, 63, 64, 65, 66, 67, 68] (by decide +kernel) (by decide +kernel)
set_option maxRecDepth 20000 in
theorem gX1_findExtensions_X1_generatorsFor : GoodIn wsX1_findExtensions (wsV RX1 127 RX1 yX1_generatorsFor wsX1_generatorsFor) := goodIn_app (goodIn_of _ (by decide +kernel)) ggX1_findExtensions_X1_generatorsFor
set_option maxRecDepth 20000 in
theorem ggX1_findExtensions_X1_insertExtension : GoodIn wsX1_findExtensions wsX1_insertExtension := goodIn_r _ [47, 6, 48, 49, 50, 51, 52, 53, 54, 55, 56, 57, 58, 59, 60, 61, 62, 63, 64, 65, 66, 67, 68] (by decide +kernel) (by decide +kernel)
set_option maxRecDepth 20000 in
theorem gX1_findExtensions_X1_insertExtension : GoodIn wsX1_findExtensions (wsV RX1 200 RX1 yX1_insertExtension wsX1_insertExtension) := goodIn_app (goodIn_of _ (by decide +kernel)) ggX1_findExtensions_X1_insertExtension
theorem dX1_findExtensions_0 : decode cX1_findExtensions 0 = .ok (.aload_n 0, 1) := by decide +kernel
theorem dX1_findExtensions_1 : decode cX1_findExtensions 1 = .ok (.getfield 191, 3) := by decide +kernel
theorem dX1_findExtensions_4 : decode cX1_findExtensions 4 = .ok (.ifCond .eq 4, 3) := by decide +kernel
theorem dX1_findExtensions_7 : decode cX1_findExtensions 7 = .ok (.return_, 1) := by decide +kernel
theorem dX1_findExtensions_8 : decode cX1_findExtensions 8 = .ok (.iconst 1, 1) := by decide +kernel
theorem dX1_findExtensions_9 : decode cX1_findExtensions 9 = .ok (.aload_n 0, 1) := by decide +kernel
theorem dX1_findExtensions_10 : decode cX1_findExtensions 10 = .ok (.getfield 79, 3) := by decide +kernel
theorem dX1_findExtensions_13 : decode cX1_findExtensions 13 = .ok (.ishl, 1) := by decide +kernel
theorem dX1_findExtensions_14 : decode cX1_findExtensions 14 = .ok (.istore_n 1, 1) := by decide +kernel
theorem dX1_findExtensions_15 : decode cX1_findExtensions 15 = .ok (.iconst 0, 1) := by decide +kernel
theorem dX1_findExtensions_16 : decode cX1_findExtensions 16 = .ok (.istore_n 2, 1) := by decide +kernel
theorem dX1_findExtensions_17 : decode cX1_findExtensions 17 = .ok (.iload_n 2, 1) := by decide +kernel
theorem dX1_findExtensions_18 : decode cX1_findExtensions 18 = .ok (.iload_n 1, 1) := by decide +kernel
theorem dX1_findExtensions_19 : decode cX1_findExtensions 19 = .ok (.if_icmp .ge 45, 3) := by decide +kernel
theorem dX1_findExtensions_22 : decode cX1_findExtensions 22 = .ok (.aload_n 0, 1) := by decide +kernel
theorem dX1_findExtensions_23 : decode cX1_findExtensions 23 = .ok (.getfield 38, 3) := by decide +kernel
theorem dX1_findExtensions_26 : decode cX1_findExtensions 26 = .ok (.iload_n 2, 1) := by decide +kernel
theorem dX1_findExtensions_27 : decode cX1_findExtensions 27 = .ok (.aload_n 0, 1) := by decide +kernel
theorem dX1_findExtensions_28 : decode cX1_findExtensions 28 = .ok (.aload_n 0, 1) := by decide +kernel
theorem dX1_findExtensions_29 : decode cX1_findExtensions 29 = .ok (.getfield 55, 3) := by decide +kernel
theorem dX1_findExtensions_32 : decode cX1_findExtensions 32 = .ok (.aload_n 0, 1) := by decide +kernel
theorem dX1_findExtensions_33 : decode cX1_findExtensions 33 = .ok (.iload_n 2, 1) := by decide +kernel
theorem dX1_findExtensions_34 : decode cX1_findExtensions 34 = .ok (.invokevirtual 194, 3) := by decide +kernel
theorem dX1_findExtensions_37 : decode cX1_findExtensions 37 = .ok (.ior, 1) := by decide +kernel
theorem dX1_findExtensions_38 : decode cX1_findExtensions 38 = .ok (.invokevirtual 117, 3) := by decide +kernel
theorem dX1_findExtensions_41 : decode cX1_findExtensions 41 = .ok (.iastore, 1) := by decide +kernel
theorem dX1_findExtensions_42 : decode cX1_findExtensions 42 = .ok (.aload_n 0, 1) := by decide +kernel
theorem dX1_findExtensions_43 : decode cX1_findExtensions 43 = .ok (.getfield 41, 3) := by decide +kernel
theorem dX1_findExtensions_46 : decode cX1_findExtensions 46 = .ok (.iload_n 2, 1) := by decide +kernel
theorem dX1_findExtensions_47 : decode cX1_findExtensions 47 = .ok (.aload_n 0, 1) := by decide +kernel
theorem dX1_findExtensions_48 : decode cX1_findExtensions 48 = .ok (.aload_n 0, 1) := by decide +kernel
theorem dX1_findExtensions_49 : decode cX1_findExtensions 49 = .ok (.getfield 38, 3) := by decide +kernel
theorem dX1_findExtensions_52 : decode cX1_findExtensions 52 = .ok (.iload_n 2, 1) := by decide +kernel
theorem dX1_findExtensions_53 : decode cX1_findExtensions 53 = .ok (.iaload, 1) := by decide +kernel
theorem dX1_findExtensions_54 : decode cX1_findExtensions 54 = .ok (.invokevirtual 197, 3) := by decide +kernel
theorem dX1_findExtensions_57 : decode cX1_findExtensions 57 = .ok (.iastore, 1) := by decide +kernel
theorem dX1_findExtensions_58 : decode cX1_findExtensions 58 = .ok (.iinc 2 1, 3) := by decide +kernel
theorem dX1_findExtensions_61 : decode cX1_findExtensions 61 = .ok (.goto (-44), 3) := by decide +kernel
theorem dX1_findExtensions_64 : decode cX1_findExtensions 64 = .ok (.aload_n 0, 1) := by decide +kernel
theorem dX1_findExtensions_65 : decode cX1_findExtensions 65 = .ok (.iconst 0, 1) := by decide +kernel
theorem dX1_findExtensions_66 : decode cX1_findExtensions 66 = .ok (.putfield 130, 3) := by decide +kernel
theorem dX1_findExtensions_69 : decode cX1_findExtensions 69 = .ok (.iconst 0, 1) := by decide +kernel
theorem dX1_findExtensions_70 : decode cX1_findExtensions 70 = .ok (.istore_n 2, 1) := by decide +kernel
theorem dX1_findExtensions_71 : decode cX1_findExtensions 71 = .ok (.iload_n 2, 1) := by decide +kernel
theorem dX1_findExtensions_72 : decode cX1_findExtensions 72 = .ok (.iload_n 1, 1) := by decide +kernel
theorem dX1_findExtensions_73 : decode cX1_findExtensions 73 = .ok (.if_icmp .ge 33, 3) := by decide +kernel
theorem dX1_findExtensions_76 : decode cX1_findExtensions 76 = .ok (.aload_n 0, 1) := by decide +kernel
theorem dX1_findExtensions_77 : decode cX1_findExtensions 77 = .ok (.aload_n 0, 1) := by decide +kernel
theorem dX1_findExtensions_78 : decode cX1_findExtensions 78 = .ok (.getfield 38, 3) := by decide +kernel
theorem dX1_findExtensions_81 : decode cX1_findExtensions 81 = .ok (.iload_n 2, 1) := by decide +kernel
theorem dX1_findExtensions_82 : decode cX1_findExtensions 82 = .ok (.iaload, 1) := by decide +kernel
theorem dX1_findExtensions_83 : decode cX1_findExtensions 83 = .ok (.invokevirtual 127, 3) := by decide +kernel
theorem dX1_findExtensions_86 : decode cX1_findExtensions 86 = .ok (.iload_n 2, 1) := by decide +kernel
theorem dX1_findExtensions_87 : decode cX1_findExtensions 87 = .ok (.if_icmp .ne 13, 3) := by decide +kernel
theorem dX1_findExtensions_90 : decode cX1_findExtensions 90 = .ok (.aload_n 0, 1) := by decide +kernel
theorem dX1_findExtensions_91 : decode cX1_findExtensions 91 = .ok (.aload_n 0, 1) := by decide +kernel
theorem dX1_findExtensions_92 : decode cX1_findExtensions 92 = .ok (.getfield 38, 3) := by decide +kernel
theorem dX1_findExtensions_95 : decode cX1_findExtensions 95 = .ok (.iload_n 2, 1) := by decide +kernel
theorem dX1_findExtensions_96 : decode cX1_findExtensions 96 = .ok (.iaload, 1) := by decide +kernel
theorem dX1_findExtensions_97 : decode cX1_findExtensions 97 = .ok (.invokevirtual 200, 3) := by decide +kernel
theorem dX1_findExtensions_100 : decode cX1_findExtensions 100 = .ok (.iinc 2 1, 3) := by decide +kernel
theorem dX1_findExtensions_103 : decode cX1_findExtensions 103 = .ok (.goto (-32), 3) := by decide +kernel
theorem dX1_findExtensions_106 : decode cX1_findExtensions 106 = .ok (.aload_n 0, 1) := by decide +kernel
theorem dX1_findExtensions_107 : decode cX1_findExtensions 107 = .ok (.iconst 1, 1) := by decide +kernel
theorem dX1_findExtensions_108 : decode cX1_findExtensions 108 = .ok (.putfield 191, 3) := by decide +kernel
theorem dX1_findExtensions_111 : decode cX1_findExtensions 111 = .ok (.return_, 1) := by decide +kernel
set_option maxRecDepth 20000 in
theorem ggX1_conclusionsOf_X1_has : GoodIn wsX1_conclusionsOf wsX1_has := goodIn_r _ [6] (by decide +kernel) (by decide +kernel)
set_option maxRecDepth 20000 in
theorem gX1_conclusionsOf_X1_has : GoodIn wsX1_conclusionsOf (va_wsS RX1 59 yX1_has wsX1_has) := goodIn_app (goodIn_of _ (by decide +kernel)) ggX1_conclusionsOf_X1_has
theorem dX1_conclusionsOf_0 : decode cX1_conclusionsOf 0 = .ok (.iconst 0, 1) := by decide +kernel
theorem dX1_conclusionsOf_1 : decode cX1_conclusionsOf 1 = .ok (.istore_n 2, 1) := by decide +kernel
theorem dX1_conclusionsOf_2 : decode cX1_conclusionsOf 2 = .ok (.iconst 0, 1) := by decide +kernel
theorem dX1_conclusionsOf_3 : decode cX1_conclusionsOf 3 = .ok (.istore_n 3, 1) := by decide +kernel
theorem dX1_conclusionsOf_4 : decode cX1_conclusionsOf 4 = .ok (.iload_n 3, 1) := by decide +kernel
theorem dX1_conclusionsOf_5 : decode cX1_conclusionsOf 5 = .ok (.aload_n 0, 1) := by decide +kernel
theorem dX1_conclusionsOf_6 : decode cX1_conclusionsOf 6 = .ok (.getfield 79, 3) := by decide +kernel
theorem dX1_conclusionsOf_9 : decode cX1_conclusionsOf 9 = .ok (.if_icmp .ge 28, 3) := by decide +kernel
theorem dX1_conclusionsOf_12 : decode cX1_conclusionsOf 12 = .ok (.iload_n 1, 1) := by decide +kernel
theorem dX1_conclusionsOf_13 : decode cX1_conclusionsOf 13 = .ok (.iload_n 3, 1) := by decide +kernel
theorem dX1_conclusionsOf_14 : decode cX1_conclusionsOf 14 = .ok (.invokestatic 59, 3) := by decide +kernel
theorem dX1_conclusionsOf_17 : decode cX1_conclusionsOf 17 = .ok (.ifCond .eq 14, 3) := by decide +kernel
theorem dX1_conclusionsOf_20 : decode cX1_conclusionsOf 20 = .ok (.iload_n 2, 1) := by decide +kernel
theorem dX1_conclusionsOf_21 : decode cX1_conclusionsOf 21 = .ok (.iconst 1, 1) := by decide +kernel
theorem dX1_conclusionsOf_22 : decode cX1_conclusionsOf 22 = .ok (.aload_n 0, 1) := by decide +kernel
theorem dX1_conclusionsOf_23 : decode cX1_conclusionsOf 23 = .ok (.getfield 22, 3) := by decide +kernel
theorem dX1_conclusionsOf_26 : decode cX1_conclusionsOf 26 = .ok (.iload_n 3, 1) := by decide +kernel
theorem dX1_conclusionsOf_27 : decode cX1_conclusionsOf 27 = .ok (.iaload, 1) := by decide +kernel
theorem dX1_conclusionsOf_28 : decode cX1_conclusionsOf 28 = .ok (.ishl, 1) := by decide +kernel
theorem dX1_conclusionsOf_29 : decode cX1_conclusionsOf 29 = .ok (.ior, 1) := by decide +kernel
theorem dX1_conclusionsOf_30 : decode cX1_conclusionsOf 30 = .ok (.istore_n 2, 1) := by decide +kernel
theorem dX1_conclusionsOf_31 : decode cX1_conclusionsOf 31 = .ok (.iinc 3 1, 3) := by decide +kernel
theorem dX1_conclusionsOf_34 : decode cX1_conclusionsOf 34 = .ok (.goto (-30), 3) := by decide +kernel
theorem dX1_conclusionsOf_37 : decode cX1_conclusionsOf 37 = .ok (.iload_n 2, 1) := by decide +kernel
theorem dX1_conclusionsOf_38 : decode cX1_conclusionsOf 38 = .ok (.ireturn, 1) := by decide +kernel
set_option maxRecDepth 20000 in
theorem ggX1_usableFor_X1_contains : GoodIn wsX1_usableFor wsX1_contains := goodIn_r _ [7] (by decide +kernel) (by decide +kernel)
set_option maxRecDepth 20000 in
theorem gX1_usableFor_X1_contains : GoodIn wsX1_usableFor (va_wsS RX1 185 yX1_contains wsX1_contains) := goodIn_app (goodIn_of _ (by decide +kernel)) ggX1_usableFor_X1_contains
set_option maxRecDepth 20000 in
theorem ggX1_usableFor_X1_opens : GoodIn wsX1_usableFor wsX1_opens := goodIn_r _ [11, 12, 13, 14, 6, 15, 19, 20, 21, 22, 23, 24, 25, 26, 27, 28, 29, 30, 31, 32, 33, 34, 35, 36, 37, 38] (by decide +kernel) (by decide +kernel)
set_option maxRecDepth 20000 in
theorem gX1_usableFor_X1_opens : GoodIn wsX1_usableFor (wsV RX1 121 RX1 yX1_opens wsX1_opens) := goodIn_app (goodIn_of _ (by decide +kernel)) ggX1_usableFor_X1_opens
set_option maxRecDepth 20000 in
theorem ggX1_usableFor_X1_has : GoodIn wsX1_usableFor wsX1_has := goodIn_r _ [18] (by decide +kernel) (by decide +kernel)
set_option maxRecDepth 20000 in
theorem gX1_usableFor_X1_has : GoodIn wsX1_usableFor (va_wsS RX1 59 yX1_has wsX1_has) := goodIn_app (goodIn_of _ (by decide +kernel)) ggX1_usableFor_X1_has
theorem dX1_usableFor_0 : decode cX1_usableFor 0 = .ok (.iconst 0, 1) := by decide +kernel
theorem dX1_usableFor_1 : decode cX1_usableFor 1 = .ok (.istore_n 2, 1) := by decide +kernel
theorem dX1_usableFor_2 : decode cX1_usableFor 2 = .ok (.iconst 0, 1) := by decide +kernel
theorem dX1_usableFor_3 : decode cX1_usableFor 3 = .ok (.istore_n 3, 1) := by decide +kernel
theorem dX1_usableFor_4 : decode cX1_usableFor 4 = .ok (.iload_n 3, 1) := by decide +kernel
theorem dX1_usableFor_5 : decode cX1_usableFor 5 = .ok (.aload_n 0, 1) := by decide +kernel
theorem dX1_usableFor_6 : decode cX1_usableFor 6 = .ok (.getfield 79, 3) := by decide +kernel
theorem dX1_usableFor_9 : decode cX1_usableFor 9 = .ok (.if_icmp .ge 50, 3) := by decide +kernel
theorem dX1_usableFor_12 : decode cX1_usableFor 12 = .ok (.iload_n 1, 1) := by decide +kernel
theorem dX1_usableFor_13 : decode cX1_usableFor 13 = .ok (.aload_n 0, 1) := by decide +kernel
theorem dX1_usableFor_14 : decode cX1_usableFor 14 = .ok (.getfield 16, 3) := by decide +kernel
theorem dX1_usableFor_17 : decode cX1_usableFor 17 = .ok (.iload_n 3, 1) := by decide +kernel
theorem dX1_usableFor_18 : decode cX1_usableFor 18 = .ok (.iaload, 1) := by decide +kernel
theorem dX1_usableFor_19 : decode cX1_usableFor 19 = .ok (.invokestatic 185, 3) := by decide +kernel
theorem dX1_usableFor_22 : decode cX1_usableFor 22 = .ok (.ifCond .eq 31, 3) := by decide +kernel
theorem dX1_usableFor_25 : decode cX1_usableFor 25 = .ok (.aload_n 0, 1) := by decide +kernel
theorem dX1_usableFor_26 : decode cX1_usableFor 26 = .ok (.iload_n 3, 1) := by decide +kernel
theorem dX1_usableFor_27 : decode cX1_usableFor 27 = .ok (.iload_n 1, 1) := by decide +kernel
theorem dX1_usableFor_28 : decode cX1_usableFor 28 = .ok (.invokevirtual 121, 3) := by decide +kernel
theorem dX1_usableFor_31 : decode cX1_usableFor 31 = .ok (.ifCond .eq 22, 3) := by decide +kernel
theorem dX1_usableFor_34 : decode cX1_usableFor 34 = .ok (.iload_n 1, 1) := by decide +kernel
theorem dX1_usableFor_35 : decode cX1_usableFor 35 = .ok (.aload_n 0, 1) := by decide +kernel
theorem dX1_usableFor_36 : decode cX1_usableFor 36 = .ok (.getfield 22, 3) := by decide +kernel
theorem dX1_usableFor_39 : decode cX1_usableFor 39 = .ok (.iload_n 3, 1) := by decide +kernel
theorem dX1_usableFor_40 : decode cX1_usableFor 40 = .ok (.iaload, 1) := by decide +kernel
theorem dX1_usableFor_41 : decode cX1_usableFor 41 = .ok (.invokestatic 59, 3) := by decide +kernel
theorem dX1_usableFor_44 : decode cX1_usableFor 44 = .ok (.ifCond .ne 9, 3) := by decide +kernel
theorem dX1_usableFor_47 : decode cX1_usableFor 47 = .ok (.iload_n 2, 1) := by decide +kernel
theorem dX1_usableFor_48 : decode cX1_usableFor 48 = .ok (.iconst 1, 1) := by decide +kernel
theorem dX1_usableFor_49 : decode cX1_usableFor 49 = .ok (.iload_n 3, 1) := by decide +kernel
theorem dX1_usableFor_50 : decode cX1_usableFor 50 = .ok (.ishl, 1) := by decide +kernel
theorem dX1_usableFor_51 : decode cX1_usableFor 51 = .ok (.ior, 1) := by decide +kernel
theorem dX1_usableFor_52 : decode cX1_usableFor 52 = .ok (.istore_n 2, 1) := by decide +kernel
theorem dX1_usableFor_53 : decode cX1_usableFor 53 = .ok (.iinc 3 1, 3) := by decide +kernel
theorem dX1_usableFor_56 : decode cX1_usableFor 56 = .ok (.goto (-52), 3) := by decide +kernel
theorem dX1_usableFor_59 : decode cX1_usableFor 59 = .ok (.iload_n 2, 1) := by decide +kernel
theorem dX1_usableFor_60 : decode cX1_usableFor 60 = .ok (.ireturn, 1) := by decide +kernel
set_option maxRecDepth 20000 in
theorem ggX1_generatorsFor_X1_opens : GoodIn wsX1_generatorsFor wsX1_opens := goodIn_r _ [8, 9, 10, 11, 7, 12, 16, 17, 18, 19, 20, 21, 22, 23, 24, 25, 26, 27, 28, 29, 30, 31, 32, 33, 34, 35] (by decide +kernel) (by decide +kernel)
set_option maxRecDepth 20000 in
theorem gX1_generatorsFor_X1_opens : GoodIn wsX1_generatorsFor (wsV RX1 121 RX1 yX1_opens wsX1_opens) := goodIn_app (goodIn_of _ (by decide +kernel)) ggX1_generatorsFor_X1_opens
set_option maxRecDepth 20000 in
theorem ggX1_generatorsFor_X1_contains : GoodIn wsX1_generatorsFor wsX1_contains := goodIn_r _ [15] (by decide +kernel) (by decide +kernel)
set_option maxRecDepth 20000 in
theorem gX1_generatorsFor_X1_contains : GoodIn wsX1_generatorsFor (va_wsS RX1 185 yX1_contains wsX1_contains) := goodIn_app (goodIn_of _ (by decide +kernel)) ggX1_generatorsFor_X1_contains
theorem dX1_generatorsFor_0 : decode cX1_generatorsFor 0 = .ok (.iconst 0, 1) := by decide +kernel
theorem dX1_generatorsFor_1 : decode cX1_generatorsFor 1 = .ok (.istore_n 2, 1) := by decide +kernel
theorem dX1_generatorsFor_2 : decode cX1_generatorsFor 2 = .ok (.iconst 0, 1) := by decide +kernel
theorem dX1_generatorsFor_3 : decode cX1_generatorsFor 3 = .ok (.istore_n 3, 1) := by decide +kernel
theorem dX1_generatorsFor_4 : decode cX1_generatorsFor 4 = .ok (.iload_n 3, 1) := by decide +kernel
theorem dX1_generatorsFor_5 : decode cX1_generatorsFor 5 = .ok (.aload_n 0, 1) := by decide +kernel
theorem dX1_generatorsFor_6 : decode cX1_generatorsFor 6 = .ok (.getfield 79, 3) := by decide +kernel
theorem dX1_generatorsFor_9 : decode cX1_generatorsFor 9 = .ok (.if_icmp .gt 75, 3) := by decide +kernel
theorem dX1_generatorsFor_12 : decode cX1_generatorsFor 12 = .ok (.iload_n 2, 1) := by decide +kernel
theorem dX1_generatorsFor_13 : decode cX1_generatorsFor 13 = .ok (.istore 4, 2) := by decide +kernel
theorem dX1_generatorsFor_15 : decode cX1_generatorsFor 15 = .ok (.iconst 0, 1) := by decide +kernel
theorem dX1_generatorsFor_16 : decode cX1_generatorsFor 16 = .ok (.istore 5, 2) := by decide +kernel
theorem dX1_generatorsFor_18 : decode cX1_generatorsFor 18 = .ok (.iload 5, 2) := by decide +kernel
theorem dX1_generatorsFor_20 : decode cX1_generatorsFor 20 = .ok (.aload_n 0, 1) := by decide +kernel
theorem dX1_generatorsFor_21 : decode cX1_generatorsFor 21 = .ok (.getfield 79, 3) := by decide +kernel
theorem dX1_generatorsFor_24 : decode cX1_generatorsFor 24 = .ok (.if_icmp .ge 45, 3) := by decide +kernel
theorem dX1_generatorsFor_27 : decode cX1_generatorsFor 27 = .ok (.aload_n 0, 1) := by decide +kernel
theorem dX1_generatorsFor_28 : decode cX1_generatorsFor 28 = .ok (.iload 5, 2) := by decide +kernel
theorem dX1_generatorsFor_30 : decode cX1_generatorsFor 30 = .ok (.iload_n 1, 1) := by decide +kernel
theorem dX1_generatorsFor_31 : decode cX1_generatorsFor 31 = .ok (.invokevirtual 121, 3) := by decide +kernel
theorem dX1_generatorsFor_34 : decode cX1_generatorsFor 34 = .ok (.ifCond .eq 29, 3) := by decide +kernel
theorem dX1_generatorsFor_37 : decode cX1_generatorsFor 37 = .ok (.aload_n 0, 1) := by decide +kernel
theorem dX1_generatorsFor_38 : decode cX1_generatorsFor 38 = .ok (.getfield 38, 3) := by decide +kernel
theorem dX1_generatorsFor_41 : decode cX1_generatorsFor 41 = .ok (.iload_n 2, 1) := by decide +kernel
theorem dX1_generatorsFor_42 : decode cX1_generatorsFor 42 = .ok (.iaload, 1) := by decide +kernel
theorem dX1_generatorsFor_43 : decode cX1_generatorsFor 43 = .ok (.aload_n 0, 1) := by decide +kernel
theorem dX1_generatorsFor_44 : decode cX1_generatorsFor 44 = .ok (.getfield 16, 3) := by decide +kernel
theorem dX1_generatorsFor_47 : decode cX1_generatorsFor 47 = .ok (.iload 5, 2) := by decide +kernel
theorem dX1_generatorsFor_49 : decode cX1_generatorsFor 49 = .ok (.iaload, 1) := by decide +kernel
theorem dX1_generatorsFor_50 : decode cX1_generatorsFor 50 = .ok (.invokestatic 185, 3) := by decide +kernel
theorem dX1_generatorsFor_53 : decode cX1_generatorsFor 53 = .ok (.ifCond .eq 10, 3) := by decide +kernel
theorem dX1_generatorsFor_56 : decode cX1_generatorsFor 56 = .ok (.iload_n 2, 1) := by decide +kernel
theorem dX1_generatorsFor_57 : decode cX1_generatorsFor 57 = .ok (.iconst 1, 1) := by decide +kernel
theorem dX1_generatorsFor_58 : decode cX1_generatorsFor 58 = .ok (.iload 5, 2) := by decide +kernel
theorem dX1_generatorsFor_60 : decode cX1_generatorsFor 60 = .ok (.ishl, 1) := by decide +kernel
theorem dX1_generatorsFor_61 : decode cX1_generatorsFor 61 = .ok (.ior, 1) := by decide +kernel
theorem dX1_generatorsFor_62 : decode cX1_generatorsFor 62 = .ok (.istore_n 2, 1) := by decide +kernel
theorem dX1_generatorsFor_63 : decode cX1_generatorsFor 63 = .ok (.iinc 5 1, 3) := by decide +kernel
theorem dX1_generatorsFor_66 : decode cX1_generatorsFor 66 = .ok (.goto (-48), 3) := by decide +kernel
theorem dX1_generatorsFor_69 : decode cX1_generatorsFor 69 = .ok (.iload_n 2, 1) := by decide +kernel
theorem dX1_generatorsFor_70 : decode cX1_generatorsFor 70 = .ok (.iload 4, 2) := by decide +kernel
theorem dX1_generatorsFor_72 : decode cX1_generatorsFor 72 = .ok (.if_icmp .ne 6, 3) := by decide +kernel
theorem dX1_generatorsFor_75 : decode cX1_generatorsFor 75 = .ok (.goto 9, 3) := by decide +kernel
theorem dX1_generatorsFor_78 : decode cX1_generatorsFor 78 = .ok (.iinc 3 1, 3) := by decide +kernel
theorem dX1_generatorsFor_81 : decode cX1_generatorsFor 81 = .ok (.goto (-77), 3) := by decide +kernel
theorem dX1_generatorsFor_84 : decode cX1_generatorsFor 84 = .ok (.iload_n 2, 1) := by decide +kernel
theorem dX1_generatorsFor_85 : decode cX1_generatorsFor 85 = .ok (.ireturn, 1) := by decide +kernel
theorem dX1_insertExtension_0 : decode cX1_insertExtension 0 = .ok (.aload_n 0, 1) := by decide +kernel
theorem dX1_insertExtension_1 : decode cX1_insertExtension 1 = .ok (.getfield 130, 3) := by decide +kernel
theorem dX1_insertExtension_4 : decode cX1_insertExtension 4 = .ok (.bipush 64, 2) := by decide +kernel
theorem dX1_insertExtension_6 : decode cX1_insertExtension 6 = .ok (.if_icmp .lt 4, 3) := by decide +kernel
theorem dX1_insertExtension_9 : decode cX1_insertExtension 9 = .ok (.return_, 1) := by decide +kernel
theorem dX1_insertExtension_10 : decode cX1_insertExtension 10 = .ok (.aload_n 0, 1) := by decide +kernel
theorem dX1_insertExtension_11 : decode cX1_insertExtension 11 = .ok (.getfield 130, 3) := by decide +kernel
theorem dX1_insertExtension_14 : decode cX1_insertExtension 14 = .ok (.istore_n 2, 1) := by decide +kernel
theorem dX1_insertExtension_15 : decode cX1_insertExtension 15 = .ok (.iload_n 2, 1) := by decide +kernel
theorem dX1_insertExtension_16 : decode cX1_insertExtension 16 = .ok (.ifCond .le 35, 3) := by decide +kernel
theorem dX1_insertExtension_19 : decode cX1_insertExtension 19 = .ok (.aload_n 0, 1) := by decide +kernel
theorem dX1_insertExtension_20 : decode cX1_insertExtension 20 = .ok (.getfield 44, 3) := by decide +kernel
theorem dX1_insertExtension_23 : decode cX1_insertExtension 23 = .ok (.iload_n 2, 1) := by decide +kernel
theorem dX1_insertExtension_24 : decode cX1_insertExtension 24 = .ok (.iconst 1, 1) := by decide +kernel
theorem dX1_insertExtension_25 : decode cX1_insertExtension 25 = .ok (.isub, 1) := by decide +kernel
theorem dX1_insertExtension_26 : decode cX1_insertExtension 26 = .ok (.iaload, 1) := by decide +kernel
theorem dX1_insertExtension_27 : decode cX1_insertExtension 27 = .ok (.iload_n 1, 1) := by decide +kernel
theorem dX1_insertExtension_28 : decode cX1_insertExtension 28 = .ok (.if_icmp .le 23, 3) := by decide +kernel
theorem dX1_insertExtension_31 : decode cX1_insertExtension 31 = .ok (.aload_n 0, 1) := by decide +kernel
theorem dX1_insertExtension_32 : decode cX1_insertExtension 32 = .ok (.getfield 44, 3) := by decide +kernel
theorem dX1_insertExtension_35 : decode cX1_insertExtension 35 = .ok (.iload_n 2, 1) := by decide +kernel
theorem dX1_insertExtension_36 : decode cX1_insertExtension 36 = .ok (.aload_n 0, 1) := by decide +kernel
theorem dX1_insertExtension_37 : decode cX1_insertExtension 37 = .ok (.getfield 44, 3) := by decide +kernel
theorem dX1_insertExtension_40 : decode cX1_insertExtension 40 = .ok (.iload_n 2, 1) := by decide +kernel
theorem dX1_insertExtension_41 : decode cX1_insertExtension 41 = .ok (.iconst 1, 1) := by decide +kernel
theorem dX1_insertExtension_42 : decode cX1_insertExtension 42 = .ok (.isub, 1) := by decide +kernel
theorem dX1_insertExtension_43 : decode cX1_insertExtension 43 = .ok (.iaload, 1) := by decide +kernel
theorem dX1_insertExtension_44 : decode cX1_insertExtension 44 = .ok (.iastore, 1) := by decide +kernel
theorem dX1_insertExtension_45 : decode cX1_insertExtension 45 = .ok (.iinc 2 (-1), 3) := by decide +kernel
theorem dX1_insertExtension_48 : decode cX1_insertExtension 48 = .ok (.goto (-33), 3) := by decide +kernel
theorem dX1_insertExtension_51 : decode cX1_insertExtension 51 = .ok (.aload_n 0, 1) := by decide +kernel
theorem dX1_insertExtension_52 : decode cX1_insertExtension 52 = .ok (.getfield 44, 3) := by decide +kernel
theorem dX1_insertExtension_55 : decode cX1_insertExtension 55 = .ok (.iload_n 2, 1) := by decide +kernel
theorem dX1_insertExtension_56 : decode cX1_insertExtension 56 = .ok (.iload_n 1, 1) := by decide +kernel
theorem dX1_insertExtension_57 : decode cX1_insertExtension 57 = .ok (.iastore, 1) := by decide +kernel
theorem dX1_insertExtension_58 : decode cX1_insertExtension 58 = .ok (.aload_n 0, 1) := by decide +kernel
theorem dX1_insertExtension_59 : decode cX1_insertExtension 59 = .ok (.dup, 1) := by decide +kernel
theorem dX1_insertExtension_60 : decode cX1_insertExtension 60 = .ok (.getfield 130, 3) := by decide +kernel
theorem dX1_insertExtension_63 : decode cX1_insertExtension 63 = .ok (.iconst 1, 1) := by decide +kernel
theorem dX1_insertExtension_64 : decode cX1_insertExtension 64 = .ok (.iadd, 1) := by decide +kernel
theorem dX1_insertExtension_65 : decode cX1_insertExtension 65 = .ok (.putfield 130, 3) := by decide +kernel
theorem dX1_insertExtension_68 : decode cX1_insertExtension 68 = .ok (.return_, 1) := by decide +kernel
set_option maxRecDepth 20000 in
theorem ggX1_findPreferred_X1_findExtensions : GoodIn wsX1_findPreferred wsX1_findExtensions := goodIn_r _ [11, 12, 6, 13, 14, 15, 2, 16, 17, 18, 10, 19, 20, 21, 22, 23, 24, 25, 26, 27, 28, 29, 30, 31, 32, 33, 34, 35, 36, 37, 38, 39, 40, 41, 42, 43, 44, 45, 46, 47, 48, 49, 50, 51, 52, 53, 54, 55, 56, 84, 85, 86, 87, 88, 89, 90, 91, 92, 93, 94, 95, 96, 97, 98, 99, 100, 101, 102, 103] (by decide +kernel) (by decide +kernel)
set_option maxRecDepth 20000 in
theorem gX1_findPreferred_X1_findExtensions : GoodIn wsX1_findPreferred (wsV RX1 124 RX1 yX1_findExtensions wsX1_findExtensions) := goodIn_app (goodIn_of _ (by decide +kernel)) ggX1_findPreferred_X1_findExtensions
set_option maxRecDepth 20000 in
theorem ggX1_findPreferred_X1_layOut : GoodIn wsX1_findPreferred wsX1_layOut := goodIn_r _ [60, 6, 5, 61, 21, 22, 10, 23, 84, 85, 86, 87, 88, 89, 90, 91, 92, 93, 94, 95, 96, 97, 98, 99, 100, 101, 102, 103] (by decide +kernel) (by decide +kernel)
set_option maxRecDepth 20000 in
theorem gX1_findPreferred_X1_layOut : GoodIn wsX1_findPreferred (wsV RX1 146 RX1 yX1_layOut wsX1_layOut) := goodIn_app (goodIn_of _ (by decide +kernel)) ggX1_findPreferred_X1_layOut
set_option maxRecDepth 20000 in
theorem ggX1_findPreferred_X1_keepsPriorities : GoodIn wsX1_findPreferred wsX1_keepsPriorities := goodIn_r _ [65, 6, 61, 66, 67, 68, 69, 70, 71, 84, 85, 86, 87, 88, 89, 90, 91, 92, 93, 94, 95, 96, 97, 98, 99, 100, 101, 102, 103, 104, 105] (by decide +kernel) (by decide +kernel)
set_option maxRecDepth 20000 in
theorem gX1_findPreferred_X1_keepsPriorities : GoodIn wsX1_findPreferred (wsV RX1 160 RX1 yX1_keepsPriorities wsX1_keepsPriorities) := goodIn_app (goodIn_of _ (by decide +kernel)) ggX1_findPreferred_X1_keepsPriorities
set_option maxRecDepth 20000 in
theorem ggX1_findPreferred_X1_endOfWalk : GoodIn wsX1_findPreferred wsX1_endOfWalk := goodIn_r _ [75, 6, 13, 76, 77, 78, 10, 79, 15, 61, 21, 22, 23, 84, 85, 86, 87, 88, 89, 90, 91, 92, 93, 94, 95, 96, 97, 98, 99, 100, 101, 102, 103] (by decide +kernel) (by decide +kernel)
set_option maxRecDepth 20000 in
theorem gX1_findPreferred_X1_endOfWalk : GoodIn wsX1_findPreferred (wsV RX1 203 RX1 yX1_endOfWalk wsX1_endOfWalk) := goodIn_app (goodIn_of _ (by decide +kernel)) ggX1_findPreferred_X1_endOfWalk
set_option maxRecDepth 20000 in
theorem ggX1_findPreferred_X1_markPreferred : GoodIn wsX1_findPreferred wsX1_markPreferred := goodIn_r _ [83, 2, 56, 3, 4, 84, 85, 86, 87, 88, 89, 90, 91, 92, 93, 94, 95, 96, 97, 98, 99, 100, 101, 102, 103] (by decide +kernel) (by decide +kernel)
set_option maxRecDepth 20000 in
theorem gX1_findPreferred_X1_markPreferred : GoodIn wsX1_findPreferred (wsV RX1 206 RX1 yX1_markPreferred wsX1_markPreferred) := goodIn_app (goodIn_of _ (by decide +kernel)) ggX1_findPreferred_X1_markPreferred
theorem dX1_findPreferred_0 : decode cX1_findPreferred 0 = .ok (.aload_n 0, 1) := by decide +kernel
theorem dX1_findPreferred_1 : decode cX1_findPreferred 1 = .ok (.getfield 106, 3) := by decide +kernel
theorem dX1_findPreferred_4 : decode cX1_findPreferred 4 = .ok (.ifCond .eq 4, 3) := by decide +kernel
theorem dX1_findPreferred_7 : decode cX1_findPreferred 7 = .ok (.return_, 1) := by decide +kernel
theorem dX1_findPreferred_8 : decode cX1_findPreferred 8 = .ok (.aload_n 0, 1) := by decide +kernel
theorem dX1_findPreferred_9 : decode cX1_findPreferred 9 = .ok (.invokevirtual 124, 3) := by decide +kernel
theorem dX1_findPreferred_12 : decode cX1_findPreferred 12 = .ok (.iconst 0, 1) := by decide +kernel
theorem dX1_findPreferred_13 : decode cX1_findPreferred 13 = .ok (.istore_n 1, 1) := by decide +kernel
theorem dX1_findPreferred_14 : decode cX1_findPreferred 14 = .ok (.iload_n 1, 1) := by decide +kernel
theorem dX1_findPreferred_15 : decode cX1_findPreferred 15 = .ok (.aload_n 0, 1) := by decide +kernel
theorem dX1_findPreferred_16 : decode cX1_findPreferred 16 = .ok (.getfield 130, 3) := by decide +kernel
theorem dX1_findPreferred_19 : decode cX1_findPreferred 19 = .ok (.if_icmp .ge 16, 3) := by decide +kernel
theorem dX1_findPreferred_22 : decode cX1_findPreferred 22 = .ok (.aload_n 0, 1) := by decide +kernel
theorem dX1_findPreferred_23 : decode cX1_findPreferred 23 = .ok (.getfield 47, 3) := by decide +kernel
theorem dX1_findPreferred_26 : decode cX1_findPreferred 26 = .ok (.iload_n 1, 1) := by decide +kernel
theorem dX1_findPreferred_27 : decode cX1_findPreferred 27 = .ok (.iconst 0, 1) := by decide +kernel
theorem dX1_findPreferred_28 : decode cX1_findPreferred 28 = .ok (.bastore, 1) := by decide +kernel
theorem dX1_findPreferred_29 : decode cX1_findPreferred 29 = .ok (.iinc 1 1, 3) := by decide +kernel
theorem dX1_findPreferred_32 : decode cX1_findPreferred 32 = .ok (.goto (-18), 3) := by decide +kernel
theorem dX1_findPreferred_35 : decode cX1_findPreferred 35 = .ok (.aload_n 0, 1) := by decide +kernel
theorem dX1_findPreferred_36 : decode cX1_findPreferred 36 = .ok (.iconst 0, 1) := by decide +kernel
theorem dX1_findPreferred_37 : decode cX1_findPreferred 37 = .ok (.putfield 139, 3) := by decide +kernel
theorem dX1_findPreferred_40 : decode cX1_findPreferred 40 = .ok (.getstatic 178, 3) := by decide +kernel
theorem dX1_findPreferred_43 : decode cX1_findPreferred 43 = .ok (.aload_n 0, 1) := by decide +kernel
theorem dX1_findPreferred_44 : decode cX1_findPreferred 44 = .ok (.getfield 79, 3) := by decide +kernel
theorem dX1_findPreferred_47 : decode cX1_findPreferred 47 = .ok (.iaload, 1) := by decide +kernel
theorem dX1_findPreferred_48 : decode cX1_findPreferred 48 = .ok (.istore_n 1, 1) := by decide +kernel
theorem dX1_findPreferred_49 : decode cX1_findPreferred 49 = .ok (.iconst 0, 1) := by decide +kernel
theorem dX1_findPreferred_50 : decode cX1_findPreferred 50 = .ok (.istore_n 2, 1) := by decide +kernel
theorem dX1_findPreferred_51 : decode cX1_findPreferred 51 = .ok (.iload_n 2, 1) := by decide +kernel
theorem dX1_findPreferred_52 : decode cX1_findPreferred 52 = .ok (.iload_n 1, 1) := by decide +kernel
theorem dX1_findPreferred_53 : decode cX1_findPreferred 53 = .ok (.if_icmp .ge 40, 3) := by decide +kernel
theorem dX1_findPreferred_56 : decode cX1_findPreferred 56 = .ok (.aload_n 0, 1) := by decide +kernel
theorem dX1_findPreferred_57 : decode cX1_findPreferred 57 = .ok (.getfield 139, 3) := by decide +kernel
theorem dX1_findPreferred_60 : decode cX1_findPreferred 60 = .ok (.aload_n 0, 1) := by decide +kernel
theorem dX1_findPreferred_61 : decode cX1_findPreferred 61 = .ok (.getfield 130, 3) := by decide +kernel
theorem dX1_findPreferred_64 : decode cX1_findPreferred 64 = .ok (.if_icmp .ge 29, 3) := by decide +kernel
theorem dX1_findPreferred_67 : decode cX1_findPreferred 67 = .ok (.aload_n 0, 1) := by decide +kernel
theorem dX1_findPreferred_68 : decode cX1_findPreferred 68 = .ok (.iload_n 2, 1) := by decide +kernel
theorem dX1_findPreferred_69 : decode cX1_findPreferred 69 = .ok (.invokevirtual 146, 3) := by decide +kernel
theorem dX1_findPreferred_72 : decode cX1_findPreferred 72 = .ok (.aload_n 0, 1) := by decide +kernel
theorem dX1_findPreferred_73 : decode cX1_findPreferred 73 = .ok (.invokevirtual 160, 3) := by decide +kernel
theorem dX1_findPreferred_76 : decode cX1_findPreferred 76 = .ok (.ifCond .eq 11, 3) := by decide +kernel
theorem dX1_findPreferred_79 : decode cX1_findPreferred 79 = .ok (.aload_n 0, 1) := by decide +kernel
theorem dX1_findPreferred_80 : decode cX1_findPreferred 80 = .ok (.aload_n 0, 1) := by decide +kernel
theorem dX1_findPreferred_81 : decode cX1_findPreferred 81 = .ok (.invokevirtual 203, 3) := by decide +kernel
theorem dX1_findPreferred_84 : decode cX1_findPreferred 84 = .ok (.invokevirtual 206, 3) := by decide +kernel
theorem dX1_findPreferred_87 : decode cX1_findPreferred 87 = .ok (.iinc 2 1, 3) := by decide +kernel
theorem dX1_findPreferred_90 : decode cX1_findPreferred 90 = .ok (.goto (-39), 3) := by decide +kernel
theorem dX1_findPreferred_93 : decode cX1_findPreferred 93 = .ok (.aload_n 0, 1) := by decide +kernel
theorem dX1_findPreferred_94 : decode cX1_findPreferred 94 = .ok (.iconst 1, 1) := by decide +kernel
theorem dX1_findPreferred_95 : decode cX1_findPreferred 95 = .ok (.putfield 106, 3) := by decide +kernel
theorem dX1_findPreferred_98 : decode cX1_findPreferred 98 = .ok (.return_, 1) := by decide +kernel
theorem dX1_markPreferred_0 : decode cX1_markPreferred 0 = .ok (.iconst 0, 1) := by decide +kernel
theorem dX1_markPreferred_1 : decode cX1_markPreferred 1 = .ok (.istore_n 2, 1) := by decide +kernel
theorem dX1_markPreferred_2 : decode cX1_markPreferred 2 = .ok (.iload_n 2, 1) := by decide +kernel
theorem dX1_markPreferred_3 : decode cX1_markPreferred 3 = .ok (.aload_n 0, 1) := by decide +kernel
theorem dX1_markPreferred_4 : decode cX1_markPreferred 4 = .ok (.getfield 130, 3) := by decide +kernel
theorem dX1_markPreferred_7 : decode cX1_markPreferred 7 = .ok (.if_icmp .ge 45, 3) := by decide +kernel
theorem dX1_markPreferred_10 : decode cX1_markPreferred 10 = .ok (.aload_n 0, 1) := by decide +kernel
theorem dX1_markPreferred_11 : decode cX1_markPreferred 11 = .ok (.getfield 44, 3) := by decide +kernel
theorem dX1_markPreferred_14 : decode cX1_markPreferred 14 = .ok (.iload_n 2, 1) := by decide +kernel
theorem dX1_markPreferred_15 : decode cX1_markPreferred 15 = .ok (.iaload, 1) := by decide +kernel
theorem dX1_markPreferred_16 : decode cX1_markPreferred 16 = .ok (.iload_n 1, 1) := by decide +kernel
theorem dX1_markPreferred_17 : decode cX1_markPreferred 17 = .ok (.if_icmp .ne 29, 3) := by decide +kernel
theorem dX1_markPreferred_20 : decode cX1_markPreferred 20 = .ok (.aload_n 0, 1) := by decide +kernel
theorem dX1_markPreferred_21 : decode cX1_markPreferred 21 = .ok (.getfield 47, 3) := by decide +kernel
theorem dX1_markPreferred_24 : decode cX1_markPreferred 24 = .ok (.iload_n 2, 1) := by decide +kernel
theorem dX1_markPreferred_25 : decode cX1_markPreferred 25 = .ok (.baload, 1) := by decide +kernel
theorem dX1_markPreferred_26 : decode cX1_markPreferred 26 = .ok (.ifCond .ne 20, 3) := by decide +kernel
theorem dX1_markPreferred_29 : decode cX1_markPreferred 29 = .ok (.aload_n 0, 1) := by decide +kernel
theorem dX1_markPreferred_30 : decode cX1_markPreferred 30 = .ok (.getfield 47, 3) := by decide +kernel
theorem dX1_markPreferred_33 : decode cX1_markPreferred 33 = .ok (.iload_n 2, 1) := by decide +kernel
theorem dX1_markPreferred_34 : decode cX1_markPreferred 34 = .ok (.iconst 1, 1) := by decide +kernel
theorem dX1_markPreferred_35 : decode cX1_markPreferred 35 = .ok (.bastore, 1) := by decide +kernel
theorem dX1_markPreferred_36 : decode cX1_markPreferred 36 = .ok (.aload_n 0, 1) := by decide +kernel
theorem dX1_markPreferred_37 : decode cX1_markPreferred 37 = .ok (.dup, 1) := by decide +kernel
theorem dX1_markPreferred_38 : decode cX1_markPreferred 38 = .ok (.getfield 139, 3) := by decide +kernel
theorem dX1_markPreferred_41 : decode cX1_markPreferred 41 = .ok (.iconst 1, 1) := by decide +kernel
theorem dX1_markPreferred_42 : decode cX1_markPreferred 42 = .ok (.iadd, 1) := by decide +kernel
theorem dX1_markPreferred_43 : decode cX1_markPreferred 43 = .ok (.putfield 139, 3) := by decide +kernel
theorem dX1_markPreferred_46 : decode cX1_markPreferred 46 = .ok (.iinc 2 1, 3) := by decide +kernel
theorem dX1_markPreferred_49 : decode cX1_markPreferred 49 = .ok (.goto (-47), 3) := by decide +kernel
theorem dX1_markPreferred_52 : decode cX1_markPreferred 52 = .ok (.return_, 1) := by decide +kernel
set_option maxRecDepth 20000 in
theorem ggX1_layOut_X1_has : GoodIn wsX1_layOut wsX1_has := goodIn_r _ [7] (by decide +kernel) (by decide +kernel)
set_option maxRecDepth 20000 in
theorem gX1_layOut_X1_has : GoodIn wsX1_layOut (va_wsS RX1 59 yX1_has wsX1_has) := goodIn_app (goodIn_of _ (by decide +kernel)) ggX1_layOut_X1_has
theorem dX1_layOut_0 : decode cX1_layOut 0 = .ok (.iload_n 1, 1) := by decide +kernel
theorem dX1_layOut_1 : decode cX1_layOut 1 = .ok (.istore_n 2, 1) := by decide +kernel
theorem dX1_layOut_2 : decode cX1_layOut 2 = .ok (.iconst 0, 1) := by decide +kernel
theorem dX1_layOut_3 : decode cX1_layOut 3 = .ok (.istore_n 3, 1) := by decide +kernel
theorem dX1_layOut_4 : decode cX1_layOut 4 = .ok (.iconst 0, 1) := by decide +kernel
theorem dX1_layOut_5 : decode cX1_layOut 5 = .ok (.istore 4, 2) := by decide +kernel
theorem dX1_layOut_7 : decode cX1_layOut 7 = .ok (.iload 4, 2) := by decide +kernel
theorem dX1_layOut_9 : decode cX1_layOut 9 = .ok (.aload_n 0, 1) := by decide +kernel
theorem dX1_layOut_10 : decode cX1_layOut 10 = .ok (.getfield 79, 3) := by decide +kernel
theorem dX1_layOut_13 : decode cX1_layOut 13 = .ok (.if_icmp .ge 84, 3) := by decide +kernel
theorem dX1_layOut_16 : decode cX1_layOut 16 = .ok (.getstatic 178, 3) := by decide +kernel
theorem dX1_layOut_19 : decode cX1_layOut 19 = .ok (.aload_n 0, 1) := by decide +kernel
theorem dX1_layOut_20 : decode cX1_layOut 20 = .ok (.getfield 79, 3) := by decide +kernel
theorem dX1_layOut_23 : decode cX1_layOut 23 = .ok (.iconst 1, 1) := by decide +kernel
theorem dX1_layOut_24 : decode cX1_layOut 24 = .ok (.isub, 1) := by decide +kernel
theorem dX1_layOut_25 : decode cX1_layOut 25 = .ok (.iload 4, 2) := by decide +kernel
theorem dX1_layOut_27 : decode cX1_layOut 27 = .ok (.isub, 1) := by decide +kernel
theorem dX1_layOut_28 : decode cX1_layOut 28 = .ok (.iaload, 1) := by decide +kernel
theorem dX1_layOut_29 : decode cX1_layOut 29 = .ok (.istore 5, 2) := by decide +kernel
theorem dX1_layOut_31 : decode cX1_layOut 31 = .ok (.iconst 0, 1) := by decide +kernel
theorem dX1_layOut_32 : decode cX1_layOut 32 = .ok (.istore 6, 2) := by decide +kernel
theorem dX1_layOut_34 : decode cX1_layOut 34 = .ok (.iload 6, 2) := by decide +kernel
theorem dX1_layOut_36 : decode cX1_layOut 36 = .ok (.aload_n 0, 1) := by decide +kernel
theorem dX1_layOut_37 : decode cX1_layOut 37 = .ok (.getfield 79, 3) := by decide +kernel
theorem dX1_layOut_40 : decode cX1_layOut 40 = .ok (.if_icmp .ge 51, 3) := by decide +kernel
theorem dX1_layOut_43 : decode cX1_layOut 43 = .ok (.iload_n 3, 1) := by decide +kernel
theorem dX1_layOut_44 : decode cX1_layOut 44 = .ok (.iload 6, 2) := by decide +kernel
theorem dX1_layOut_46 : decode cX1_layOut 46 = .ok (.invokestatic 59, 3) := by decide +kernel
theorem dX1_layOut_49 : decode cX1_layOut 49 = .ok (.ifCond .eq 6, 3) := by decide +kernel
theorem dX1_layOut_52 : decode cX1_layOut 52 = .ok (.goto 33, 3) := by decide +kernel
theorem dX1_layOut_55 : decode cX1_layOut 55 = .ok (.iload_n 2, 1) := by decide +kernel
theorem dX1_layOut_56 : decode cX1_layOut 56 = .ok (.iload 5, 2) := by decide +kernel
theorem dX1_layOut_58 : decode cX1_layOut 58 = .ok (.if_icmp .ge 22, 3) := by decide +kernel
theorem dX1_layOut_61 : decode cX1_layOut 61 = .ok (.aload_n 0, 1) := by decide +kernel
theorem dX1_layOut_62 : decode cX1_layOut 62 = .ok (.getfield 35, 3) := by decide +kernel
theorem dX1_layOut_65 : decode cX1_layOut 65 = .ok (.iload 4, 2) := by decide +kernel
theorem dX1_layOut_67 : decode cX1_layOut 67 = .ok (.iload 6, 2) := by decide +kernel
theorem dX1_layOut_69 : decode cX1_layOut 69 = .ok (.iastore, 1) := by decide +kernel
theorem dX1_layOut_70 : decode cX1_layOut 70 = .ok (.iload_n 3, 1) := by decide +kernel
theorem dX1_layOut_71 : decode cX1_layOut 71 = .ok (.iconst 1, 1) := by decide +kernel
theorem dX1_layOut_72 : decode cX1_layOut 72 = .ok (.iload 6, 2) := by decide +kernel
theorem dX1_layOut_74 : decode cX1_layOut 74 = .ok (.ishl, 1) := by decide +kernel
theorem dX1_layOut_75 : decode cX1_layOut 75 = .ok (.ior, 1) := by decide +kernel
theorem dX1_layOut_76 : decode cX1_layOut 76 = .ok (.istore_n 3, 1) := by decide +kernel
theorem dX1_layOut_77 : decode cX1_layOut 77 = .ok (.goto 14, 3) := by decide +kernel
theorem dX1_layOut_80 : decode cX1_layOut 80 = .ok (.iload_n 2, 1) := by decide +kernel
theorem dX1_layOut_81 : decode cX1_layOut 81 = .ok (.iload 5, 2) := by decide +kernel
theorem dX1_layOut_83 : decode cX1_layOut 83 = .ok (.isub, 1) := by decide +kernel
theorem dX1_layOut_84 : decode cX1_layOut 84 = .ok (.istore_n 2, 1) := by decide +kernel
theorem dX1_layOut_85 : decode cX1_layOut 85 = .ok (.iinc 6 1, 3) := by decide +kernel
theorem dX1_layOut_88 : decode cX1_layOut 88 = .ok (.goto (-54), 3) := by decide +kernel
theorem dX1_layOut_91 : decode cX1_layOut 91 = .ok (.iinc 4 1, 3) := by decide +kernel
theorem dX1_layOut_94 : decode cX1_layOut 94 = .ok (.goto (-87), 3) := by decide +kernel
theorem dX1_layOut_97 : decode cX1_layOut 97 = .ok (.return_, 1) := by decide +kernel
set_option maxRecDepth 20000 in
theorem ggX1_keepsPriorities_X0_comesBeforeOneOf : GoodIn wsX1_keepsPriorities wsX0_comesBeforeOneOf := goodIn_r _ [7, 8, 29, 30] (by decide +kernel) (by decide +kernel)
set_option maxRecDepth 20000 in
theorem gX1_keepsPriorities_X0_comesBeforeOneOf_n209 : GoodIn wsX1_keepsPriorities (wsX0_comesBeforeOneOf) := ggX1_keepsPriorities_X0_comesBeforeOneOf
theorem dX1_keepsPriorities_0 : decode cX1_keepsPriorities 0 = .ok (.iconst 0, 1) := by decide +kernel
theorem dX1_keepsPriorities_1 : decode cX1_keepsPriorities 1 = .ok (.istore_n 1, 1) := by decide +kernel
theorem dX1_keepsPriorities_2 : decode cX1_keepsPriorities 2 = .ok (.iconst 0, 1) := by decide +kernel
theorem dX1_keepsPriorities_3 : decode cX1_keepsPriorities 3 = .ok (.istore_n 2, 1) := by decide +kernel
theorem dX1_keepsPriorities_4 : decode cX1_keepsPriorities 4 = .ok (.iload_n 2, 1) := by decide +kernel
theorem dX1_keepsPriorities_5 : decode cX1_keepsPriorities 5 = .ok (.aload_n 0, 1) := by decide +kernel
theorem dX1_keepsPriorities_6 : decode cX1_keepsPriorities 6 = .ok (.getfield 79, 3) := by decide +kernel
theorem dX1_keepsPriorities_9 : decode cX1_keepsPriorities 9 = .ok (.if_icmp .ge 36, 3) := by decide +kernel
theorem dX1_keepsPriorities_12 : decode cX1_keepsPriorities 12 = .ok (.aload_n 0, 1) := by decide +kernel
theorem dX1_keepsPriorities_13 : decode cX1_keepsPriorities 13 = .ok (.getfield 35, 3) := by decide +kernel
theorem dX1_keepsPriorities_16 : decode cX1_keepsPriorities 16 = .ok (.iload_n 2, 1) := by decide +kernel
theorem dX1_keepsPriorities_17 : decode cX1_keepsPriorities 17 = .ok (.iaload, 1) := by decide +kernel
theorem dX1_keepsPriorities_18 : decode cX1_keepsPriorities 18 = .ok (.istore_n 3, 1) := by decide +kernel
theorem dX1_keepsPriorities_19 : decode cX1_keepsPriorities 19 = .ok (.aload_n 0, 1) := by decide +kernel
theorem dX1_keepsPriorities_20 : decode cX1_keepsPriorities 20 = .ok (.getfield 28, 3) := by decide +kernel
theorem dX1_keepsPriorities_23 : decode cX1_keepsPriorities 23 = .ok (.iload_n 3, 1) := by decide +kernel
theorem dX1_keepsPriorities_24 : decode cX1_keepsPriorities 24 = .ok (.iload_n 1, 1) := by decide +kernel
theorem dX1_keepsPriorities_25 : decode cX1_keepsPriorities 25 = .ok (.invokevirtual 209, 3) := by decide +kernel
theorem dX1_keepsPriorities_28 : decode cX1_keepsPriorities 28 = .ok (.ifCond .eq 5, 3) := by decide +kernel
theorem dX1_keepsPriorities_31 : decode cX1_keepsPriorities 31 = .ok (.iconst 0, 1) := by decide +kernel
theorem dX1_keepsPriorities_32 : decode cX1_keepsPriorities 32 = .ok (.ireturn, 1) := by decide +kernel
theorem dX1_keepsPriorities_33 : decode cX1_keepsPriorities 33 = .ok (.iload_n 1, 1) := by decide +kernel
theorem dX1_keepsPriorities_34 : decode cX1_keepsPriorities 34 = .ok (.iconst 1, 1) := by decide +kernel
theorem dX1_keepsPriorities_35 : decode cX1_keepsPriorities 35 = .ok (.iload_n 3, 1) := by decide +kernel
theorem dX1_keepsPriorities_36 : decode cX1_keepsPriorities 36 = .ok (.ishl, 1) := by decide +kernel
theorem dX1_keepsPriorities_37 : decode cX1_keepsPriorities 37 = .ok (.ior, 1) := by decide +kernel
theorem dX1_keepsPriorities_38 : decode cX1_keepsPriorities 38 = .ok (.istore_n 1, 1) := by decide +kernel
theorem dX1_keepsPriorities_39 : decode cX1_keepsPriorities 39 = .ok (.iinc 2 1, 3) := by decide +kernel
theorem dX1_keepsPriorities_42 : decode cX1_keepsPriorities 42 = .ok (.goto (-38), 3) := by decide +kernel
theorem dX1_keepsPriorities_45 : decode cX1_keepsPriorities 45 = .ok (.iconst 1, 1) := by decide +kernel
theorem dX1_keepsPriorities_46 : decode cX1_keepsPriorities 46 = .ok (.ireturn, 1) := by decide +kernel
set_option maxRecDepth 20000 in
theorem ggX1_endOfWalk_X1_firstUsable : GoodIn wsX1_endOfWalk wsX1_firstUsable := goodIn_r _ [7, 1, 8, 9, 10, 11, 6, 12, 13, 14, 15, 16, 17, 18, 19, 20, 21, 22, 23, 24, 25, 26, 27, 28, 29, 30, 31, 32] (by decide +kernel) (by decide +kernel)
set_option maxRecDepth 20000 in
theorem gX1_endOfWalk_X1_firstUsable : GoodIn wsX1_endOfWalk (wsV RX1 152 RX1 yX1_firstUsable wsX1_firstUsable) := goodIn_app (goodIn_of _ (by decide +kernel)) ggX1_endOfWalk_X1_firstUsable
theorem dX1_endOfWalk_0 : decode cX1_endOfWalk 0 = .ok (.iconst 0, 1) := by decide +kernel
theorem dX1_endOfWalk_1 : decode cX1_endOfWalk 1 = .ok (.istore_n 1, 1) := by decide +kernel
theorem dX1_endOfWalk_2 : decode cX1_endOfWalk 2 = .ok (.iconst 0, 1) := by decide +kernel
theorem dX1_endOfWalk_3 : decode cX1_endOfWalk 3 = .ok (.istore_n 2, 1) := by decide +kernel
theorem dX1_endOfWalk_4 : decode cX1_endOfWalk 4 = .ok (.iload_n 2, 1) := by decide +kernel
theorem dX1_endOfWalk_5 : decode cX1_endOfWalk 5 = .ok (.aload_n 0, 1) := by decide +kernel
theorem dX1_endOfWalk_6 : decode cX1_endOfWalk 6 = .ok (.getfield 79, 3) := by decide +kernel
theorem dX1_endOfWalk_9 : decode cX1_endOfWalk 9 = .ok (.if_icmp .ge 29, 3) := by decide +kernel
theorem dX1_endOfWalk_12 : decode cX1_endOfWalk 12 = .ok (.aload_n 0, 1) := by decide +kernel
theorem dX1_endOfWalk_13 : decode cX1_endOfWalk 13 = .ok (.iload_n 1, 1) := by decide +kernel
theorem dX1_endOfWalk_14 : decode cX1_endOfWalk 14 = .ok (.invokevirtual 152, 3) := by decide +kernel
theorem dX1_endOfWalk_17 : decode cX1_endOfWalk 17 = .ok (.istore_n 3, 1) := by decide +kernel
theorem dX1_endOfWalk_18 : decode cX1_endOfWalk 18 = .ok (.iload_n 3, 1) := by decide +kernel
theorem dX1_endOfWalk_19 : decode cX1_endOfWalk 19 = .ok (.iconst (-1), 1) := by decide +kernel
theorem dX1_endOfWalk_20 : decode cX1_endOfWalk 20 = .ok (.if_icmp .ne 6, 3) := by decide +kernel
theorem dX1_endOfWalk_23 : decode cX1_endOfWalk 23 = .ok (.goto 15, 3) := by decide +kernel
theorem dX1_endOfWalk_26 : decode cX1_endOfWalk 26 = .ok (.iload_n 1, 1) := by decide +kernel
theorem dX1_endOfWalk_27 : decode cX1_endOfWalk 27 = .ok (.iconst 1, 1) := by decide +kernel
theorem dX1_endOfWalk_28 : decode cX1_endOfWalk 28 = .ok (.iload_n 3, 1) := by decide +kernel
theorem dX1_endOfWalk_29 : decode cX1_endOfWalk 29 = .ok (.ishl, 1) := by decide +kernel
theorem dX1_endOfWalk_30 : decode cX1_endOfWalk 30 = .ok (.ior, 1) := by decide +kernel
theorem dX1_endOfWalk_31 : decode cX1_endOfWalk 31 = .ok (.istore_n 1, 1) := by decide +kernel
theorem dX1_endOfWalk_32 : decode cX1_endOfWalk 32 = .ok (.iinc 2 1, 3) := by decide +kernel
theorem dX1_endOfWalk_35 : decode cX1_endOfWalk 35 = .ok (.goto (-31), 3) := by decide +kernel
theorem dX1_endOfWalk_38 : decode cX1_endOfWalk 38 = .ok (.aload_n 0, 1) := by decide +kernel
theorem dX1_endOfWalk_39 : decode cX1_endOfWalk 39 = .ok (.getfield 38, 3) := by decide +kernel
theorem dX1_endOfWalk_42 : decode cX1_endOfWalk 42 = .ok (.iload_n 1, 1) := by decide +kernel
theorem dX1_endOfWalk_43 : decode cX1_endOfWalk 43 = .ok (.iaload, 1) := by decide +kernel
theorem dX1_endOfWalk_44 : decode cX1_endOfWalk 44 = .ok (.ireturn, 1) := by decide +kernel
set_option maxRecDepth 20000 in
theorem ggX1_firstUsable_X1_has : GoodIn wsX1_firstUsable wsX1_has := goodIn_r _ [7] (by decide +kernel) (by decide +kernel)
set_option maxRecDepth 20000 in
theorem gX1_firstUsable_X1_has : GoodIn wsX1_firstUsable (va_wsS RX1 59 yX1_has wsX1_has) := goodIn_app (goodIn_of _ (by decide +kernel)) ggX1_firstUsable_X1_has
theorem dX1_firstUsable_0 : decode cX1_firstUsable 0 = .ok (.iconst 0, 1) := by decide +kernel
theorem dX1_firstUsable_1 : decode cX1_firstUsable 1 = .ok (.istore_n 2, 1) := by decide +kernel
theorem dX1_firstUsable_2 : decode cX1_firstUsable 2 = .ok (.iload_n 2, 1) := by decide +kernel
theorem dX1_firstUsable_3 : decode cX1_firstUsable 3 = .ok (.aload_n 0, 1) := by decide +kernel
theorem dX1_firstUsable_4 : decode cX1_firstUsable 4 = .ok (.getfield 79, 3) := by decide +kernel
theorem dX1_firstUsable_7 : decode cX1_firstUsable 7 = .ok (.if_icmp .ge 34, 3) := by decide +kernel
theorem dX1_firstUsable_10 : decode cX1_firstUsable 10 = .ok (.aload_n 0, 1) := by decide +kernel
theorem dX1_firstUsable_11 : decode cX1_firstUsable 11 = .ok (.getfield 41, 3) := by decide +kernel
theorem dX1_firstUsable_14 : decode cX1_firstUsable 14 = .ok (.iload_n 1, 1) := by decide +kernel
theorem dX1_firstUsable_15 : decode cX1_firstUsable 15 = .ok (.iaload, 1) := by decide +kernel
theorem dX1_firstUsable_16 : decode cX1_firstUsable 16 = .ok (.aload_n 0, 1) := by decide +kernel
theorem dX1_firstUsable_17 : decode cX1_firstUsable 17 = .ok (.getfield 35, 3) := by decide +kernel
theorem dX1_firstUsable_20 : decode cX1_firstUsable 20 = .ok (.iload_n 2, 1) := by decide +kernel
theorem dX1_firstUsable_21 : decode cX1_firstUsable 21 = .ok (.iaload, 1) := by decide +kernel
theorem dX1_firstUsable_22 : decode cX1_firstUsable 22 = .ok (.invokestatic 59, 3) := by decide +kernel
theorem dX1_firstUsable_25 : decode cX1_firstUsable 25 = .ok (.ifCond .eq 10, 3) := by decide +kernel
theorem dX1_firstUsable_28 : decode cX1_firstUsable 28 = .ok (.aload_n 0, 1) := by decide +kernel
theorem dX1_firstUsable_29 : decode cX1_firstUsable 29 = .ok (.getfield 35, 3) := by decide +kernel
theorem dX1_firstUsable_32 : decode cX1_firstUsable 32 = .ok (.iload_n 2, 1) := by decide +kernel
theorem dX1_firstUsable_33 : decode cX1_firstUsable 33 = .ok (.iaload, 1) := by decide +kernel
theorem dX1_firstUsable_34 : decode cX1_firstUsable 34 = .ok (.ireturn, 1) := by decide +kernel
theorem dX1_firstUsable_35 : decode cX1_firstUsable 35 = .ok (.iinc 2 1, 3) := by decide +kernel
theorem dX1_firstUsable_38 : decode cX1_firstUsable 38 = .ok (.goto (-36), 3) := by decide +kernel
theorem dX1_firstUsable_41 : decode cX1_firstUsable 41 = .ok (.iconst (-1), 1) := by decide +kernel
theorem dX1_firstUsable_42 : decode cX1_firstUsable 42 = .ok (.ireturn, 1) := by decide +kernel
theorem dX2_init_0 : decode cX2_init 0 = .ok (.aload_n 0, 1) := by decide +kernel
theorem dX2_init_1 : decode cX2_init 1 = .ok (.invokespecial 1, 3) := by decide +kernel
theorem dX2_init_4 : decode cX2_init 4 = .ok (.aload_n 0, 1) := by decide +kernel
theorem dX2_init_5 : decode cX2_init 5 = .ok (.bipush 16, 2) := by decide +kernel
theorem dX2_init_7 : decode cX2_init 7 = .ok (.newarray .int, 2) := by decide +kernel
theorem dX2_init_9 : decode cX2_init 9 = .ok (.putfield 9, 3) := by decide +kernel
theorem dX2_init_12 : decode cX2_init 12 = .ok (.aload_n 0, 1) := by decide +kernel
theorem dX2_init_13 : decode cX2_init 13 = .ok (.bipush 16, 2) := by decide +kernel
theorem dX2_init_15 : decode cX2_init 15 = .ok (.newarray .int, 2) := by decide +kernel
theorem dX2_init_17 : decode cX2_init 17 = .ok (.putfield 13, 3) := by decide +kernel
theorem dX2_init_20 : decode cX2_init 20 = .ok (.aload_n 0, 1) := by decide +kernel
theorem dX2_init_21 : decode cX2_init 21 = .ok (.bipush 6, 2) := by decide +kernel
theorem dX2_init_23 : decode cX2_init 23 = .ok (.newarray .int, 2) := by decide +kernel
theorem dX2_init_25 : decode cX2_init 25 = .ok (.putfield 16, 3) := by decide +kernel
theorem dX2_init_28 : decode cX2_init 28 = .ok (.aload_n 0, 1) := by decide +kernel
theorem dX2_init_29 : decode cX2_init 29 = .ok (.bipush 6, 2) := by decide +kernel
theorem dX2_init_31 : decode cX2_init 31 = .ok (.newarray .int, 2) := by decide +kernel
theorem dX2_init_33 : decode cX2_init 33 = .ok (.putfield 19, 3) := by decide +kernel
theorem dX2_init_36 : decode cX2_init 36 = .ok (.aload_n 0, 1) := by decide +kernel
theorem dX2_init_37 : decode cX2_init 37 = .ok (.bipush 6, 2) := by decide +kernel
theorem dX2_init_39 : decode cX2_init 39 = .ok (.newarray .int, 2) := by decide +kernel
theorem dX2_init_41 : decode cX2_init 41 = .ok (.putfield 22, 3) := by decide +kernel
theorem dX2_init_44 : decode cX2_init 44 = .ok (.aload_n 0, 1) := by decide +kernel
theorem dX2_init_45 : decode cX2_init 45 = .ok (.bipush 36, 2) := by decide +kernel
theorem dX2_init_47 : decode cX2_init 47 = .ok (.newarray .boolean, 2) := by decide +kernel
theorem dX2_init_49 : decode cX2_init 49 = .ok (.putfield 25, 3) := by decide +kernel
theorem dX2_init_52 : decode cX2_init 52 = .ok (.aload_n 0, 1) := by decide +kernel
theorem dX2_init_53 : decode cX2_init 53 = .ok (.bipush 6, 2) := by decide +kernel
theorem dX2_init_55 : decode cX2_init 55 = .ok (.newarray .int, 2) := by decide +kernel
theorem dX2_init_57 : decode cX2_init 57 = .ok (.putfield 29, 3) := by decide +kernel
theorem dX2_init_60 : decode cX2_init 60 = .ok (.aload_n 0, 1) := by decide +kernel
theorem dX2_init_61 : decode cX2_init 61 = .ok (.bipush 64, 2) := by decide +kernel
theorem dX2_init_63 : decode cX2_init 63 = .ok (.newarray .int, 2) := by decide +kernel
theorem dX2_init_65 : decode cX2_init 65 = .ok (.putfield 32, 3) := by decide +kernel
theorem dX2_init_68 : decode cX2_init 68 = .ok (.aload_n 0, 1) := by decide +kernel
theorem dX2_init_69 : decode cX2_init 69 = .ok (.bipush 64, 2) := by decide +kernel
theorem dX2_init_71 : decode cX2_init 71 = .ok (.newarray .boolean, 2) := by decide +kernel
theorem dX2_init_73 : decode cX2_init 73 = .ok (.putfield 35, 3) := by decide +kernel
theorem dX2_init_76 : decode cX2_init 76 = .ok (.return_, 1) := by decide +kernel
theorem dX2_thrown_0 : decode cX2_thrown 0 = .ok (.aload_n 0, 1) := by decide +kernel
theorem dX2_thrown_1 : decode cX2_thrown 1 = .ok (.getfield 38, 3) := by decide +kernel
theorem dX2_thrown_4 : decode cX2_thrown 4 = .ok (.ireturn, 1) := by decide +kernel
theorem dX2_fail_0 : decode cX2_fail 0 = .ok (.aload_n 0, 1) := by decide +kernel
theorem dX2_fail_1 : decode cX2_fail 1 = .ok (.iload_n 1, 1) := by decide +kernel
theorem dX2_fail_2 : decode cX2_fail 2 = .ok (.putfield 38, 3) := by decide +kernel
theorem dX2_fail_5 : decode cX2_fail 5 = .ok (.iconst 0, 1) := by decide +kernel
theorem dX2_fail_6 : decode cX2_fail 6 = .ok (.ireturn, 1) := by decide +kernel
theorem dX2_isLiteral_0 : decode cX2_isLiteral 0 = .ok (.iload_n 0, 1) := by decide +kernel
theorem dX2_isLiteral_1 : decode cX2_isLiteral 1 = .ok (.ifCond .lt 13, 3) := by decide +kernel
theorem dX2_isLiteral_4 : decode cX2_isLiteral 4 = .ok (.iload_n 0, 1) := by decide +kernel
theorem dX2_isLiteral_5 : decode cX2_isLiteral 5 = .ok (.bipush 16, 2) := by decide +kernel
theorem dX2_isLiteral_7 : decode cX2_isLiteral 7 = .ok (.if_icmp .ge 7, 3) := by decide +kernel
theorem dX2_isLiteral_10 : decode cX2_isLiteral 10 = .ok (.iconst 1, 1) := by decide +kernel
theorem dX2_isLiteral_11 : decode cX2_isLiteral 11 = .ok (.goto 4, 3) := by decide +kernel
theorem dX2_isLiteral_14 : decode cX2_isLiteral 14 = .ok (.iconst 0, 1) := by decide +kernel
theorem dX2_isLiteral_15 : decode cX2_isLiteral 15 = .ok (.ireturn, 1) := by decide +kernel
theorem dX2_isSet_0 : decode cX2_isSet 0 = .ok (.iload_n 0, 1) := by decide +kernel
theorem dX2_isSet_1 : decode cX2_isSet 1 = .ok (.ifCond .lt 13, 3) := by decide +kernel
theorem dX2_isSet_4 : decode cX2_isSet 4 = .ok (.iload_n 0, 1) := by decide +kernel
theorem dX2_isSet_5 : decode cX2_isSet 5 = .ok (.ldc 42, 2) := by decide +kernel
theorem dX2_isSet_7 : decode cX2_isSet 7 = .ok (.if_icmp .gt 7, 3) := by decide +kernel
theorem dX2_isSet_10 : decode cX2_isSet 10 = .ok (.iconst 1, 1) := by decide +kernel
theorem dX2_isSet_11 : decode cX2_isSet 11 = .ok (.goto 4, 3) := by decide +kernel
theorem dX2_isSet_14 : decode cX2_isSet 14 = .ok (.iconst 0, 1) := by decide +kernel
theorem dX2_isSet_15 : decode cX2_isSet 15 = .ok (.ireturn, 1) := by decide +kernel
theorem dX2_isDefault_0 : decode cX2_isDefault 0 = .ok (.iload_n 1, 1) := by decide +kernel
theorem dX2_isDefault_1 : decode cX2_isDefault 1 = .ok (.ifCond .lt 15, 3) := by decide +kernel
theorem dX2_isDefault_4 : decode cX2_isDefault 4 = .ok (.iload_n 1, 1) := by decide +kernel
theorem dX2_isDefault_5 : decode cX2_isDefault 5 = .ok (.aload_n 0, 1) := by decide +kernel
theorem dX2_isDefault_6 : decode cX2_isDefault 6 = .ok (.getfield 43, 3) := by decide +kernel
theorem dX2_isDefault_9 : decode cX2_isDefault 9 = .ok (.if_icmp .ge 7, 3) := by decide +kernel
theorem dX2_isDefault_12 : decode cX2_isDefault 12 = .ok (.iconst 1, 1) := by decide +kernel
theorem dX2_isDefault_13 : decode cX2_isDefault 13 = .ok (.goto 4, 3) := by decide +kernel
theorem dX2_isDefault_16 : decode cX2_isDefault 16 = .ok (.iconst 0, 1) := by decide +kernel
theorem dX2_isDefault_17 : decode cX2_isDefault 17 = .ok (.ireturn, 1) := by decide +kernel
set_option maxRecDepth 20000 in
theorem ggX2_setFact_X2_isLiteral : GoodIn wsX2_setFact wsX2_isLiteral := goodIn_r _ [6] (by decide +kernel) (by decide +kernel)
set_option maxRecDepth 20000 in
theorem gX2_setFact_X2_isLiteral : GoodIn wsX2_setFact (va_wsS RX2 46 yX2_isLiteral wsX2_isLiteral) := goodIn_app (goodIn_of _ (by decide +kernel)) ggX2_setFact_X2_isLiteral
theorem dX2_setFact_0 : decode cX2_setFact 0 = .ok (.aload_n 0, 1) := by decide +kernel
theorem dX2_setFact_1 : decode cX2_setFact 1 = .ok (.iload_n 1, 1) := by decide +kernel
theorem dX2_setFact_2 : decode cX2_setFact 2 = .ok (.invokestatic 46, 3) := by decide +kernel
theorem dX2_setFact_5 : decode cX2_setFact 5 = .ok (.ifCond .eq 7, 3) := by decide +kernel
theorem dX2_setFact_8 : decode cX2_setFact 8 = .ok (.iconst 0, 1) := by decide +kernel
theorem dX2_setFact_9 : decode cX2_setFact 9 = .ok (.goto 4, 3) := by decide +kernel
theorem dX2_setFact_12 : decode cX2_setFact 12 = .ok (.iconst 1, 1) := by decide +kernel
theorem dX2_setFact_13 : decode cX2_setFact 13 = .ok (.putfield 38, 3) := by decide +kernel
theorem dX2_setFact_16 : decode cX2_setFact 16 = .ok (.aload_n 0, 1) := by decide +kernel
theorem dX2_setFact_17 : decode cX2_setFact 17 = .ok (.getfield 38, 3) := by decide +kernel
theorem dX2_setFact_20 : decode cX2_setFact 20 = .ok (.ifCond .eq 5, 3) := by decide +kernel
