theorem dX4_init_0 : decode cX4_init 0 = .ok (.aload_n 0, 1) := by decide +kernel
theorem dX4_init_1 : decode cX4_init 1 = .ok (.invokespecial 1, 3) := by decide +kernel
theorem dX4_init_4 : decode cX4_init 4 = .ok (.aload_n 0, 1) := by decide +kernel
theorem dX4_init_5 : decode cX4_init 5 = .ok (.sipush 186, 3) := by decide +kernel
theorem dX4_init_8 : decode cX4_init 8 = .ok (.newarray .int, 2) := by decide +kernel
theorem dX4_init_10 : decode cX4_init 10 = .ok (.putfield 9, 3) := by decide +kernel
theorem dX4_init_13 : decode cX4_init 13 = .ok (.aload_n 0, 1) := by decide +kernel
theorem dX4_init_14 : decode cX4_init 14 = .ok (.sipush 186, 3) := by decide +kernel
theorem dX4_init_17 : decode cX4_init 17 = .ok (.newarray .int, 2) := by decide +kernel
theorem dX4_init_19 : decode cX4_init 19 = .ok (.putfield 13, 3) := by decide +kernel
theorem dX4_init_22 : decode cX4_init 22 = .ok (.aload_n 0, 1) := by decide +kernel
theorem dX4_init_23 : decode cX4_init 23 = .ok (.sipush 186, 3) := by decide +kernel
theorem dX4_init_26 : decode cX4_init 26 = .ok (.newarray .int, 2) := by decide +kernel
theorem dX4_init_28 : decode cX4_init 28 = .ok (.putfield 16, 3) := by decide +kernel
theorem dX4_init_31 : decode cX4_init 31 = .ok (.aload_n 0, 1) := by decide +kernel
theorem dX4_init_32 : decode cX4_init 32 = .ok (.bipush 8, 2) := by decide +kernel
theorem dX4_init_34 : decode cX4_init 34 = .ok (.newarray .int, 2) := by decide +kernel
theorem dX4_init_36 : decode cX4_init 36 = .ok (.putfield 19, 3) := by decide +kernel
theorem dX4_init_39 : decode cX4_init 39 = .ok (.aload_n 0, 1) := by decide +kernel
theorem dX4_init_40 : decode cX4_init 40 = .ok (.iconst 4, 1) := by decide +kernel
theorem dX4_init_41 : decode cX4_init 41 = .ok (.newarray .int, 2) := by decide +kernel
theorem dX4_init_43 : decode cX4_init 43 = .ok (.dup, 1) := by decide +kernel
theorem dX4_init_44 : decode cX4_init 44 = .ok (.iconst 0, 1) := by decide +kernel
theorem dX4_init_45 : decode cX4_init 45 = .ok (.iconst (-1), 1) := by decide +kernel
theorem dX4_init_46 : decode cX4_init 46 = .ok (.iastore, 1) := by decide +kernel
theorem dX4_init_47 : decode cX4_init 47 = .ok (.dup, 1) := by decide +kernel
theorem dX4_init_48 : decode cX4_init 48 = .ok (.iconst 1, 1) := by decide +kernel
theorem dX4_init_49 : decode cX4_init 49 = .ok (.iconst 0, 1) := by decide +kernel
theorem dX4_init_50 : decode cX4_init 50 = .ok (.iastore, 1) := by decide +kernel
theorem dX4_init_51 : decode cX4_init 51 = .ok (.dup, 1) := by decide +kernel
theorem dX4_init_52 : decode cX4_init 52 = .ok (.iconst 2, 1) := by decide +kernel
theorem dX4_init_53 : decode cX4_init 53 = .ok (.iconst 1, 1) := by decide +kernel
theorem dX4_init_54 : decode cX4_init 54 = .ok (.iastore, 1) := by decide +kernel
theorem dX4_init_55 : decode cX4_init 55 = .ok (.dup, 1) := by decide +kernel
theorem dX4_init_56 : decode cX4_init 56 = .ok (.iconst 3, 1) := by decide +kernel
theorem dX4_init_57 : decode cX4_init 57 = .ok (.iconst 0, 1) := by decide +kernel
theorem dX4_init_58 : decode cX4_init 58 = .ok (.iastore, 1) := by decide +kernel
theorem dX4_init_59 : decode cX4_init 59 = .ok (.putfield 22, 3) := by decide +kernel
theorem dX4_init_62 : decode cX4_init 62 = .ok (.aload_n 0, 1) := by decide +kernel
theorem dX4_init_63 : decode cX4_init 63 = .ok (.iconst 4, 1) := by decide +kernel
theorem dX4_init_64 : decode cX4_init 64 = .ok (.newarray .int, 2) := by decide +kernel
theorem dX4_init_66 : decode cX4_init 66 = .ok (.dup, 1) := by decide +kernel
theorem dX4_init_67 : decode cX4_init 67 = .ok (.iconst 0, 1) := by decide +kernel
theorem dX4_init_68 : decode cX4_init 68 = .ok (.iconst 0, 1) := by decide +kernel
theorem dX4_init_69 : decode cX4_init 69 = .ok (.iastore, 1) := by decide +kernel
theorem dX4_init_70 : decode cX4_init 70 = .ok (.dup, 1) := by decide +kernel
theorem dX4_init_71 : decode cX4_init 71 = .ok (.iconst 1, 1) := by decide +kernel
theorem dX4_init_72 : decode cX4_init 72 = .ok (.iconst 1, 1) := by decide +kernel
theorem dX4_init_73 : decode cX4_init 73 = .ok (.iastore, 1) := by decide +kernel
theorem dX4_init_74 : decode cX4_init 74 = .ok (.dup, 1) := by decide +kernel
theorem dX4_init_75 : decode cX4_init 75 = .ok (.iconst 2, 1) := by decide +kernel
theorem dX4_init_76 : decode cX4_init 76 = .ok (.iconst 0, 1) := by decide +kernel
theorem dX4_init_77 : decode cX4_init 77 = .ok (.iastore, 1) := by decide +kernel
theorem dX4_init_78 : decode cX4_init 78 = .ok (.dup, 1) := by decide +kernel
theorem dX4_init_79 : decode cX4_init 79 = .ok (.iconst 3, 1) := by decide +kernel
theorem dX4_init_80 : decode cX4_init 80 = .ok (.iconst (-1), 1) := by decide +kernel
theorem dX4_init_81 : decode cX4_init 81 = .ok (.iastore, 1) := by decide +kernel
theorem dX4_init_82 : decode cX4_init 82 = .ok (.putfield 25, 3) := by decide +kernel
theorem dX4_init_85 : decode cX4_init 85 = .ok (.aload_n 0, 1) := by decide +kernel
theorem dX4_init_86 : decode cX4_init 86 = .ok (.bipush 100, 2) := by decide +kernel
theorem dX4_init_88 : decode cX4_init 88 = .ok (.newarray .int, 2) := by decide +kernel
theorem dX4_init_90 : decode cX4_init 90 = .ok (.putfield 28, 3) := by decide +kernel
theorem dX4_init_93 : decode cX4_init 93 = .ok (.aload_n 0, 1) := by decide +kernel
theorem dX4_init_94 : decode cX4_init 94 = .ok (.bipush 120, 2) := by decide +kernel
theorem dX4_init_96 : decode cX4_init 96 = .ok (.newarray .int, 2) := by decide +kernel
theorem dX4_init_98 : decode cX4_init 98 = .ok (.putfield 31, 3) := by decide +kernel
theorem dX4_init_101 : decode cX4_init 101 = .ok (.aload_n 0, 1) := by decide +kernel
theorem dX4_init_102 : decode cX4_init 102 = .ok (.bipush 7, 2) := by decide +kernel
theorem dX4_init_104 : decode cX4_init 104 = .ok (.anewarray 34, 3) := by decide +kernel
theorem dX4_init_107 : decode cX4_init 107 = .ok (.dup, 1) := by decide +kernel
theorem dX4_init_108 : decode cX4_init 108 = .ok (.iconst 0, 1) := by decide +kernel
theorem dX4_init_109 : decode cX4_init 109 = .ok (.ldc 36, 2) := by decide +kernel
theorem dX4_init_111 : decode cX4_init 111 = .ok (.aastore, 1) := by decide +kernel
theorem dX4_init_112 : decode cX4_init 112 = .ok (.dup, 1) := by decide +kernel
theorem dX4_init_113 : decode cX4_init 113 = .ok (.iconst 1, 1) := by decide +kernel
theorem dX4_init_114 : decode cX4_init 114 = .ok (.ldc 38, 2) := by decide +kernel
theorem dX4_init_116 : decode cX4_init 116 = .ok (.aastore, 1) := by decide +kernel
theorem dX4_init_117 : decode cX4_init 117 = .ok (.dup, 1) := by decide +kernel
theorem dX4_init_118 : decode cX4_init 118 = .ok (.iconst 2, 1) := by decide +kernel
theorem dX4_init_119 : decode cX4_init 119 = .ok (.ldc 40, 2) := by decide +kernel
theorem dX4_init_121 : decode cX4_init 121 = .ok (.aastore, 1) := by decide +kernel
theorem dX4_init_122 : decode cX4_init 122 = .ok (.dup, 1) := by decide +kernel
theorem dX4_init_123 : decode cX4_init 123 = .ok (.iconst 3, 1) := by decide +kernel
theorem dX4_init_124 : decode cX4_init 124 = .ok (.ldc 42, 2) := by decide +kernel
theorem dX4_init_126 : decode cX4_init 126 = .ok (.aastore, 1) := by decide +kernel
theorem dX4_init_127 : decode cX4_init 127 = .ok (.dup, 1) := by decide +kernel
theorem dX4_init_128 : decode cX4_init 128 = .ok (.iconst 4, 1) := by decide +kernel
theorem dX4_init_129 : decode cX4_init 129 = .ok (.ldc 44, 2) := by decide +kernel
theorem dX4_init_131 : decode cX4_init 131 = .ok (.aastore, 1) := by decide +kernel
theorem dX4_init_132 : decode cX4_init 132 = .ok (.dup, 1) := by decide +kernel
theorem dX4_init_133 : decode cX4_init 133 = .ok (.iconst 5, 1) := by decide +kernel
theorem dX4_init_134 : decode cX4_init 134 = .ok (.ldc 46, 2) := by decide +kernel
theorem dX4_init_136 : decode cX4_init 136 = .ok (.aastore, 1) := by decide +kernel
theorem dX4_init_137 : decode cX4_init 137 = .ok (.dup, 1) := by decide +kernel
theorem dX4_init_138 : decode cX4_init 138 = .ok (.bipush 6, 2) := by decide +kernel
theorem dX4_init_140 : decode cX4_init 140 = .ok (.ldc 48, 2) := by decide +kernel
theorem dX4_init_142 : decode cX4_init 142 = .ok (.aastore, 1) := by decide +kernel
theorem dX4_init_143 : decode cX4_init 143 = .ok (.putfield 50, 3) := by decide +kernel
theorem dX4_init_146 : decode cX4_init 146 = .ok (.aload_n 0, 1) := by decide +kernel
theorem dX4_init_147 : decode cX4_init 147 = .ok (.sipush 480, 3) := by decide +kernel
theorem dX4_init_150 : decode cX4_init 150 = .ok (.newarray .int, 2) := by decide +kernel
theorem dX4_init_152 : decode cX4_init 152 = .ok (.putfield 54, 3) := by decide +kernel
theorem dX4_init_155 : decode cX4_init 155 = .ok (.aload_n 0, 1) := by decide +kernel
theorem dX4_init_156 : decode cX4_init 156 = .ok (.iconst 4, 1) := by decide +kernel
theorem dX4_init_157 : decode cX4_init 157 = .ok (.newarray .int, 2) := by decide +kernel
theorem dX4_init_159 : decode cX4_init 159 = .ok (.putfield 57, 3) := by decide +kernel
theorem dX4_init_162 : decode cX4_init 162 = .ok (.aload_n 0, 1) := by decide +kernel
theorem dX4_init_163 : decode cX4_init 163 = .ok (.iconst 4, 1) := by decide +kernel
theorem dX4_init_164 : decode cX4_init 164 = .ok (.newarray .int, 2) := by decide +kernel
theorem dX4_init_166 : decode cX4_init 166 = .ok (.putfield 60, 3) := by decide +kernel
theorem dX4_init_169 : decode cX4_init 169 = .ok (.aload_n 0, 1) := by decide +kernel
theorem dX4_init_170 : decode cX4_init 170 = .ok (.sipush 160, 3) := by decide +kernel
theorem dX4_init_173 : decode cX4_init 173 = .ok (.newarray .int, 2) := by decide +kernel
theorem dX4_init_175 : decode cX4_init 175 = .ok (.putfield 63, 3) := by decide +kernel
theorem dX4_init_178 : decode cX4_init 178 = .ok (.aload_n 0, 1) := by decide +kernel
theorem dX4_init_179 : decode cX4_init 179 = .ok (.bipush 40, 2) := by decide +kernel
theorem dX4_init_181 : decode cX4_init 181 = .ok (.newarray .int, 2) := by decide +kernel
theorem dX4_init_183 : decode cX4_init 183 = .ok (.putfield 66, 3) := by decide +kernel
theorem dX4_init_186 : decode cX4_init 186 = .ok (.aload_n 0, 1) := by decide +kernel
theorem dX4_init_187 : decode cX4_init 187 = .ok (.getfield 9, 3) := by decide +kernel
theorem dX4_init_190 : decode cX4_init 190 = .ok (.iconst 1, 1) := by decide +kernel
theorem dX4_init_191 : decode cX4_init 191 = .ok (.iconst 3, 1) := by decide +kernel
theorem dX4_init_192 : decode cX4_init 192 = .ok (.iastore, 1) := by decide +kernel
theorem dX4_init_193 : decode cX4_init 193 = .ok (.aload_n 0, 1) := by decide +kernel
theorem dX4_init_194 : decode cX4_init 194 = .ok (.getfield 9, 3) := by decide +kernel
theorem dX4_init_197 : decode cX4_init 197 = .ok (.iconst 3, 1) := by decide +kernel
theorem dX4_init_198 : decode cX4_init 198 = .ok (.iconst 1, 1) := by decide +kernel
theorem dX4_init_199 : decode cX4_init 199 = .ok (.iastore, 1) := by decide +kernel
theorem dX4_init_200 : decode cX4_init 200 = .ok (.iconst 0, 1) := by decide +kernel
theorem dX4_init_201 : decode cX4_init 201 = .ok (.istore_n 1, 1) := by decide +kernel
theorem dX4_init_202 : decode cX4_init 202 = .ok (.iload_n 1, 1) := by decide +kernel
theorem dX4_init_203 : decode cX4_init 203 = .ok (.bipush 10, 2) := by decide +kernel
theorem dX4_init_205 : decode cX4_init 205 = .ok (.if_icmp .ge 18, 3) := by decide +kernel
theorem dX4_init_208 : decode cX4_init 208 = .ok (.aload_n 0, 1) := by decide +kernel
theorem dX4_init_209 : decode cX4_init 209 = .ok (.getfield 9, 3) := by decide +kernel
theorem dX4_init_212 : decode cX4_init 212 = .ok (.iconst 4, 1) := by decide +kernel
theorem dX4_init_213 : decode cX4_init 213 = .ok (.iload_n 1, 1) := by decide +kernel
theorem dX4_init_214 : decode cX4_init 214 = .ok (.iadd, 1) := by decide +kernel
theorem dX4_init_215 : decode cX4_init 215 = .ok (.iconst (-1), 1) := by decide +kernel
theorem dX4_init_216 : decode cX4_init 216 = .ok (.iastore, 1) := by decide +kernel
theorem dX4_init_217 : decode cX4_init 217 = .ok (.iinc 1 1, 3) := by decide +kernel
theorem dX4_init_220 : decode cX4_init 220 = .ok (.goto (-18), 3) := by decide +kernel
theorem dX4_init_223 : decode cX4_init 223 = .ok (.iconst 0, 1) := by decide +kernel
theorem dX4_init_224 : decode cX4_init 224 = .ok (.istore_n 1, 1) := by decide +kernel
theorem dX4_init_225 : decode cX4_init 225 = .ok (.iload_n 1, 1) := by decide +kernel
theorem dX4_init_226 : decode cX4_init 226 = .ok (.iconst 4, 1) := by decide +kernel
theorem dX4_init_227 : decode cX4_init 227 = .ok (.if_icmp .ge 19, 3) := by decide +kernel
theorem dX4_init_230 : decode cX4_init 230 = .ok (.aload_n 0, 1) := by decide +kernel
theorem dX4_init_231 : decode cX4_init 231 = .ok (.getfield 9, 3) := by decide +kernel
theorem dX4_init_234 : decode cX4_init 234 = .ok (.bipush 14, 2) := by decide +kernel
theorem dX4_init_236 : decode cX4_init 236 = .ok (.iload_n 1, 1) := by decide +kernel
theorem dX4_init_237 : decode cX4_init 237 = .ok (.iadd, 1) := by decide +kernel
theorem dX4_init_238 : decode cX4_init 238 = .ok (.iconst (-1), 1) := by decide +kernel
theorem dX4_init_239 : decode cX4_init 239 = .ok (.iastore, 1) := by decide +kernel
theorem dX4_init_240 : decode cX4_init 240 = .ok (.iinc 1 1, 3) := by decide +kernel
theorem dX4_init_243 : decode cX4_init 243 = .ok (.goto (-18), 3) := by decide +kernel
theorem dX4_init_246 : decode cX4_init 246 = .ok (.return_, 1) := by decide +kernel
theorem dX4_finding_0 : decode cX4_finding 0 = .ok (.aload_n 0, 1) := by decide +kernel
theorem dX4_finding_1 : decode cX4_finding 1 = .ok (.getfield 19, 3) := by decide +kernel
theorem dX4_finding_4 : decode cX4_finding 4 = .ok (.ldc 69, 2) := by decide +kernel
theorem dX4_finding_6 : decode cX4_finding 6 = .ok (.iload_n 1, 1) := by decide +kernel
theorem dX4_finding_7 : decode cX4_finding 7 = .ok (.isub, 1) := by decide +kernel
theorem dX4_finding_8 : decode cX4_finding 8 = .ok (.iconst 1, 1) := by decide +kernel
theorem dX4_finding_9 : decode cX4_finding 9 = .ok (.iadd, 1) := by decide +kernel
theorem dX4_finding_10 : decode cX4_finding 10 = .ok (.dup2, 1) := by decide +kernel
theorem dX4_finding_11 : decode cX4_finding 11 = .ok (.iaload, 1) := by decide +kernel
theorem dX4_finding_12 : decode cX4_finding 12 = .ok (.iconst 1, 1) := by decide +kernel
theorem dX4_finding_13 : decode cX4_finding 13 = .ok (.iadd, 1) := by decide +kernel
theorem dX4_finding_14 : decode cX4_finding 14 = .ok (.iastore, 1) := by decide +kernel
theorem dX4_finding_15 : decode cX4_finding 15 = .ok (.aload_n 0, 1) := by decide +kernel
theorem dX4_finding_16 : decode cX4_finding 16 = .ok (.getfield 19, 3) := by decide +kernel
theorem dX4_finding_19 : decode cX4_finding 19 = .ok (.iconst 0, 1) := by decide +kernel
theorem dX4_finding_20 : decode cX4_finding 20 = .ok (.dup2, 1) := by decide +kernel
theorem dX4_finding_21 : decode cX4_finding 21 = .ok (.iaload, 1) := by decide +kernel
theorem dX4_finding_22 : decode cX4_finding 22 = .ok (.iconst 1, 1) := by decide +kernel
theorem dX4_finding_23 : decode cX4_finding 23 = .ok (.iadd, 1) := by decide +kernel
theorem dX4_finding_24 : decode cX4_finding 24 = .ok (.iastore, 1) := by decide +kernel
theorem dX4_finding_25 : decode cX4_finding 25 = .ok (.iload_n 1, 1) := by decide +kernel
theorem dX4_finding_26 : decode cX4_finding 26 = .ok (.ireturn, 1) := by decide +kernel
theorem dX4_within_0 : decode cX4_within 0 = .ok (.iload_n 0, 1) := by decide +kernel
theorem dX4_within_1 : decode cX4_within 1 = .ok (.iload_n 1, 1) := by decide +kernel
theorem dX4_within_2 : decode cX4_within 2 = .ok (.if_icmp .lt 12, 3) := by decide +kernel
theorem dX4_within_5 : decode cX4_within 5 = .ok (.iload_n 0, 1) := by decide +kernel
theorem dX4_within_6 : decode cX4_within 6 = .ok (.iload_n 2, 1) := by decide +kernel
theorem dX4_within_7 : decode cX4_within 7 = .ok (.if_icmp .gt 7, 3) := by decide +kernel
theorem dX4_within_10 : decode cX4_within 10 = .ok (.iconst 1, 1) := by decide +kernel
theorem dX4_within_11 : decode cX4_within 11 = .ok (.goto 4, 3) := by decide +kernel
theorem dX4_within_14 : decode cX4_within 14 = .ok (.iconst 0, 1) := by decide +kernel
theorem dX4_within_15 : decode cX4_within 15 = .ok (.ireturn, 1) := by decide +kernel
theorem dX4_become_0 : decode cX4_become 0 = .ok (.aload_n 0, 1) := by decide +kernel
theorem dX4_become_1 : decode cX4_become 1 = .ok (.getfield 9, 3) := by decide +kernel
theorem dX4_become_4 : decode cX4_become 4 = .ok (.iload_n 1, 1) := by decide +kernel
theorem dX4_become_5 : decode cX4_become 5 = .ok (.iaload, 1) := by decide +kernel
theorem dX4_become_6 : decode cX4_become 6 = .ok (.istore_n 3, 1) := by decide +kernel
theorem dX4_become_7 : decode cX4_become 7 = .ok (.aload_n 0, 1) := by decide +kernel
theorem dX4_become_8 : decode cX4_become 8 = .ok (.getfield 9, 3) := by decide +kernel
theorem dX4_become_11 : decode cX4_become 11 = .ok (.iload_n 1, 1) := by decide +kernel
theorem dX4_become_12 : decode cX4_become 12 = .ok (.iload_n 2, 1) := by decide +kernel
theorem dX4_become_13 : decode cX4_become 13 = .ok (.iastore, 1) := by decide +kernel
theorem dX4_become_14 : decode cX4_become 14 = .ok (.iload_n 3, 1) := by decide +kernel
theorem dX4_become_15 : decode cX4_become 15 = .ok (.ireturn, 1) := by decide +kernel
theorem dX4_copyRow_0 : decode cX4_copyRow 0 = .ok (.iconst 0, 1) := by decide +kernel
theorem dX4_copyRow_1 : decode cX4_copyRow 1 = .ok (.istore_n 2, 1) := by decide +kernel
theorem dX4_copyRow_2 : decode cX4_copyRow 2 = .ok (.iload_n 2, 1) := by decide +kernel
theorem dX4_copyRow_3 : decode cX4_copyRow 3 = .ok (.sipush 186, 3) := by decide +kernel
theorem dX4_copyRow_6 : decode cX4_copyRow 6 = .ok (.if_icmp .ge 15, 3) := by decide +kernel
theorem dX4_copyRow_9 : decode cX4_copyRow 9 = .ok (.aload_n 1, 1) := by decide +kernel
theorem dX4_copyRow_10 : decode cX4_copyRow 10 = .ok (.iload_n 2, 1) := by decide +kernel
theorem dX4_copyRow_11 : decode cX4_copyRow 11 = .ok (.aload_n 0, 1) := by decide +kernel
theorem dX4_copyRow_12 : decode cX4_copyRow 12 = .ok (.iload_n 2, 1) := by decide +kernel
theorem dX4_copyRow_13 : decode cX4_copyRow 13 = .ok (.iaload, 1) := by decide +kernel
theorem dX4_copyRow_14 : decode cX4_copyRow 14 = .ok (.iastore, 1) := by decide +kernel
theorem dX4_copyRow_15 : decode cX4_copyRow 15 = .ok (.iinc 2 1, 3) := by decide +kernel
theorem dX4_copyRow_18 : decode cX4_copyRow 18 = .ok (.goto (-16), 3) := by decide +kernel
theorem dX4_copyRow_21 : decode cX4_copyRow 21 = .ok (.return_, 1) := by decide +kernel
theorem dX4_putBack_0 : decode cX4_putBack 0 = .ok (.aload_n 0, 1) := by decide +kernel
theorem dX4_putBack_1 : decode cX4_putBack 1 = .ok (.getfield 16, 3) := by decide +kernel
theorem dX4_putBack_4 : decode cX4_putBack 4 = .ok (.aload_n 0, 1) := by decide +kernel
theorem dX4_putBack_5 : decode cX4_putBack 5 = .ok (.getfield 9, 3) := by decide +kernel
theorem dX4_putBack_8 : decode cX4_putBack 8 = .ok (.invokestatic 70, 3) := by decide +kernel
theorem dX4_putBack_11 : decode cX4_putBack 11 = .ok (.iload_n 1, 1) := by decide +kernel
theorem dX4_putBack_12 : decode cX4_putBack 12 = .ok (.ireturn, 1) := by decide +kernel
theorem dX4_has_0 : decode cX4_has 0 = .ok (.iload_n 0, 1) := by decide +kernel
theorem dX4_has_1 : decode cX4_has 1 = .ok (.iload_n 1, 1) := by decide +kernel
theorem dX4_has_2 : decode cX4_has 2 = .ok (.ishr, 1) := by decide +kernel
theorem dX4_has_3 : decode cX4_has 3 = .ok (.iconst 1, 1) := by decide +kernel
theorem dX4_has_4 : decode cX4_has 4 = .ok (.iand, 1) := by decide +kernel
theorem dX4_has_5 : decode cX4_has 5 = .ok (.iconst 1, 1) := by decide +kernel
theorem dX4_has_6 : decode cX4_has 6 = .ok (.if_icmp .ne 7, 3) := by decide +kernel
theorem dX4_has_9 : decode cX4_has 9 = .ok (.iconst 1, 1) := by decide +kernel
theorem dX4_has_10 : decode cX4_has 10 = .ok (.goto 4, 3) := by decide +kernel
theorem dX4_has_13 : decode cX4_has 13 = .ok (.iconst 0, 1) := by decide +kernel
theorem dX4_has_14 : decode cX4_has 14 = .ok (.ireturn, 1) := by decide +kernel
theorem dX4_bits_0 : decode cX4_bits 0 = .ok (.iconst 0, 1) := by decide +kernel
theorem dX4_bits_1 : decode cX4_bits 1 = .ok (.istore_n 1, 1) := by decide +kernel
theorem dX4_bits_2 : decode cX4_bits 2 = .ok (.iload_n 0, 1) := by decide +kernel
theorem dX4_bits_3 : decode cX4_bits 3 = .ok (.istore_n 2, 1) := by decide +kernel
theorem dX4_bits_4 : decode cX4_bits 4 = .ok (.iload_n 2, 1) := by decide +kernel
theorem dX4_bits_5 : decode cX4_bits 5 = .ok (.ifCond .eq 15, 3) := by decide +kernel
theorem dX4_bits_8 : decode cX4_bits 8 = .ok (.iinc 1 1, 3) := by decide +kernel
theorem dX4_bits_11 : decode cX4_bits 11 = .ok (.iload_n 2, 1) := by decide +kernel
theorem dX4_bits_12 : decode cX4_bits 12 = .ok (.iload_n 2, 1) := by decide +kernel
theorem dX4_bits_13 : decode cX4_bits 13 = .ok (.iconst 1, 1) := by decide +kernel
theorem dX4_bits_14 : decode cX4_bits 14 = .ok (.isub, 1) := by decide +kernel
theorem dX4_bits_15 : decode cX4_bits 15 = .ok (.iand, 1) := by decide +kernel
theorem dX4_bits_16 : decode cX4_bits 16 = .ok (.istore_n 2, 1) := by decide +kernel
theorem dX4_bits_17 : decode cX4_bits 17 = .ok (.goto (-13), 3) := by decide +kernel
theorem dX4_bits_20 : decode cX4_bits 20 = .ok (.iload_n 1, 1) := by decide +kernel
theorem dX4_bits_21 : decode cX4_bits 21 = .ok (.ireturn, 1) := by decide +kernel
theorem dX4_isCell_0 : decode cX4_isCell 0 = .ok (.iload_n 0, 1) := by decide +kernel
theorem dX4_isCell_1 : decode cX4_isCell 1 = .ok (.iconst 0, 1) := by decide +kernel
theorem dX4_isCell_2 : decode cX4_isCell 2 = .ok (.bipush 63, 2) := by decide +kernel
theorem dX4_isCell_4 : decode cX4_isCell 4 = .ok (.invokestatic 74, 3) := by decide +kernel
theorem dX4_isCell_7 : decode cX4_isCell 7 = .ok (.ireturn, 1) := by decide +kernel
theorem dX4_apart_0 : decode cX4_apart 0 = .ok (.iload_n 0, 1) := by decide +kernel
theorem dX4_apart_1 : decode cX4_apart 1 = .ok (.bipush 8, 2) := by decide +kernel
theorem dX4_apart_3 : decode cX4_apart 3 = .ok (.idiv, 1) := by decide +kernel
theorem dX4_apart_4 : decode cX4_apart 4 = .ok (.iload_n 1, 1) := by decide +kernel
theorem dX4_apart_5 : decode cX4_apart 5 = .ok (.bipush 8, 2) := by decide +kernel
theorem dX4_apart_7 : decode cX4_apart 7 = .ok (.idiv, 1) := by decide +kernel
theorem dX4_apart_8 : decode cX4_apart 8 = .ok (.isub, 1) := by decide +kernel
theorem dX4_apart_9 : decode cX4_apart 9 = .ok (.invokestatic 78, 3) := by decide +kernel
theorem dX4_apart_12 : decode cX4_apart 12 = .ok (.iload_n 0, 1) := by decide +kernel
theorem dX4_apart_13 : decode cX4_apart 13 = .ok (.bipush 8, 2) := by decide +kernel
theorem dX4_apart_15 : decode cX4_apart 15 = .ok (.irem, 1) := by decide +kernel
theorem dX4_apart_16 : decode cX4_apart 16 = .ok (.iload_n 1, 1) := by decide +kernel
theorem dX4_apart_17 : decode cX4_apart 17 = .ok (.bipush 8, 2) := by decide +kernel
theorem dX4_apart_19 : decode cX4_apart 19 = .ok (.irem, 1) := by decide +kernel
theorem dX4_apart_20 : decode cX4_apart 20 = .ok (.isub, 1) := by decide +kernel
theorem dX4_apart_21 : decode cX4_apart 21 = .ok (.invokestatic 78, 3) := by decide +kernel
theorem dX4_apart_24 : decode cX4_apart 24 = .ok (.iadd, 1) := by decide +kernel
theorem dX4_apart_25 : decode cX4_apart 25 = .ok (.ireturn, 1) := by decide +kernel
theorem dX4_beside_0 : decode cX4_beside 0 = .ok (.iload_n 1, 1) := by decide +kernel
theorem dX4_beside_1 : decode cX4_beside 1 = .ok (.bipush 8, 2) := by decide +kernel
theorem dX4_beside_3 : decode cX4_beside 3 = .ok (.idiv, 1) := by decide +kernel
theorem dX4_beside_4 : decode cX4_beside 4 = .ok (.aload_n 0, 1) := by decide +kernel
theorem dX4_beside_5 : decode cX4_beside 5 = .ok (.getfield 22, 3) := by decide +kernel
theorem dX4_beside_8 : decode cX4_beside 8 = .ok (.iload_n 2, 1) := by decide +kernel
theorem dX4_beside_9 : decode cX4_beside 9 = .ok (.iaload, 1) := by decide +kernel
theorem dX4_beside_10 : decode cX4_beside 10 = .ok (.iadd, 1) := by decide +kernel
theorem dX4_beside_11 : decode cX4_beside 11 = .ok (.istore_n 3, 1) := by decide +kernel
theorem dX4_beside_12 : decode cX4_beside 12 = .ok (.iload_n 1, 1) := by decide +kernel
theorem dX4_beside_13 : decode cX4_beside 13 = .ok (.bipush 8, 2) := by decide +kernel
theorem dX4_beside_15 : decode cX4_beside 15 = .ok (.irem, 1) := by decide +kernel
theorem dX4_beside_16 : decode cX4_beside 16 = .ok (.aload_n 0, 1) := by decide +kernel
theorem dX4_beside_17 : decode cX4_beside 17 = .ok (.getfield 25, 3) := by decide +kernel
theorem dX4_beside_20 : decode cX4_beside 20 = .ok (.iload_n 2, 1) := by decide +kernel
theorem dX4_beside_21 : decode cX4_beside 21 = .ok (.iaload, 1) := by decide +kernel
theorem dX4_beside_22 : decode cX4_beside 22 = .ok (.iadd, 1) := by decide +kernel
theorem dX4_beside_23 : decode cX4_beside 23 = .ok (.istore 4, 2) := by decide +kernel
theorem dX4_beside_25 : decode cX4_beside 25 = .ok (.iload_n 3, 1) := by decide +kernel
theorem dX4_beside_26 : decode cX4_beside 26 = .ok (.iconst 0, 1) := by decide +kernel
theorem dX4_beside_27 : decode cX4_beside 27 = .ok (.bipush 7, 2) := by decide +kernel
theorem dX4_beside_29 : decode cX4_beside 29 = .ok (.invokestatic 74, 3) := by decide +kernel
theorem dX4_beside_32 : decode cX4_beside 32 = .ok (.ifCond .eq 24, 3) := by decide +kernel
theorem dX4_beside_35 : decode cX4_beside 35 = .ok (.iload 4, 2) := by decide +kernel
theorem dX4_beside_37 : decode cX4_beside 37 = .ok (.iconst 0, 1) := by decide +kernel
theorem dX4_beside_38 : decode cX4_beside 38 = .ok (.bipush 7, 2) := by decide +kernel
theorem dX4_beside_40 : decode cX4_beside 40 = .ok (.invokestatic 74, 3) := by decide +kernel
theorem dX4_beside_43 : decode cX4_beside 43 = .ok (.ifCond .eq 13, 3) := by decide +kernel
theorem dX4_beside_46 : decode cX4_beside 46 = .ok (.bipush 8, 2) := by decide +kernel
theorem dX4_beside_48 : decode cX4_beside 48 = .ok (.iload_n 3, 1) := by decide +kernel
theorem dX4_beside_49 : decode cX4_beside 49 = .ok (.imul, 1) := by decide +kernel
theorem dX4_beside_50 : decode cX4_beside 50 = .ok (.iload 4, 2) := by decide +kernel
theorem dX4_beside_52 : decode cX4_beside 52 = .ok (.iadd, 1) := by decide +kernel
theorem dX4_beside_53 : decode cX4_beside 53 = .ok (.goto 4, 3) := by decide +kernel
theorem dX4_beside_56 : decode cX4_beside 56 = .ok (.iconst (-1), 1) := by decide +kernel
theorem dX4_beside_57 : decode cX4_beside 57 = .ok (.ireturn, 1) := by decide +kernel
theorem dX4_hasNet_0 : decode cX4_hasNet 0 = .ok (.aload_n 0, 1) := by decide +kernel
theorem dX4_hasNet_1 : decode cX4_hasNet 1 = .ok (.getfield 9, 3) := by decide +kernel
theorem dX4_hasNet_4 : decode cX4_hasNet 4 = .ok (.bipush 18, 2) := by decide +kernel
theorem dX4_hasNet_6 : decode cX4_hasNet 6 = .ok (.iload_n 1, 1) := by decide +kernel
theorem dX4_hasNet_7 : decode cX4_hasNet 7 = .ok (.iadd, 1) := by decide +kernel
theorem dX4_hasNet_8 : decode cX4_hasNet 8 = .ok (.iaload, 1) := by decide +kernel
theorem dX4_hasNet_9 : decode cX4_hasNet 9 = .ok (.iconst 1, 1) := by decide +kernel
theorem dX4_hasNet_10 : decode cX4_hasNet 10 = .ok (.if_icmp .ne 7, 3) := by decide +kernel
theorem dX4_hasNet_13 : decode cX4_hasNet 13 = .ok (.iconst 1, 1) := by decide +kernel
theorem dX4_hasNet_14 : decode cX4_hasNet 14 = .ok (.goto 4, 3) := by decide +kernel
theorem dX4_hasNet_17 : decode cX4_hasNet 17 = .ok (.iconst 0, 1) := by decide +kernel
theorem dX4_hasNet_18 : decode cX4_hasNet 18 = .ok (.ireturn, 1) := by decide +kernel
theorem dX4_net_0 : decode cX4_net 0 = .ok (.iload_n 1, 1) := by decide +kernel
theorem dX4_net_1 : decode cX4_net 1 = .ok (.invokestatic 84, 3) := by decide +kernel
theorem dX4_net_4 : decode cX4_net 4 = .ok (.ifCond .eq 12, 3) := by decide +kernel
theorem dX4_net_7 : decode cX4_net 7 = .ok (.iload_n 2, 1) := by decide +kernel
theorem dX4_net_8 : decode cX4_net 8 = .ok (.iconst 0, 1) := by decide +kernel
theorem dX4_net_9 : decode cX4_net 9 = .ok (.iconst 1, 1) := by decide +kernel
theorem dX4_net_10 : decode cX4_net 10 = .ok (.invokestatic 74, 3) := by decide +kernel
theorem dX4_net_13 : decode cX4_net 13 = .ok (.ifCond .ne 10, 3) := by decide +kernel
theorem dX4_net_16 : decode cX4_net 16 = .ok (.aload_n 0, 1) := by decide +kernel
theorem dX4_net_17 : decode cX4_net 17 = .ok (.ldc 69, 2) := by decide +kernel
theorem dX4_net_19 : decode cX4_net 19 = .ok (.invokevirtual 88, 3) := by decide +kernel
theorem dX4_net_22 : decode cX4_net 22 = .ok (.ireturn, 1) := by decide +kernel
theorem dX4_net_23 : decode cX4_net 23 = .ok (.aload_n 0, 1) := by decide +kernel
theorem dX4_net_24 : decode cX4_net 24 = .ok (.bipush 18, 2) := by decide +kernel
theorem dX4_net_26 : decode cX4_net 26 = .ok (.iload_n 1, 1) := by decide +kernel
theorem dX4_net_27 : decode cX4_net 27 = .ok (.iadd, 1) := by decide +kernel
theorem dX4_net_28 : decode cX4_net 28 = .ok (.iload_n 2, 1) := by decide +kernel
theorem dX4_net_29 : decode cX4_net 29 = .ok (.invokevirtual 91, 3) := by decide +kernel
theorem dX4_net_32 : decode cX4_net 32 = .ok (.iload_n 2, 1) := by decide +kernel
theorem dX4_net_33 : decode cX4_net 33 = .ok (.if_icmp .ne 7, 3) := by decide +kernel
theorem dX4_net_36 : decode cX4_net 36 = .ok (.iconst 0, 1) := by decide +kernel
theorem dX4_net_37 : decode cX4_net 37 = .ok (.goto 4, 3) := by decide +kernel
theorem dX4_net_40 : decode cX4_net 40 = .ok (.iconst 1, 1) := by decide +kernel
theorem dX4_net_41 : decode cX4_net 41 = .ok (.ireturn, 1) := by decide +kernel
theorem dX4_thick_0 : decode cX4_thick 0 = .ok (.iload_n 1, 1) := by decide +kernel
theorem dX4_thick_1 : decode cX4_thick 1 = .ok (.invokestatic 84, 3) := by decide +kernel
theorem dX4_thick_4 : decode cX4_thick 4 = .ok (.ifCond .eq 25, 3) := by decide +kernel
theorem dX4_thick_7 : decode cX4_thick 7 = .ok (.iload_n 2, 1) := by decide +kernel
theorem dX4_thick_8 : decode cX4_thick 8 = .ok (.iconst 0, 1) := by decide +kernel
theorem dX4_thick_9 : decode cX4_thick 9 = .ok (.bipush 9, 2) := by decide +kernel
theorem dX4_thick_11 : decode cX4_thick 11 = .ok (.invokestatic 74, 3) := by decide +kernel
theorem dX4_thick_14 : decode cX4_thick 14 = .ok (.ifCond .eq 15, 3) := by decide +kernel
theorem dX4_thick_17 : decode cX4_thick 17 = .ok (.aload_n 0, 1) := by decide +kernel
theorem dX4_thick_18 : decode cX4_thick 18 = .ok (.bipush 82, 2) := by decide +kernel
theorem dX4_thick_20 : decode cX4_thick 20 = .ok (.iload_n 1, 1) := by decide +kernel
theorem dX4_thick_21 : decode cX4_thick 21 = .ok (.iadd, 1) := by decide +kernel
theorem dX4_thick_22 : decode cX4_thick 22 = .ok (.iload_n 2, 1) := by decide +kernel
theorem dX4_thick_23 : decode cX4_thick 23 = .ok (.invokevirtual 91, 3) := by decide +kernel
theorem dX4_thick_26 : decode cX4_thick 26 = .ok (.goto 9, 3) := by decide +kernel
theorem dX4_thick_29 : decode cX4_thick 29 = .ok (.aload_n 0, 1) := by decide +kernel
theorem dX4_thick_30 : decode cX4_thick 30 = .ok (.ldc 69, 2) := by decide +kernel
theorem dX4_thick_32 : decode cX4_thick 32 = .ok (.invokevirtual 88, 3) := by decide +kernel
theorem dX4_thick_35 : decode cX4_thick 35 = .ok (.ireturn, 1) := by decide +kernel
theorem dX4_isHunter_0 : decode cX4_isHunter 0 = .ok (.iload_n 0, 1) := by decide +kernel
theorem dX4_isHunter_1 : decode cX4_isHunter 1 = .ok (.iconst 0, 1) := by decide +kernel
theorem dX4_isHunter_2 : decode cX4_isHunter 2 = .ok (.iconst 3, 1) := by decide +kernel
theorem dX4_isHunter_3 : decode cX4_isHunter 3 = .ok (.invokestatic 74, 3) := by decide +kernel
theorem dX4_isHunter_6 : decode cX4_isHunter 6 = .ok (.ireturn, 1) := by decide +kernel
theorem dX4_hunter_0 : decode cX4_hunter 0 = .ok (.iload_n 1, 1) := by decide +kernel
theorem dX4_hunter_1 : decode cX4_hunter 1 = .ok (.invokestatic 95, 3) := by decide +kernel
theorem dX4_hunter_4 : decode cX4_hunter 4 = .ok (.ifCond .eq 25, 3) := by decide +kernel
theorem dX4_hunter_7 : decode cX4_hunter 7 = .ok (.iload_n 2, 1) := by decide +kernel
theorem dX4_hunter_8 : decode cX4_hunter 8 = .ok (.iconst (-1), 1) := by decide +kernel
theorem dX4_hunter_9 : decode cX4_hunter 9 = .ok (.bipush 63, 2) := by decide +kernel
theorem dX4_hunter_11 : decode cX4_hunter 11 = .ok (.invokestatic 74, 3) := by decide +kernel
theorem dX4_hunter_14 : decode cX4_hunter 14 = .ok (.ifCond .eq 15, 3) := by decide +kernel
theorem dX4_hunter_17 : decode cX4_hunter 17 = .ok (.aload_n 0, 1) := by decide +kernel
theorem dX4_hunter_18 : decode cX4_hunter 18 = .ok (.bipush 14, 2) := by decide +kernel
theorem dX4_hunter_20 : decode cX4_hunter 20 = .ok (.iload_n 1, 1) := by decide +kernel
theorem dX4_hunter_21 : decode cX4_hunter 21 = .ok (.iadd, 1) := by decide +kernel
theorem dX4_hunter_22 : decode cX4_hunter 22 = .ok (.iload_n 2, 1) := by decide +kernel
theorem dX4_hunter_23 : decode cX4_hunter 23 = .ok (.invokevirtual 91, 3) := by decide +kernel
theorem dX4_hunter_26 : decode cX4_hunter 26 = .ok (.goto 9, 3) := by decide +kernel
theorem dX4_hunter_29 : decode cX4_hunter 29 = .ok (.aload_n 0, 1) := by decide +kernel
theorem dX4_hunter_30 : decode cX4_hunter 30 = .ok (.ldc 69, 2) := by decide +kernel
theorem dX4_hunter_32 : decode cX4_hunter 32 = .ok (.invokevirtual 88, 3) := by decide +kernel
theorem dX4_hunter_35 : decode cX4_hunter 35 = .ok (.ireturn, 1) := by decide +kernel
theorem dX4_fear_0 : decode cX4_fear 0 = .ok (.iload_n 1, 1) := by decide +kernel
theorem dX4_fear_1 : decode cX4_fear 1 = .ok (.iconst 0, 1) := by decide +kernel
theorem dX4_fear_2 : decode cX4_fear 2 = .ok (.bipush 9, 2) := by decide +kernel
theorem dX4_fear_4 : decode cX4_fear 4 = .ok (.invokestatic 74, 3) := by decide +kernel
theorem dX4_fear_7 : decode cX4_fear 7 = .ok (.ifCond .eq 12, 3) := by decide +kernel
theorem dX4_fear_10 : decode cX4_fear 10 = .ok (.aload_n 0, 1) := by decide +kernel
theorem dX4_fear_11 : decode cX4_fear 11 = .ok (.iconst 1, 1) := by decide +kernel
theorem dX4_fear_12 : decode cX4_fear 12 = .ok (.iload_n 1, 1) := by decide +kernel
theorem dX4_fear_13 : decode cX4_fear 13 = .ok (.invokevirtual 91, 3) := by decide +kernel
theorem dX4_fear_16 : decode cX4_fear 16 = .ok (.goto 9, 3) := by decide +kernel
theorem dX4_fear_19 : decode cX4_fear 19 = .ok (.aload_n 0, 1) := by decide +kernel
theorem dX4_fear_20 : decode cX4_fear 20 = .ok (.ldc 69, 2) := by decide +kernel
theorem dX4_fear_22 : decode cX4_fear 22 = .ok (.invokevirtual 88, 3) := by decide +kernel
theorem dX4_fear_25 : decode cX4_fear 25 = .ok (.ireturn, 1) := by decide +kernel
theorem dX4_isBell_0 : decode cX4_isBell 0 = .ok (.iload_n 1, 1) := by decide +kernel
theorem dX4_isBell_1 : decode cX4_isBell 1 = .ok (.iconst 0, 1) := by decide +kernel
theorem dX4_isBell_2 : decode cX4_isBell 2 = .ok (.aload_n 0, 1) := by decide +kernel
theorem dX4_isBell_3 : decode cX4_isBell 3 = .ok (.getfield 9, 3) := by decide +kernel
theorem dX4_isBell_6 : decode cX4_isBell 6 = .ok (.iconst 2, 1) := by decide +kernel
theorem dX4_isBell_7 : decode cX4_isBell 7 = .ok (.iaload, 1) := by decide +kernel
theorem dX4_isBell_8 : decode cX4_isBell 8 = .ok (.iconst 1, 1) := by decide +kernel
theorem dX4_isBell_9 : decode cX4_isBell 9 = .ok (.isub, 1) := by decide +kernel
theorem dX4_isBell_10 : decode cX4_isBell 10 = .ok (.invokestatic 74, 3) := by decide +kernel
theorem dX4_isBell_13 : decode cX4_isBell 13 = .ok (.ireturn, 1) := by decide +kernel
theorem dX4_isKind_0 : decode cX4_isKind 0 = .ok (.iload_n 0, 1) := by decide +kernel
theorem dX4_isKind_1 : decode cX4_isKind 1 = .ok (.iconst 0, 1) := by decide +kernel
theorem dX4_isKind_2 : decode cX4_isKind 2 = .ok (.bipush 6, 2) := by decide +kernel
theorem dX4_isKind_4 : decode cX4_isKind 4 = .ok (.invokestatic 74, 3) := by decide +kernel
theorem dX4_isKind_7 : decode cX4_isKind 7 = .ok (.ireturn, 1) := by decide +kernel
theorem dX4_at_0 : decode cX4_at 0 = .ok (.sipush 146, 3) := by decide +kernel
theorem dX4_at_3 : decode cX4_at 3 = .ok (.iconst 5, 1) := by decide +kernel
theorem dX4_at_4 : decode cX4_at 4 = .ok (.iload_n 0, 1) := by decide +kernel
theorem dX4_at_5 : decode cX4_at 5 = .ok (.imul, 1) := by decide +kernel
theorem dX4_at_6 : decode cX4_at 6 = .ok (.iadd, 1) := by decide +kernel
theorem dX4_at_7 : decode cX4_at 7 = .ok (.iload_n 1, 1) := by decide +kernel
theorem dX4_at_8 : decode cX4_at 8 = .ok (.iadd, 1) := by decide +kernel
theorem dX4_at_9 : decode cX4_at 9 = .ok (.ireturn, 1) := by decide +kernel
theorem dX4_bellIs_0 : decode cX4_bellIs 0 = .ok (.aload_n 0, 1) := by decide +kernel
theorem dX4_bellIs_1 : decode cX4_bellIs 1 = .ok (.getfield 9, 3) := by decide +kernel
theorem dX4_bellIs_4 : decode cX4_bellIs 4 = .ok (.iload_n 1, 1) := by decide +kernel
theorem dX4_bellIs_5 : decode cX4_bellIs 5 = .ok (.iload_n 2, 1) := by decide +kernel
theorem dX4_bellIs_6 : decode cX4_bellIs 6 = .ok (.invokestatic 98, 3) := by decide +kernel
theorem dX4_bellIs_9 : decode cX4_bellIs 9 = .ok (.iaload, 1) := by decide +kernel
theorem dX4_bellIs_10 : decode cX4_bellIs 10 = .ok (.ireturn, 1) := by decide +kernel
theorem dX4_isCaught_0 : decode cX4_isCaught 0 = .ok (.aload_n 0, 1) := by decide +kernel
theorem dX4_isCaught_1 : decode cX4_isCaught 1 = .ok (.iload_n 1, 1) := by decide +kernel
theorem dX4_isCaught_2 : decode cX4_isCaught 2 = .ok (.iconst 4, 1) := by decide +kernel
theorem dX4_isCaught_3 : decode cX4_isCaught 3 = .ok (.invokevirtual 101, 3) := by decide +kernel
theorem dX4_isCaught_6 : decode cX4_isCaught 6 = .ok (.iconst 1, 1) := by decide +kernel
theorem dX4_isCaught_7 : decode cX4_isCaught 7 = .ok (.if_icmp .ne 7, 3) := by decide +kernel
theorem dX4_isCaught_10 : decode cX4_isCaught 10 = .ok (.iconst 1, 1) := by decide +kernel
theorem dX4_isCaught_11 : decode cX4_isCaught 11 = .ok (.goto 4, 3) := by decide +kernel
theorem dX4_isCaught_14 : decode cX4_isCaught 14 = .ok (.iconst 0, 1) := by decide +kernel
theorem dX4_isCaught_15 : decode cX4_isCaught 15 = .ok (.ireturn, 1) := by decide +kernel
theorem dX4_comes_0 : decode cX4_comes 0 = .ok (.aload_n 0, 1) := by decide +kernel
theorem dX4_comes_1 : decode cX4_comes 1 = .ok (.getfield 9, 3) := by decide +kernel
theorem dX4_comes_4 : decode cX4_comes 4 = .ok (.iconst 2, 1) := by decide +kernel
theorem dX4_comes_5 : decode cX4_comes 5 = .ok (.iaload, 1) := by decide +kernel
theorem dX4_comes_6 : decode cX4_comes 6 = .ok (.istore 5, 2) := by decide +kernel
theorem dX4_comes_8 : decode cX4_comes 8 = .ok (.aload_n 0, 1) := by decide +kernel
theorem dX4_comes_9 : decode cX4_comes 9 = .ok (.getfield 9, 3) := by decide +kernel
theorem dX4_comes_12 : decode cX4_comes 12 = .ok (.iload 5, 2) := by decide +kernel
theorem dX4_comes_14 : decode cX4_comes 14 = .ok (.iconst 0, 1) := by decide +kernel
theorem dX4_comes_15 : decode cX4_comes 15 = .ok (.invokestatic 98, 3) := by decide +kernel
theorem dX4_comes_18 : decode cX4_comes 18 = .ok (.iload_n 1, 1) := by decide +kernel
theorem dX4_comes_19 : decode cX4_comes 19 = .ok (.iastore, 1) := by decide +kernel
theorem dX4_comes_20 : decode cX4_comes 20 = .ok (.aload_n 0, 1) := by decide +kernel
theorem dX4_comes_21 : decode cX4_comes 21 = .ok (.getfield 9, 3) := by decide +kernel
theorem dX4_comes_24 : decode cX4_comes 24 = .ok (.iload 5, 2) := by decide +kernel
theorem dX4_comes_26 : decode cX4_comes 26 = .ok (.iconst 1, 1) := by decide +kernel
theorem dX4_comes_27 : decode cX4_comes 27 = .ok (.invokestatic 98, 3) := by decide +kernel
theorem dX4_comes_30 : decode cX4_comes 30 = .ok (.iload_n 2, 1) := by decide +kernel
theorem dX4_comes_31 : decode cX4_comes 31 = .ok (.iastore, 1) := by decide +kernel
theorem dX4_comes_32 : decode cX4_comes 32 = .ok (.aload_n 0, 1) := by decide +kernel
theorem dX4_comes_33 : decode cX4_comes 33 = .ok (.getfield 9, 3) := by decide +kernel
theorem dX4_comes_36 : decode cX4_comes 36 = .ok (.iload 5, 2) := by decide +kernel
theorem dX4_comes_38 : decode cX4_comes 38 = .ok (.iconst 2, 1) := by decide +kernel
theorem dX4_comes_39 : decode cX4_comes 39 = .ok (.invokestatic 98, 3) := by decide +kernel
theorem dX4_comes_42 : decode cX4_comes 42 = .ok (.iload_n 3, 1) := by decide +kernel
theorem dX4_comes_43 : decode cX4_comes 43 = .ok (.iastore, 1) := by decide +kernel
theorem dX4_comes_44 : decode cX4_comes 44 = .ok (.aload_n 0, 1) := by decide +kernel
theorem dX4_comes_45 : decode cX4_comes 45 = .ok (.getfield 9, 3) := by decide +kernel
theorem dX4_comes_48 : decode cX4_comes 48 = .ok (.iload 5, 2) := by decide +kernel
theorem dX4_comes_50 : decode cX4_comes 50 = .ok (.iconst 3, 1) := by decide +kernel
theorem dX4_comes_51 : decode cX4_comes 51 = .ok (.invokestatic 98, 3) := by decide +kernel
theorem dX4_comes_54 : decode cX4_comes 54 = .ok (.iload 4, 2) := by decide +kernel
theorem dX4_comes_56 : decode cX4_comes 56 = .ok (.iastore, 1) := by decide +kernel
theorem dX4_comes_57 : decode cX4_comes 57 = .ok (.aload_n 0, 1) := by decide +kernel
theorem dX4_comes_58 : decode cX4_comes 58 = .ok (.getfield 9, 3) := by decide +kernel
theorem dX4_comes_61 : decode cX4_comes 61 = .ok (.iload 5, 2) := by decide +kernel
theorem dX4_comes_63 : decode cX4_comes 63 = .ok (.iconst 4, 1) := by decide +kernel
theorem dX4_comes_64 : decode cX4_comes 64 = .ok (.invokestatic 98, 3) := by decide +kernel
theorem dX4_comes_67 : decode cX4_comes 67 = .ok (.iconst 0, 1) := by decide +kernel
theorem dX4_comes_68 : decode cX4_comes 68 = .ok (.iastore, 1) := by decide +kernel
theorem dX4_comes_69 : decode cX4_comes 69 = .ok (.aload_n 0, 1) := by decide +kernel
theorem dX4_comes_70 : decode cX4_comes 70 = .ok (.getfield 9, 3) := by decide +kernel
theorem dX4_comes_73 : decode cX4_comes 73 = .ok (.iconst 2, 1) := by decide +kernel
theorem dX4_comes_74 : decode cX4_comes 74 = .ok (.dup2, 1) := by decide +kernel
theorem dX4_comes_75 : decode cX4_comes 75 = .ok (.iaload, 1) := by decide +kernel
theorem dX4_comes_76 : decode cX4_comes 76 = .ok (.iconst 1, 1) := by decide +kernel
theorem dX4_comes_77 : decode cX4_comes 77 = .ok (.iadd, 1) := by decide +kernel
theorem dX4_comes_78 : decode cX4_comes 78 = .ok (.iastore, 1) := by decide +kernel
theorem dX4_comes_79 : decode cX4_comes 79 = .ok (.iload 5, 2) := by decide +kernel
theorem dX4_comes_81 : decode cX4_comes 81 = .ok (.ireturn, 1) := by decide +kernel
theorem dX4_bell_0 : decode cX4_bell 0 = .ok (.iload_n 1, 1) := by decide +kernel
theorem dX4_bell_1 : decode cX4_bell 1 = .ok (.invokestatic 104, 3) := by decide +kernel
theorem dX4_bell_4 : decode cX4_bell 4 = .ok (.ifCond .eq 10, 3) := by decide +kernel
theorem dX4_bell_7 : decode cX4_bell 7 = .ok (.iload_n 2, 1) := by decide +kernel
theorem dX4_bell_8 : decode cX4_bell 8 = .ok (.invokestatic 84, 3) := by decide +kernel
theorem dX4_bell_11 : decode cX4_bell 11 = .ok (.ifCond .ne 10, 3) := by decide +kernel
theorem dX4_bell_14 : decode cX4_bell 14 = .ok (.aload_n 0, 1) := by decide +kernel
theorem dX4_bell_15 : decode cX4_bell 15 = .ok (.ldc 69, 2) := by decide +kernel
theorem dX4_bell_17 : decode cX4_bell 17 = .ok (.invokevirtual 88, 3) := by decide +kernel
theorem dX4_bell_20 : decode cX4_bell 20 = .ok (.ireturn, 1) := by decide +kernel
theorem dX4_bell_21 : decode cX4_bell 21 = .ok (.aload_n 0, 1) := by decide +kernel
theorem dX4_bell_22 : decode cX4_bell 22 = .ok (.getfield 9, 3) := by decide +kernel
theorem dX4_bell_25 : decode cX4_bell 25 = .ok (.iconst 2, 1) := by decide +kernel
theorem dX4_bell_26 : decode cX4_bell 26 = .ok (.iaload, 1) := by decide +kernel
theorem dX4_bell_27 : decode cX4_bell 27 = .ok (.bipush 8, 2) := by decide +kernel
theorem dX4_bell_29 : decode cX4_bell 29 = .ok (.if_icmp .ne 12, 3) := by decide +kernel
theorem dX4_bell_32 : decode cX4_bell 32 = .ok (.aload_n 0, 1) := by decide +kernel
theorem dX4_bell_33 : decode cX4_bell 33 = .ok (.ldc 107, 2) := by decide +kernel
theorem dX4_bell_35 : decode cX4_bell 35 = .ok (.invokevirtual 88, 3) := by decide +kernel
theorem dX4_bell_38 : decode cX4_bell 38 = .ok (.goto 12, 3) := by decide +kernel
theorem dX4_bell_41 : decode cX4_bell 41 = .ok (.aload_n 0, 1) := by decide +kernel
theorem dX4_bell_42 : decode cX4_bell 42 = .ok (.iload_n 1, 1) := by decide +kernel
theorem dX4_bell_43 : decode cX4_bell 43 = .ok (.iload_n 2, 1) := by decide +kernel
theorem dX4_bell_44 : decode cX4_bell 44 = .ok (.iconst 0, 1) := by decide +kernel
theorem dX4_bell_45 : decode cX4_bell 45 = .ok (.bipush 10, 2) := by decide +kernel
theorem dX4_bell_47 : decode cX4_bell 47 = .ok (.invokevirtual 108, 3) := by decide +kernel
theorem dX4_bell_50 : decode cX4_bell 50 = .ok (.ireturn, 1) := by decide +kernel
theorem dX4_above_0 : decode cX4_above 0 = .ok (.iload_n 0, 1) := by decide +kernel
theorem dX4_above_1 : decode cX4_above 1 = .ok (.ifCond .ne 7, 3) := by decide +kernel
theorem dX4_above_4 : decode cX4_above 4 = .ok (.iconst (-1), 1) := by decide +kernel
theorem dX4_above_5 : decode cX4_above 5 = .ok (.goto 32, 3) := by decide +kernel
theorem dX4_above_8 : decode cX4_above 8 = .ok (.iload_n 0, 1) := by decide +kernel
theorem dX4_above_9 : decode cX4_above 9 = .ok (.iconst 3, 1) := by decide +kernel
theorem dX4_above_10 : decode cX4_above 10 = .ok (.if_icmp .ne 7, 3) := by decide +kernel
theorem dX4_above_13 : decode cX4_above 13 = .ok (.iconst 2, 1) := by decide +kernel
theorem dX4_above_14 : decode cX4_above 14 = .ok (.goto 23, 3) := by decide +kernel
theorem dX4_above_17 : decode cX4_above 17 = .ok (.iload_n 0, 1) := by decide +kernel
theorem dX4_above_18 : decode cX4_above 18 = .ok (.iconst 4, 1) := by decide +kernel
theorem dX4_above_19 : decode cX4_above 19 = .ok (.if_icmp .ne 7, 3) := by decide +kernel
theorem dX4_above_22 : decode cX4_above 22 = .ok (.iconst 3, 1) := by decide +kernel
theorem dX4_above_23 : decode cX4_above 23 = .ok (.goto 14, 3) := by decide +kernel
theorem dX4_above_26 : decode cX4_above 26 = .ok (.iload_n 0, 1) := by decide +kernel
theorem dX4_above_27 : decode cX4_above 27 = .ok (.bipush 6, 2) := by decide +kernel
theorem dX4_above_29 : decode cX4_above 29 = .ok (.if_icmp .ne 7, 3) := by decide +kernel
theorem dX4_above_32 : decode cX4_above 32 = .ok (.iconst 1, 1) := by decide +kernel
theorem dX4_above_33 : decode cX4_above 33 = .ok (.goto 4, 3) := by decide +kernel
theorem dX4_above_36 : decode cX4_above 36 = .ok (.iconst 0, 1) := by decide +kernel
theorem dX4_above_37 : decode cX4_above 37 = .ok (.ireturn, 1) := by decide +kernel
theorem dX4_isUnder_0 : decode cX4_isUnder 0 = .ok (.iload_n 0, 1) := by decide +kernel
theorem dX4_isUnder_1 : decode cX4_isUnder 1 = .ok (.istore_n 2, 1) := by decide +kernel
theorem dX4_isUnder_2 : decode cX4_isUnder 2 = .ok (.iload_n 2, 1) := by decide +kernel
theorem dX4_isUnder_3 : decode cX4_isUnder 3 = .ok (.ifCond .lt 16, 3) := by decide +kernel
theorem dX4_isUnder_6 : decode cX4_isUnder 6 = .ok (.iload_n 2, 1) := by decide +kernel
theorem dX4_isUnder_7 : decode cX4_isUnder 7 = .ok (.iload_n 1, 1) := by decide +kernel
theorem dX4_isUnder_8 : decode cX4_isUnder 8 = .ok (.if_icmp .eq 11, 3) := by decide +kernel
theorem dX4_isUnder_11 : decode cX4_isUnder 11 = .ok (.iload_n 2, 1) := by decide +kernel
theorem dX4_isUnder_12 : decode cX4_isUnder 12 = .ok (.invokestatic 112, 3) := by decide +kernel
theorem dX4_isUnder_15 : decode cX4_isUnder 15 = .ok (.istore_n 2, 1) := by decide +kernel
theorem dX4_isUnder_16 : decode cX4_isUnder 16 = .ok (.goto (-14), 3) := by decide +kernel
theorem dX4_isUnder_19 : decode cX4_isUnder 19 = .ok (.iload_n 2, 1) := by decide +kernel
theorem dX4_isUnder_20 : decode cX4_isUnder 20 = .ok (.ifCond .lt 7, 3) := by decide +kernel
theorem dX4_isUnder_23 : decode cX4_isUnder 23 = .ok (.iconst 1, 1) := by decide +kernel
theorem dX4_isUnder_24 : decode cX4_isUnder 24 = .ok (.goto 4, 3) := by decide +kernel
theorem dX4_isUnder_27 : decode cX4_isUnder 27 = .ok (.iconst 0, 1) := by decide +kernel
theorem dX4_isUnder_28 : decode cX4_isUnder 28 = .ok (.ireturn, 1) := by decide +kernel
theorem dX4_nearestOther_0 : decode cX4_nearestOther 0 = .ok (.iconst (-1), 1) := by decide +kernel
theorem dX4_nearestOther_1 : decode cX4_nearestOther 1 = .ok (.istore 4, 2) := by decide +kernel
theorem dX4_nearestOther_3 : decode cX4_nearestOther 3 = .ok (.iconst 0, 1) := by decide +kernel
theorem dX4_nearestOther_4 : decode cX4_nearestOther 4 = .ok (.istore 5, 2) := by decide +kernel
theorem dX4_nearestOther_6 : decode cX4_nearestOther 6 = .ok (.iload 5, 2) := by decide +kernel
theorem dX4_nearestOther_8 : decode cX4_nearestOther 8 = .ok (.aload_n 0, 1) := by decide +kernel
theorem dX4_nearestOther_9 : decode cX4_nearestOther 9 = .ok (.getfield 9, 3) := by decide +kernel
theorem dX4_nearestOther_12 : decode cX4_nearestOther 12 = .ok (.iconst 2, 1) := by decide +kernel
theorem dX4_nearestOther_13 : decode cX4_nearestOther 13 = .ok (.iaload, 1) := by decide +kernel
theorem dX4_nearestOther_14 : decode cX4_nearestOther 14 = .ok (.if_icmp .ge 84, 3) := by decide +kernel
theorem dX4_nearestOther_17 : decode cX4_nearestOther 17 = .ok (.iload 5, 2) := by decide +kernel
theorem dX4_nearestOther_19 : decode cX4_nearestOther 19 = .ok (.iload_n 1, 1) := by decide +kernel
theorem dX4_nearestOther_20 : decode cX4_nearestOther 20 = .ok (.if_icmp .eq 30, 3) := by decide +kernel
theorem dX4_nearestOther_23 : decode cX4_nearestOther 23 = .ok (.aload_n 0, 1) := by decide +kernel
theorem dX4_nearestOther_24 : decode cX4_nearestOther 24 = .ok (.iload 5, 2) := by decide +kernel
theorem dX4_nearestOther_26 : decode cX4_nearestOther 26 = .ok (.invokevirtual 115, 3) := by decide +kernel
theorem dX4_nearestOther_29 : decode cX4_nearestOther 29 = .ok (.ifCond .ne 21, 3) := by decide +kernel
theorem dX4_nearestOther_32 : decode cX4_nearestOther 32 = .ok (.aload_n 0, 1) := by decide +kernel
theorem dX4_nearestOther_33 : decode cX4_nearestOther 33 = .ok (.iload 5, 2) := by decide +kernel
theorem dX4_nearestOther_35 : decode cX4_nearestOther 35 = .ok (.iconst 0, 1) := by decide +kernel
theorem dX4_nearestOther_36 : decode cX4_nearestOther 36 = .ok (.invokevirtual 101, 3) := by decide +kernel
theorem dX4_nearestOther_39 : decode cX4_nearestOther 39 = .ok (.iload_n 3, 1) := by decide +kernel
theorem dX4_nearestOther_40 : decode cX4_nearestOther 40 = .ok (.invokestatic 118, 3) := by decide +kernel
theorem dX4_nearestOther_43 : decode cX4_nearestOther 43 = .ok (.ifCond .eq 7, 3) := by decide +kernel
theorem dX4_nearestOther_46 : decode cX4_nearestOther 46 = .ok (.iconst 1, 1) := by decide +kernel
theorem dX4_nearestOther_47 : decode cX4_nearestOther 47 = .ok (.goto 4, 3) := by decide +kernel
theorem dX4_nearestOther_50 : decode cX4_nearestOther 50 = .ok (.iconst 0, 1) := by decide +kernel
theorem dX4_nearestOther_51 : decode cX4_nearestOther 51 = .ok (.istore 6, 2) := by decide +kernel
theorem dX4_nearestOther_53 : decode cX4_nearestOther 53 = .ok (.iload_n 2, 1) := by decide +kernel
theorem dX4_nearestOther_54 : decode cX4_nearestOther 54 = .ok (.aload_n 0, 1) := by decide +kernel
theorem dX4_nearestOther_55 : decode cX4_nearestOther 55 = .ok (.iload 5, 2) := by decide +kernel
theorem dX4_nearestOther_57 : decode cX4_nearestOther 57 = .ok (.iconst 1, 1) := by decide +kernel
theorem dX4_nearestOther_58 : decode cX4_nearestOther 58 = .ok (.invokevirtual 101, 3) := by decide +kernel
theorem dX4_nearestOther_61 : decode cX4_nearestOther 61 = .ok (.invokestatic 122, 3) := by decide +kernel
theorem dX4_nearestOther_64 : decode cX4_nearestOther 64 = .ok (.istore 7, 2) := by decide +kernel
theorem dX4_nearestOther_66 : decode cX4_nearestOther 66 = .ok (.iload 6, 2) := by decide +kernel
theorem dX4_nearestOther_68 : decode cX4_nearestOther 68 = .ok (.ifCond .eq 20, 3) := by decide +kernel
theorem dX4_nearestOther_71 : decode cX4_nearestOther 71 = .ok (.iload 4, 2) := by decide +kernel
theorem dX4_nearestOther_73 : decode cX4_nearestOther 73 = .ok (.ifCond .lt 10, 3) := by decide +kernel
theorem dX4_nearestOther_76 : decode cX4_nearestOther 76 = .ok (.iload 7, 2) := by decide +kernel
theorem dX4_nearestOther_78 : decode cX4_nearestOther 78 = .ok (.iload 4, 2) := by decide +kernel
theorem dX4_nearestOther_80 : decode cX4_nearestOther 80 = .ok (.if_icmp .ge 8, 3) := by decide +kernel
theorem dX4_nearestOther_83 : decode cX4_nearestOther 83 = .ok (.iload 7, 2) := by decide +kernel
theorem dX4_nearestOther_85 : decode cX4_nearestOther 85 = .ok (.goto 5, 3) := by decide +kernel
theorem dX4_nearestOther_88 : decode cX4_nearestOther 88 = .ok (.iload 4, 2) := by decide +kernel
theorem dX4_nearestOther_90 : decode cX4_nearestOther 90 = .ok (.istore 4, 2) := by decide +kernel
theorem dX4_nearestOther_92 : decode cX4_nearestOther 92 = .ok (.iinc 5 1, 3) := by decide +kernel
theorem dX4_nearestOther_95 : decode cX4_nearestOther 95 = .ok (.goto (-89), 3) := by decide +kernel
theorem dX4_nearestOther_98 : decode cX4_nearestOther 98 = .ok (.iload 4, 2) := by decide +kernel
theorem dX4_nearestOther_100 : decode cX4_nearestOther 100 = .ok (.ireturn, 1) := by decide +kernel
theorem dX4_worthOf_0 : decode cX4_worthOf 0 = .ok (.aload_n 0, 1) := by decide +kernel
theorem dX4_worthOf_1 : decode cX4_worthOf 1 = .ok (.getfield 9, 3) := by decide +kernel
theorem dX4_worthOf_4 : decode cX4_worthOf 4 = .ok (.iconst 1, 1) := by decide +kernel
theorem dX4_worthOf_5 : decode cX4_worthOf 5 = .ok (.iaload, 1) := by decide +kernel
theorem dX4_worthOf_6 : decode cX4_worthOf 6 = .ok (.istore_n 3, 1) := by decide +kernel
theorem dX4_worthOf_7 : decode cX4_worthOf 7 = .ok (.iconst 0, 1) := by decide +kernel
theorem dX4_worthOf_8 : decode cX4_worthOf 8 = .ok (.istore 4, 2) := by decide +kernel
theorem dX4_worthOf_10 : decode cX4_worthOf 10 = .ok (.iload 4, 2) := by decide +kernel
theorem dX4_worthOf_12 : decode cX4_worthOf 12 = .ok (.iconst 4, 1) := by decide +kernel
theorem dX4_worthOf_13 : decode cX4_worthOf 13 = .ok (.if_icmp .ge 45, 3) := by decide +kernel
theorem dX4_worthOf_16 : decode cX4_worthOf 16 = .ok (.aload_n 0, 1) := by decide +kernel
theorem dX4_worthOf_17 : decode cX4_worthOf 17 = .ok (.getfield 9, 3) := by decide +kernel
theorem dX4_worthOf_20 : decode cX4_worthOf 20 = .ok (.bipush 14, 2) := by decide +kernel
theorem dX4_worthOf_22 : decode cX4_worthOf 22 = .ok (.iload 4, 2) := by decide +kernel
theorem dX4_worthOf_24 : decode cX4_worthOf 24 = .ok (.iadd, 1) := by decide +kernel
theorem dX4_worthOf_25 : decode cX4_worthOf 25 = .ok (.iaload, 1) := by decide +kernel
theorem dX4_worthOf_26 : decode cX4_worthOf 26 = .ok (.ifCond .ge 7, 3) := by decide +kernel
theorem dX4_worthOf_29 : decode cX4_worthOf 29 = .ok (.iload_n 3, 1) := by decide +kernel
theorem dX4_worthOf_30 : decode cX4_worthOf 30 = .ok (.goto 21, 3) := by decide +kernel
theorem dX4_worthOf_33 : decode cX4_worthOf 33 = .ok (.iload_n 3, 1) := by decide +kernel
theorem dX4_worthOf_34 : decode cX4_worthOf 34 = .ok (.iload_n 2, 1) := by decide +kernel
theorem dX4_worthOf_35 : decode cX4_worthOf 35 = .ok (.aload_n 0, 1) := by decide +kernel
theorem dX4_worthOf_36 : decode cX4_worthOf 36 = .ok (.getfield 9, 3) := by decide +kernel
theorem dX4_worthOf_39 : decode cX4_worthOf 39 = .ok (.bipush 14, 2) := by decide +kernel
theorem dX4_worthOf_41 : decode cX4_worthOf 41 = .ok (.iload 4, 2) := by decide +kernel
theorem dX4_worthOf_43 : decode cX4_worthOf 43 = .ok (.iadd, 1) := by decide +kernel
theorem dX4_worthOf_44 : decode cX4_worthOf 44 = .ok (.iaload, 1) := by decide +kernel
theorem dX4_worthOf_45 : decode cX4_worthOf 45 = .ok (.invokestatic 122, 3) := by decide +kernel
theorem dX4_worthOf_48 : decode cX4_worthOf 48 = .ok (.invokestatic 125, 3) := by decide +kernel
theorem dX4_worthOf_51 : decode cX4_worthOf 51 = .ok (.istore_n 3, 1) := by decide +kernel
theorem dX4_worthOf_52 : decode cX4_worthOf 52 = .ok (.iinc 4 1, 3) := by decide +kernel
theorem dX4_worthOf_55 : decode cX4_worthOf 55 = .ok (.goto (-45), 3) := by decide +kernel
theorem dX4_worthOf_58 : decode cX4_worthOf 58 = .ok (.aload_n 0, 1) := by decide +kernel
theorem dX4_worthOf_59 : decode cX4_worthOf 59 = .ok (.getfield 9, 3) := by decide +kernel
theorem dX4_worthOf_62 : decode cX4_worthOf 62 = .ok (.bipush 82, 2) := by decide +kernel
theorem dX4_worthOf_64 : decode cX4_worthOf 64 = .ok (.iload_n 2, 1) := by decide +kernel
theorem dX4_worthOf_65 : decode cX4_worthOf 65 = .ok (.iadd, 1) := by decide +kernel
theorem dX4_worthOf_66 : decode cX4_worthOf 66 = .ok (.iaload, 1) := by decide +kernel
theorem dX4_worthOf_67 : decode cX4_worthOf 67 = .ok (.istore 4, 2) := by decide +kernel
theorem dX4_worthOf_69 : decode cX4_worthOf 69 = .ok (.bipush 10, 2) := by decide +kernel
theorem dX4_worthOf_71 : decode cX4_worthOf 71 = .ok (.iload_n 3, 1) := by decide +kernel
theorem dX4_worthOf_72 : decode cX4_worthOf 72 = .ok (.imul, 1) := by decide +kernel
theorem dX4_worthOf_73 : decode cX4_worthOf 73 = .ok (.bipush 9, 2) := by decide +kernel
theorem dX4_worthOf_75 : decode cX4_worthOf 75 = .ok (.iadd, 1) := by decide +kernel
theorem dX4_worthOf_76 : decode cX4_worthOf 76 = .ok (.iload 4, 2) := by decide +kernel
theorem dX4_worthOf_78 : decode cX4_worthOf 78 = .ok (.isub, 1) := by decide +kernel
theorem dX4_worthOf_79 : decode cX4_worthOf 79 = .ok (.istore 5, 2) := by decide +kernel
theorem dX4_worthOf_81 : decode cX4_worthOf 81 = .ok (.aload_n 0, 1) := by decide +kernel
theorem dX4_worthOf_82 : decode cX4_worthOf 82 = .ok (.iload_n 1, 1) := by decide +kernel
theorem dX4_worthOf_83 : decode cX4_worthOf 83 = .ok (.iconst 0, 1) := by decide +kernel
theorem dX4_worthOf_84 : decode cX4_worthOf 84 = .ok (.invokevirtual 101, 3) := by decide +kernel
theorem dX4_worthOf_87 : decode cX4_worthOf 87 = .ok (.istore 6, 2) := by decide +kernel
theorem dX4_worthOf_89 : decode cX4_worthOf 89 = .ok (.iload 6, 2) := by decide +kernel
theorem dX4_worthOf_91 : decode cX4_worthOf 91 = .ok (.ifCond .eq 9, 3) := by decide +kernel
theorem dX4_worthOf_94 : decode cX4_worthOf 94 = .ok (.iload 6, 2) := by decide +kernel
theorem dX4_worthOf_96 : decode cX4_worthOf 96 = .ok (.iconst 5, 1) := by decide +kernel
theorem dX4_worthOf_97 : decode cX4_worthOf 97 = .ok (.if_icmp .ne 24, 3) := by decide +kernel
theorem dX4_worthOf_100 : decode cX4_worthOf 100 = .ok (.iload 6, 2) := by decide +kernel
theorem dX4_worthOf_102 : decode cX4_worthOf 102 = .ok (.ifCond .ne 8, 3) := by decide +kernel
theorem dX4_worthOf_105 : decode cX4_worthOf 105 = .ok (.iload 5, 2) := by decide +kernel
theorem dX4_worthOf_107 : decode cX4_worthOf 107 = .ok (.goto 13, 3) := by decide +kernel
theorem dX4_worthOf_110 : decode cX4_worthOf 110 = .ok (.iload 5, 2) := by decide +kernel
theorem dX4_worthOf_112 : decode cX4_worthOf 112 = .ok (.iconst 2, 1) := by decide +kernel
theorem dX4_worthOf_113 : decode cX4_worthOf 113 = .ok (.iload_n 2, 1) := by decide +kernel
theorem dX4_worthOf_114 : decode cX4_worthOf 114 = .ok (.iconst 0, 1) := by decide +kernel
theorem dX4_worthOf_115 : decode cX4_worthOf 115 = .ok (.invokestatic 122, 3) := by decide +kernel
theorem dX4_worthOf_118 : decode cX4_worthOf 118 = .ok (.imul, 1) := by decide +kernel
theorem dX4_worthOf_119 : decode cX4_worthOf 119 = .ok (.isub, 1) := by decide +kernel
theorem dX4_worthOf_120 : decode cX4_worthOf 120 = .ok (.ireturn, 1) := by decide +kernel
theorem dX4_worthOf_121 : decode cX4_worthOf 121 = .ok (.iload 6, 2) := by decide +kernel
theorem dX4_worthOf_123 : decode cX4_worthOf 123 = .ok (.iconst 1, 1) := by decide +kernel
theorem dX4_worthOf_124 : decode cX4_worthOf 124 = .ok (.invokestatic 118, 3) := by decide +kernel
theorem dX4_worthOf_127 : decode cX4_worthOf 127 = .ok (.ifCond .eq 50, 3) := by decide +kernel
theorem dX4_worthOf_130 : decode cX4_worthOf 130 = .ok (.aload_n 0, 1) := by decide +kernel
theorem dX4_worthOf_131 : decode cX4_worthOf 131 = .ok (.iload_n 1, 1) := by decide +kernel
theorem dX4_worthOf_132 : decode cX4_worthOf 132 = .ok (.iload_n 2, 1) := by decide +kernel
theorem dX4_worthOf_133 : decode cX4_worthOf 133 = .ok (.iconst 1, 1) := by decide +kernel
theorem dX4_worthOf_134 : decode cX4_worthOf 134 = .ok (.invokevirtual 128, 3) := by decide +kernel
theorem dX4_worthOf_137 : decode cX4_worthOf 137 = .ok (.istore 7, 2) := by decide +kernel
theorem dX4_worthOf_139 : decode cX4_worthOf 139 = .ok (.iload 5, 2) := by decide +kernel
theorem dX4_worthOf_141 : decode cX4_worthOf 141 = .ok (.iload 7, 2) := by decide +kernel
theorem dX4_worthOf_143 : decode cX4_worthOf 143 = .ok (.ifCond .ge 7, 3) := by decide +kernel
theorem dX4_worthOf_146 : decode cX4_worthOf 146 = .ok (.iconst 0, 1) := by decide +kernel
theorem dX4_worthOf_147 : decode cX4_worthOf 147 = .ok (.goto 12, 3) := by decide +kernel
theorem dX4_worthOf_150 : decode cX4_worthOf 150 = .ok (.iconst 0, 1) := by decide +kernel
theorem dX4_worthOf_151 : decode cX4_worthOf 151 = .ok (.bipush 20, 2) := by decide +kernel
theorem dX4_worthOf_153 : decode cX4_worthOf 153 = .ok (.iload 7, 2) := by decide +kernel
theorem dX4_worthOf_155 : decode cX4_worthOf 155 = .ok (.isub, 1) := by decide +kernel
theorem dX4_worthOf_156 : decode cX4_worthOf 156 = .ok (.invokestatic 132, 3) := by decide +kernel
theorem dX4_worthOf_159 : decode cX4_worthOf 159 = .ok (.iadd, 1) := by decide +kernel
theorem dX4_worthOf_160 : decode cX4_worthOf 160 = .ok (.iload 6, 2) := by decide +kernel
theorem dX4_worthOf_162 : decode cX4_worthOf 162 = .ok (.bipush 6, 2) := by decide +kernel
theorem dX4_worthOf_164 : decode cX4_worthOf 164 = .ok (.if_icmp .ne 10, 3) := by decide +kernel
theorem dX4_worthOf_167 : decode cX4_worthOf 167 = .ok (.iconst 2, 1) := by decide +kernel
theorem dX4_worthOf_168 : decode cX4_worthOf 168 = .ok (.iload 4, 2) := by decide +kernel
theorem dX4_worthOf_170 : decode cX4_worthOf 170 = .ok (.imul, 1) := by decide +kernel
theorem dX4_worthOf_171 : decode cX4_worthOf 171 = .ok (.goto 4, 3) := by decide +kernel
theorem dX4_worthOf_174 : decode cX4_worthOf 174 = .ok (.iconst 0, 1) := by decide +kernel
theorem dX4_worthOf_175 : decode cX4_worthOf 175 = .ok (.iadd, 1) := by decide +kernel
theorem dX4_worthOf_176 : decode cX4_worthOf 176 = .ok (.ireturn, 1) := by decide +kernel
theorem dX4_worthOf_177 : decode cX4_worthOf 177 = .ok (.iload 5, 2) := by decide +kernel
theorem dX4_worthOf_179 : decode cX4_worthOf 179 = .ok (.iconst 0, 1) := by decide +kernel
theorem dX4_worthOf_180 : decode cX4_worthOf 180 = .ok (.aload_n 0, 1) := by decide +kernel
theorem dX4_worthOf_181 : decode cX4_worthOf 181 = .ok (.iload_n 1, 1) := by decide +kernel
theorem dX4_worthOf_182 : decode cX4_worthOf 182 = .ok (.iload_n 2, 1) := by decide +kernel
theorem dX4_worthOf_183 : decode cX4_worthOf 183 = .ok (.iconst 0, 1) := by decide +kernel
theorem dX4_worthOf_184 : decode cX4_worthOf 184 = .ok (.invokevirtual 128, 3) := by decide +kernel
theorem dX4_worthOf_187 : decode cX4_worthOf 187 = .ok (.invokestatic 132, 3) := by decide +kernel
theorem dX4_worthOf_190 : decode cX4_worthOf 190 = .ok (.iadd, 1) := by decide +kernel
theorem dX4_worthOf_191 : decode cX4_worthOf 191 = .ok (.istore 7, 2) := by decide +kernel
theorem dX4_worthOf_193 : decode cX4_worthOf 193 = .ok (.iload 7, 2) := by decide +kernel
theorem dX4_worthOf_195 : decode cX4_worthOf 195 = .ok (.bipush 7, 2) := by decide +kernel
theorem dX4_worthOf_197 : decode cX4_worthOf 197 = .ok (.iadd, 1) := by decide +kernel
theorem dX4_worthOf_198 : decode cX4_worthOf 198 = .ok (.iload_n 2, 1) := by decide +kernel
theorem dX4_worthOf_199 : decode cX4_worthOf 199 = .ok (.bipush 8, 2) := by decide +kernel
theorem dX4_worthOf_201 : decode cX4_worthOf 201 = .ok (.idiv, 1) := by decide +kernel
theorem dX4_worthOf_202 : decode cX4_worthOf 202 = .ok (.isub, 1) := by decide +kernel
theorem dX4_worthOf_203 : decode cX4_worthOf 203 = .ok (.istore 8, 2) := by decide +kernel
theorem dX4_worthOf_205 : decode cX4_worthOf 205 = .ok (.iload 6, 2) := by decide +kernel
theorem dX4_worthOf_207 : decode cX4_worthOf 207 = .ok (.iconst 2, 1) := by decide +kernel
theorem dX4_worthOf_208 : decode cX4_worthOf 208 = .ok (.if_icmp .ne 8, 3) := by decide +kernel
theorem dX4_worthOf_211 : decode cX4_worthOf 211 = .ok (.iload 7, 2) := by decide +kernel
theorem dX4_worthOf_213 : decode cX4_worthOf 213 = .ok (.goto 18, 3) := by decide +kernel
theorem dX4_worthOf_216 : decode cX4_worthOf 216 = .ok (.iload 6, 2) := by decide +kernel
theorem dX4_worthOf_218 : decode cX4_worthOf 218 = .ok (.iconst 3, 1) := by decide +kernel
theorem dX4_worthOf_219 : decode cX4_worthOf 219 = .ok (.if_icmp .ne 8, 3) := by decide +kernel
theorem dX4_worthOf_222 : decode cX4_worthOf 222 = .ok (.iload 8, 2) := by decide +kernel
theorem dX4_worthOf_224 : decode cX4_worthOf 224 = .ok (.goto 7, 3) := by decide +kernel
theorem dX4_worthOf_227 : decode cX4_worthOf 227 = .ok (.iconst 2, 1) := by decide +kernel
theorem dX4_worthOf_228 : decode cX4_worthOf 228 = .ok (.iload 8, 2) := by decide +kernel
theorem dX4_worthOf_230 : decode cX4_worthOf 230 = .ok (.imul, 1) := by decide +kernel
theorem dX4_worthOf_231 : decode cX4_worthOf 231 = .ok (.ireturn, 1) := by decide +kernel
theorem dX4_nextOf_0 : decode cX4_nextOf 0 = .ok (.aload_n 0, 1) := by decide +kernel
theorem dX4_nextOf_1 : decode cX4_nextOf 1 = .ok (.iload_n 1, 1) := by decide +kernel
theorem dX4_nextOf_2 : decode cX4_nextOf 2 = .ok (.iconst 1, 1) := by decide +kernel
theorem dX4_nextOf_3 : decode cX4_nextOf 3 = .ok (.invokevirtual 101, 3) := by decide +kernel
theorem dX4_nextOf_6 : decode cX4_nextOf 6 = .ok (.istore_n 2, 1) := by decide +kernel
theorem dX4_nextOf_7 : decode cX4_nextOf 7 = .ok (.aload_n 0, 1) := by decide +kernel
theorem dX4_nextOf_8 : decode cX4_nextOf 8 = .ok (.iload_n 1, 1) := by decide +kernel
theorem dX4_nextOf_9 : decode cX4_nextOf 9 = .ok (.iload_n 2, 1) := by decide +kernel
theorem dX4_nextOf_10 : decode cX4_nextOf 10 = .ok (.invokevirtual 135, 3) := by decide +kernel
theorem dX4_nextOf_13 : decode cX4_nextOf 13 = .ok (.istore_n 3, 1) := by decide +kernel
theorem dX4_nextOf_14 : decode cX4_nextOf 14 = .ok (.iconst 0, 1) := by decide +kernel
theorem dX4_nextOf_15 : decode cX4_nextOf 15 = .ok (.istore 4, 2) := by decide +kernel
theorem dX4_nextOf_17 : decode cX4_nextOf 17 = .ok (.iload 4, 2) := by decide +kernel
theorem dX4_nextOf_19 : decode cX4_nextOf 19 = .ok (.iconst 4, 1) := by decide +kernel
theorem dX4_nextOf_20 : decode cX4_nextOf 20 = .ok (.if_icmp .ge 61, 3) := by decide +kernel
theorem dX4_nextOf_23 : decode cX4_nextOf 23 = .ok (.aload_n 0, 1) := by decide +kernel
theorem dX4_nextOf_24 : decode cX4_nextOf 24 = .ok (.aload_n 0, 1) := by decide +kernel
theorem dX4_nextOf_25 : decode cX4_nextOf 25 = .ok (.iload_n 1, 1) := by decide +kernel
theorem dX4_nextOf_26 : decode cX4_nextOf 26 = .ok (.iconst 1, 1) := by decide +kernel
theorem dX4_nextOf_27 : decode cX4_nextOf 27 = .ok (.invokevirtual 101, 3) := by decide +kernel
theorem dX4_nextOf_30 : decode cX4_nextOf 30 = .ok (.iload 4, 2) := by decide +kernel
theorem dX4_nextOf_32 : decode cX4_nextOf 32 = .ok (.invokevirtual 138, 3) := by decide +kernel
theorem dX4_nextOf_35 : decode cX4_nextOf 35 = .ok (.istore 5, 2) := by decide +kernel
theorem dX4_nextOf_37 : decode cX4_nextOf 37 = .ok (.iload 5, 2) := by decide +kernel
theorem dX4_nextOf_39 : decode cX4_nextOf 39 = .ok (.ifCond .ge 7, 3) := by decide +kernel
theorem dX4_nextOf_42 : decode cX4_nextOf 42 = .ok (.iload_n 3, 1) := by decide +kernel
theorem dX4_nextOf_43 : decode cX4_nextOf 43 = .ok (.goto 10, 3) := by decide +kernel
theorem dX4_nextOf_46 : decode cX4_nextOf 46 = .ok (.aload_n 0, 1) := by decide +kernel
theorem dX4_nextOf_47 : decode cX4_nextOf 47 = .ok (.iload_n 1, 1) := by decide +kernel
theorem dX4_nextOf_48 : decode cX4_nextOf 48 = .ok (.iload 5, 2) := by decide +kernel
theorem dX4_nextOf_50 : decode cX4_nextOf 50 = .ok (.invokevirtual 135, 3) := by decide +kernel
theorem dX4_nextOf_53 : decode cX4_nextOf 53 = .ok (.istore 6, 2) := by decide +kernel
theorem dX4_nextOf_55 : decode cX4_nextOf 55 = .ok (.iload 6, 2) := by decide +kernel
theorem dX4_nextOf_57 : decode cX4_nextOf 57 = .ok (.iload_n 3, 1) := by decide +kernel
theorem dX4_nextOf_58 : decode cX4_nextOf 58 = .ok (.if_icmp .le 8, 3) := by decide +kernel
theorem dX4_nextOf_61 : decode cX4_nextOf 61 = .ok (.iload 5, 2) := by decide +kernel
theorem dX4_nextOf_63 : decode cX4_nextOf 63 = .ok (.goto 4, 3) := by decide +kernel
theorem dX4_nextOf_66 : decode cX4_nextOf 66 = .ok (.iload_n 2, 1) := by decide +kernel
theorem dX4_nextOf_67 : decode cX4_nextOf 67 = .ok (.istore_n 2, 1) := by decide +kernel
theorem dX4_nextOf_68 : decode cX4_nextOf 68 = .ok (.iload_n 3, 1) := by decide +kernel
theorem dX4_nextOf_69 : decode cX4_nextOf 69 = .ok (.iload 6, 2) := by decide +kernel
theorem dX4_nextOf_71 : decode cX4_nextOf 71 = .ok (.invokestatic 132, 3) := by decide +kernel
theorem dX4_nextOf_74 : decode cX4_nextOf 74 = .ok (.istore_n 3, 1) := by decide +kernel
theorem dX4_nextOf_75 : decode cX4_nextOf 75 = .ok (.iinc 4 1, 3) := by decide +kernel
theorem dX4_nextOf_78 : decode cX4_nextOf 78 = .ok (.goto (-61), 3) := by decide +kernel
theorem dX4_nextOf_81 : decode cX4_nextOf 81 = .ok (.iload_n 2, 1) := by decide +kernel
theorem dX4_nextOf_82 : decode cX4_nextOf 82 = .ok (.ireturn, 1) := by decide +kernel
theorem dX4_of_0 : decode cX4_of 0 = .ok (.aload_n 0, 1) := by decide +kernel
theorem dX4_of_1 : decode cX4_of 1 = .ok (.iload_n 1, 1) := by decide +kernel
theorem dX4_of_2 : decode cX4_of 2 = .ok (.invokevirtual 141, 3) := by decide +kernel
theorem dX4_of_5 : decode cX4_of 5 = .ok (.ifCond .eq 13, 3) := by decide +kernel
theorem dX4_of_8 : decode cX4_of 8 = .ok (.iload_n 2, 1) := by decide +kernel
theorem dX4_of_9 : decode cX4_of 9 = .ok (.iconst 0, 1) := by decide +kernel
theorem dX4_of_10 : decode cX4_of 10 = .ok (.bipush 6, 2) := by decide +kernel
theorem dX4_of_12 : decode cX4_of 12 = .ok (.invokestatic 74, 3) := by decide +kernel
theorem dX4_of_15 : decode cX4_of 15 = .ok (.ifCond .ne 10, 3) := by decide +kernel
theorem dX4_of_18 : decode cX4_of 18 = .ok (.aload_n 0, 1) := by decide +kernel
theorem dX4_of_19 : decode cX4_of 19 = .ok (.ldc 69, 2) := by decide +kernel
theorem dX4_of_21 : decode cX4_of 21 = .ok (.invokevirtual 88, 3) := by decide +kernel
theorem dX4_of_24 : decode cX4_of 24 = .ok (.ireturn, 1) := by decide +kernel
theorem dX4_of_25 : decode cX4_of 25 = .ok (.iload_n 2, 1) := by decide +kernel
theorem dX4_of_26 : decode cX4_of 26 = .ok (.iconst 5, 1) := by decide +kernel
theorem dX4_of_27 : decode cX4_of 27 = .ok (.if_icmp .ge 12, 3) := by decide +kernel
theorem dX4_of_30 : decode cX4_of 30 = .ok (.aload_n 0, 1) := by decide +kernel
theorem dX4_of_31 : decode cX4_of 31 = .ok (.iload_n 1, 1) := by decide +kernel
theorem dX4_of_32 : decode cX4_of 32 = .ok (.iload_n 2, 1) := by decide +kernel
theorem dX4_of_33 : decode cX4_of 33 = .ok (.invokevirtual 101, 3) := by decide +kernel
theorem dX4_of_36 : decode cX4_of 36 = .ok (.goto 27, 3) := by decide +kernel
theorem dX4_of_39 : decode cX4_of 39 = .ok (.iload_n 2, 1) := by decide +kernel
theorem dX4_of_40 : decode cX4_of 40 = .ok (.iconst 5, 1) := by decide +kernel
theorem dX4_of_41 : decode cX4_of 41 = .ok (.if_icmp .ne 11, 3) := by decide +kernel
theorem dX4_of_44 : decode cX4_of 44 = .ok (.aload_n 0, 1) := by decide +kernel
theorem dX4_of_45 : decode cX4_of 45 = .ok (.iload_n 1, 1) := by decide +kernel
theorem dX4_of_46 : decode cX4_of 46 = .ok (.invokevirtual 144, 3) := by decide +kernel
theorem dX4_of_49 : decode cX4_of 49 = .ok (.goto 14, 3) := by decide +kernel
theorem dX4_of_52 : decode cX4_of 52 = .ok (.aload_n 0, 1) := by decide +kernel
theorem dX4_of_53 : decode cX4_of 53 = .ok (.iload_n 1, 1) := by decide +kernel
theorem dX4_of_54 : decode cX4_of 54 = .ok (.aload_n 0, 1) := by decide +kernel
theorem dX4_of_55 : decode cX4_of 55 = .ok (.iload_n 1, 1) := by decide +kernel
theorem dX4_of_56 : decode cX4_of 56 = .ok (.iconst 1, 1) := by decide +kernel
theorem dX4_of_57 : decode cX4_of 57 = .ok (.invokevirtual 101, 3) := by decide +kernel
theorem dX4_of_60 : decode cX4_of 60 = .ok (.invokevirtual 135, 3) := by decide +kernel
theorem dX4_of_63 : decode cX4_of 63 = .ok (.ireturn, 1) := by decide +kernel
theorem dX4_mayBe_0 : decode cX4_mayBe 0 = .ok (.iload_n 0, 1) := by decide +kernel
theorem dX4_mayBe_1 : decode cX4_mayBe 1 = .ok (.tableswitch 68 0 4 #[35, 40, 45, 53, 61], 35) := by decide +kernel
theorem dX4_mayBe_36 : decode cX4_mayBe 36 = .ok (.iload_n 1, 1) := by decide +kernel
theorem dX4_mayBe_37 : decode cX4_mayBe 37 = .ok (.invokestatic 104, 3) := by decide +kernel
theorem dX4_mayBe_40 : decode cX4_mayBe 40 = .ok (.ireturn, 1) := by decide +kernel
theorem dX4_mayBe_41 : decode cX4_mayBe 41 = .ok (.iload_n 1, 1) := by decide +kernel
theorem dX4_mayBe_42 : decode cX4_mayBe 42 = .ok (.invokestatic 84, 3) := by decide +kernel
theorem dX4_mayBe_45 : decode cX4_mayBe 45 = .ok (.ireturn, 1) := by decide +kernel
theorem dX4_mayBe_46 : decode cX4_mayBe 46 = .ok (.iload_n 1, 1) := by decide +kernel
theorem dX4_mayBe_47 : decode cX4_mayBe 47 = .ok (.iconst 0, 1) := by decide +kernel
theorem dX4_mayBe_48 : decode cX4_mayBe 48 = .ok (.bipush 11, 2) := by decide +kernel
theorem dX4_mayBe_50 : decode cX4_mayBe 50 = .ok (.invokestatic 74, 3) := by decide +kernel
theorem dX4_mayBe_53 : decode cX4_mayBe 53 = .ok (.ireturn, 1) := by decide +kernel
theorem dX4_mayBe_54 : decode cX4_mayBe 54 = .ok (.iload_n 1, 1) := by decide +kernel
theorem dX4_mayBe_55 : decode cX4_mayBe 55 = .ok (.iconst 1, 1) := by decide +kernel
theorem dX4_mayBe_56 : decode cX4_mayBe 56 = .ok (.bipush 99, 2) := by decide +kernel
theorem dX4_mayBe_58 : decode cX4_mayBe 58 = .ok (.invokestatic 74, 3) := by decide +kernel
theorem dX4_mayBe_61 : decode cX4_mayBe 61 = .ok (.ireturn, 1) := by decide +kernel
theorem dX4_mayBe_62 : decode cX4_mayBe 62 = .ok (.iload_n 1, 1) := by decide +kernel
theorem dX4_mayBe_63 : decode cX4_mayBe 63 = .ok (.iconst 0, 1) := by decide +kernel
theorem dX4_mayBe_64 : decode cX4_mayBe 64 = .ok (.iconst 1, 1) := by decide +kernel
theorem dX4_mayBe_65 : decode cX4_mayBe 65 = .ok (.invokestatic 74, 3) := by decide +kernel
theorem dX4_mayBe_68 : decode cX4_mayBe 68 = .ok (.ireturn, 1) := by decide +kernel
theorem dX4_mayBe_69 : decode cX4_mayBe 69 = .ok (.iconst 0, 1) := by decide +kernel
theorem dX4_mayBe_70 : decode cX4_mayBe 70 = .ok (.ireturn, 1) := by decide +kernel
theorem dX4_change_0 : decode cX4_change 0 = .ok (.aload_n 0, 1) := by decide +kernel
theorem dX4_change_1 : decode cX4_change 1 = .ok (.iload_n 1, 1) := by decide +kernel
theorem dX4_change_2 : decode cX4_change 2 = .ok (.invokevirtual 141, 3) := by decide +kernel
theorem dX4_change_5 : decode cX4_change 5 = .ok (.ifCond .eq 24, 3) := by decide +kernel
theorem dX4_change_8 : decode cX4_change 8 = .ok (.iload_n 2, 1) := by decide +kernel
theorem dX4_change_9 : decode cX4_change 9 = .ok (.iload_n 3, 1) := by decide +kernel
theorem dX4_change_10 : decode cX4_change 10 = .ok (.invokestatic 147, 3) := by decide +kernel
theorem dX4_change_13 : decode cX4_change 13 = .ok (.ifCond .eq 16, 3) := by decide +kernel
theorem dX4_change_16 : decode cX4_change 16 = .ok (.aload_n 0, 1) := by decide +kernel
theorem dX4_change_17 : decode cX4_change 17 = .ok (.iload_n 1, 1) := by decide +kernel
theorem dX4_change_18 : decode cX4_change 18 = .ok (.iload_n 2, 1) := by decide +kernel
theorem dX4_change_19 : decode cX4_change 19 = .ok (.invokestatic 98, 3) := by decide +kernel
theorem dX4_change_22 : decode cX4_change 22 = .ok (.iload_n 3, 1) := by decide +kernel
theorem dX4_change_23 : decode cX4_change 23 = .ok (.invokevirtual 91, 3) := by decide +kernel
theorem dX4_change_26 : decode cX4_change 26 = .ok (.goto 9, 3) := by decide +kernel
theorem dX4_change_29 : decode cX4_change 29 = .ok (.aload_n 0, 1) := by decide +kernel
theorem dX4_change_30 : decode cX4_change 30 = .ok (.ldc 69, 2) := by decide +kernel
theorem dX4_change_32 : decode cX4_change 32 = .ok (.invokevirtual 88, 3) := by decide +kernel
theorem dX4_change_35 : decode cX4_change 35 = .ok (.ireturn, 1) := by decide +kernel
theorem dX4_worth_0 : decode cX4_worth 0 = .ok (.aload_n 0, 1) := by decide +kernel
theorem dX4_worth_1 : decode cX4_worth 1 = .ok (.iload_n 1, 1) := by decide +kernel
theorem dX4_worth_2 : decode cX4_worth 2 = .ok (.invokevirtual 141, 3) := by decide +kernel
theorem dX4_worth_5 : decode cX4_worth 5 = .ok (.ifCond .eq 19, 3) := by decide +kernel
theorem dX4_worth_8 : decode cX4_worth 8 = .ok (.iload_n 2, 1) := by decide +kernel
theorem dX4_worth_9 : decode cX4_worth 9 = .ok (.invokestatic 84, 3) := by decide +kernel
theorem dX4_worth_12 : decode cX4_worth 12 = .ok (.ifCond .eq 12, 3) := by decide +kernel
theorem dX4_worth_15 : decode cX4_worth 15 = .ok (.aload_n 0, 1) := by decide +kernel
theorem dX4_worth_16 : decode cX4_worth 16 = .ok (.iload_n 1, 1) := by decide +kernel
theorem dX4_worth_17 : decode cX4_worth 17 = .ok (.iload_n 2, 1) := by decide +kernel
theorem dX4_worth_18 : decode cX4_worth 18 = .ok (.invokevirtual 135, 3) := by decide +kernel
theorem dX4_worth_21 : decode cX4_worth 21 = .ok (.goto 9, 3) := by decide +kernel
theorem dX4_worth_24 : decode cX4_worth 24 = .ok (.aload_n 0, 1) := by decide +kernel
theorem dX4_worth_25 : decode cX4_worth 25 = .ok (.ldc 69, 2) := by decide +kernel
theorem dX4_worth_27 : decode cX4_worth 27 = .ok (.invokevirtual 88, 3) := by decide +kernel
theorem dX4_worth_30 : decode cX4_worth 30 = .ok (.ireturn, 1) := by decide +kernel
theorem dX4_loudOf_0 : decode cX4_loudOf 0 = .ok (.iconst 0, 1) := by decide +kernel
theorem dX4_loudOf_1 : decode cX4_loudOf 1 = .ok (.iload_n 1, 1) := by decide +kernel
theorem dX4_loudOf_2 : decode cX4_loudOf 2 = .ok (.iconst 3, 1) := by decide +kernel
theorem dX4_loudOf_3 : decode cX4_loudOf 3 = .ok (.iload_n 2, 1) := by decide +kernel
theorem dX4_loudOf_4 : decode cX4_loudOf 4 = .ok (.iload_n 3, 1) := by decide +kernel
theorem dX4_loudOf_5 : decode cX4_loudOf 5 = .ok (.invokestatic 122, 3) := by decide +kernel
theorem dX4_loudOf_8 : decode cX4_loudOf 8 = .ok (.imul, 1) := by decide +kernel
theorem dX4_loudOf_9 : decode cX4_loudOf 9 = .ok (.isub, 1) := by decide +kernel
theorem dX4_loudOf_10 : decode cX4_loudOf 10 = .ok (.invokestatic 132, 3) := by decide +kernel
theorem dX4_loudOf_13 : decode cX4_loudOf 13 = .ok (.ireturn, 1) := by decide +kernel
theorem dX4_loudAt_0 : decode cX4_loudAt 0 = .ok (.aload_n 0, 1) := by decide +kernel
theorem dX4_loudAt_1 : decode cX4_loudAt 1 = .ok (.aload_n 0, 1) := by decide +kernel
theorem dX4_loudAt_2 : decode cX4_loudAt 2 = .ok (.iload_n 1, 1) := by decide +kernel
theorem dX4_loudAt_3 : decode cX4_loudAt 3 = .ok (.iconst 3, 1) := by decide +kernel
theorem dX4_loudAt_4 : decode cX4_loudAt 4 = .ok (.invokevirtual 101, 3) := by decide +kernel
theorem dX4_loudAt_7 : decode cX4_loudAt 7 = .ok (.aload_n 0, 1) := by decide +kernel
theorem dX4_loudAt_8 : decode cX4_loudAt 8 = .ok (.iload_n 1, 1) := by decide +kernel
theorem dX4_loudAt_9 : decode cX4_loudAt 9 = .ok (.iconst 1, 1) := by decide +kernel
theorem dX4_loudAt_10 : decode cX4_loudAt 10 = .ok (.invokevirtual 101, 3) := by decide +kernel
theorem dX4_loudAt_13 : decode cX4_loudAt 13 = .ok (.iload_n 2, 1) := by decide +kernel
theorem dX4_loudAt_14 : decode cX4_loudAt 14 = .ok (.invokevirtual 150, 3) := by decide +kernel
theorem dX4_loudAt_17 : decode cX4_loudAt 17 = .ok (.ireturn, 1) := by decide +kernel
theorem dX4_heardAt_0 : decode cX4_heardAt 0 = .ok (.iconst 0, 1) := by decide +kernel
theorem dX4_heardAt_1 : decode cX4_heardAt 1 = .ok (.istore_n 2, 1) := by decide +kernel
theorem dX4_heardAt_2 : decode cX4_heardAt 2 = .ok (.iconst 0, 1) := by decide +kernel
theorem dX4_heardAt_3 : decode cX4_heardAt 3 = .ok (.istore_n 3, 1) := by decide +kernel
theorem dX4_heardAt_4 : decode cX4_heardAt 4 = .ok (.iload_n 3, 1) := by decide +kernel
theorem dX4_heardAt_5 : decode cX4_heardAt 5 = .ok (.aload_n 0, 1) := by decide +kernel
theorem dX4_heardAt_6 : decode cX4_heardAt 6 = .ok (.getfield 9, 3) := by decide +kernel
theorem dX4_heardAt_9 : decode cX4_heardAt 9 = .ok (.iconst 2, 1) := by decide +kernel
theorem dX4_heardAt_10 : decode cX4_heardAt 10 = .ok (.iaload, 1) := by decide +kernel
theorem dX4_heardAt_11 : decode cX4_heardAt 11 = .ok (.if_icmp .ge 32, 3) := by decide +kernel
theorem dX4_heardAt_14 : decode cX4_heardAt 14 = .ok (.aload_n 0, 1) := by decide +kernel
theorem dX4_heardAt_15 : decode cX4_heardAt 15 = .ok (.iload_n 3, 1) := by decide +kernel
theorem dX4_heardAt_16 : decode cX4_heardAt 16 = .ok (.invokevirtual 115, 3) := by decide +kernel
theorem dX4_heardAt_19 : decode cX4_heardAt 19 = .ok (.ifCond .eq 7, 3) := by decide +kernel
theorem dX4_heardAt_22 : decode cX4_heardAt 22 = .ok (.iload_n 2, 1) := by decide +kernel
theorem dX4_heardAt_23 : decode cX4_heardAt 23 = .ok (.goto 13, 3) := by decide +kernel
theorem dX4_heardAt_26 : decode cX4_heardAt 26 = .ok (.iload_n 2, 1) := by decide +kernel
theorem dX4_heardAt_27 : decode cX4_heardAt 27 = .ok (.aload_n 0, 1) := by decide +kernel
theorem dX4_heardAt_28 : decode cX4_heardAt 28 = .ok (.iload_n 3, 1) := by decide +kernel
theorem dX4_heardAt_29 : decode cX4_heardAt 29 = .ok (.iload_n 1, 1) := by decide +kernel
theorem dX4_heardAt_30 : decode cX4_heardAt 30 = .ok (.invokevirtual 153, 3) := by decide +kernel
theorem dX4_heardAt_33 : decode cX4_heardAt 33 = .ok (.invokestatic 132, 3) := by decide +kernel
theorem dX4_heardAt_36 : decode cX4_heardAt 36 = .ok (.istore_n 2, 1) := by decide +kernel
theorem dX4_heardAt_37 : decode cX4_heardAt 37 = .ok (.iinc 3 1, 3) := by decide +kernel
theorem dX4_heardAt_40 : decode cX4_heardAt 40 = .ok (.goto (-36), 3) := by decide +kernel
theorem dX4_heardAt_43 : decode cX4_heardAt 43 = .ok (.iload_n 2, 1) := by decide +kernel
theorem dX4_heardAt_44 : decode cX4_heardAt 44 = .ok (.ireturn, 1) := by decide +kernel
theorem dX4_manyAt_0 : decode cX4_manyAt 0 = .ok (.iconst 0, 1) := by decide +kernel
theorem dX4_manyAt_1 : decode cX4_manyAt 1 = .ok (.istore_n 2, 1) := by decide +kernel
theorem dX4_manyAt_2 : decode cX4_manyAt 2 = .ok (.iconst 0, 1) := by decide +kernel
theorem dX4_manyAt_3 : decode cX4_manyAt 3 = .ok (.istore_n 3, 1) := by decide +kernel
theorem dX4_manyAt_4 : decode cX4_manyAt 4 = .ok (.iload_n 3, 1) := by decide +kernel
theorem dX4_manyAt_5 : decode cX4_manyAt 5 = .ok (.aload_n 0, 1) := by decide +kernel
theorem dX4_manyAt_6 : decode cX4_manyAt 6 = .ok (.getfield 9, 3) := by decide +kernel
theorem dX4_manyAt_9 : decode cX4_manyAt 9 = .ok (.iconst 2, 1) := by decide +kernel
theorem dX4_manyAt_10 : decode cX4_manyAt 10 = .ok (.iaload, 1) := by decide +kernel
theorem dX4_manyAt_11 : decode cX4_manyAt 11 = .ok (.if_icmp .ge 27, 3) := by decide +kernel
theorem dX4_manyAt_14 : decode cX4_manyAt 14 = .ok (.iload_n 2, 1) := by decide +kernel
theorem dX4_manyAt_15 : decode cX4_manyAt 15 = .ok (.aload_n 0, 1) := by decide +kernel
theorem dX4_manyAt_16 : decode cX4_manyAt 16 = .ok (.iload_n 3, 1) := by decide +kernel
theorem dX4_manyAt_17 : decode cX4_manyAt 17 = .ok (.iconst 1, 1) := by decide +kernel
theorem dX4_manyAt_18 : decode cX4_manyAt 18 = .ok (.invokevirtual 101, 3) := by decide +kernel
theorem dX4_manyAt_21 : decode cX4_manyAt 21 = .ok (.iload_n 1, 1) := by decide +kernel
theorem dX4_manyAt_22 : decode cX4_manyAt 22 = .ok (.if_icmp .ne 7, 3) := by decide +kernel
theorem dX4_manyAt_25 : decode cX4_manyAt 25 = .ok (.iconst 1, 1) := by decide +kernel
theorem dX4_manyAt_26 : decode cX4_manyAt 26 = .ok (.goto 4, 3) := by decide +kernel
theorem dX4_manyAt_29 : decode cX4_manyAt 29 = .ok (.iconst 0, 1) := by decide +kernel
theorem dX4_manyAt_30 : decode cX4_manyAt 30 = .ok (.iadd, 1) := by decide +kernel
theorem dX4_manyAt_31 : decode cX4_manyAt 31 = .ok (.istore_n 2, 1) := by decide +kernel
theorem dX4_manyAt_32 : decode cX4_manyAt 32 = .ok (.iinc 3 1, 3) := by decide +kernel
theorem dX4_manyAt_35 : decode cX4_manyAt 35 = .ok (.goto (-31), 3) := by decide +kernel
theorem dX4_manyAt_38 : decode cX4_manyAt 38 = .ok (.iload_n 2, 1) := by decide +kernel
theorem dX4_manyAt_39 : decode cX4_manyAt 39 = .ok (.ireturn, 1) := by decide +kernel
theorem dX4_cell_0 : decode cX4_cell 0 = .ok (.iload_n 1, 1) := by decide +kernel
theorem dX4_cell_1 : decode cX4_cell 1 = .ok (.invokestatic 84, 3) := by decide +kernel
theorem dX4_cell_4 : decode cX4_cell 4 = .ok (.ifCond .eq 12, 3) := by decide +kernel
theorem dX4_cell_7 : decode cX4_cell 7 = .ok (.iload_n 2, 1) := by decide +kernel
theorem dX4_cell_8 : decode cX4_cell 8 = .ok (.iconst 0, 1) := by decide +kernel
theorem dX4_cell_9 : decode cX4_cell 9 = .ok (.iconst 3, 1) := by decide +kernel
theorem dX4_cell_10 : decode cX4_cell 10 = .ok (.invokestatic 74, 3) := by decide +kernel
theorem dX4_cell_13 : decode cX4_cell 13 = .ok (.ifCond .ne 10, 3) := by decide +kernel
theorem dX4_cell_16 : decode cX4_cell 16 = .ok (.aload_n 0, 1) := by decide +kernel
theorem dX4_cell_17 : decode cX4_cell 17 = .ok (.ldc 69, 2) := by decide +kernel
theorem dX4_cell_19 : decode cX4_cell 19 = .ok (.invokevirtual 88, 3) := by decide +kernel
theorem dX4_cell_22 : decode cX4_cell 22 = .ok (.ireturn, 1) := by decide +kernel
theorem dX4_cell_23 : decode cX4_cell 23 = .ok (.iload_n 2, 1) := by decide +kernel
theorem dX4_cell_24 : decode cX4_cell 24 = .ok (.ifCond .ne 15, 3) := by decide +kernel
theorem dX4_cell_27 : decode cX4_cell 27 = .ok (.aload_n 0, 1) := by decide +kernel
theorem dX4_cell_28 : decode cX4_cell 28 = .ok (.getfield 9, 3) := by decide +kernel
theorem dX4_cell_31 : decode cX4_cell 31 = .ok (.bipush 18, 2) := by decide +kernel
theorem dX4_cell_33 : decode cX4_cell 33 = .ok (.iload_n 1, 1) := by decide +kernel
theorem dX4_cell_34 : decode cX4_cell 34 = .ok (.iadd, 1) := by decide +kernel
theorem dX4_cell_35 : decode cX4_cell 35 = .ok (.iaload, 1) := by decide +kernel
theorem dX4_cell_36 : decode cX4_cell 36 = .ok (.goto 38, 3) := by decide +kernel
theorem dX4_cell_39 : decode cX4_cell 39 = .ok (.iload_n 2, 1) := by decide +kernel
theorem dX4_cell_40 : decode cX4_cell 40 = .ok (.iconst 1, 1) := by decide +kernel
theorem dX4_cell_41 : decode cX4_cell 41 = .ok (.if_icmp .ne 15, 3) := by decide +kernel
theorem dX4_cell_44 : decode cX4_cell 44 = .ok (.aload_n 0, 1) := by decide +kernel
theorem dX4_cell_45 : decode cX4_cell 45 = .ok (.getfield 9, 3) := by decide +kernel
theorem dX4_cell_48 : decode cX4_cell 48 = .ok (.bipush 82, 2) := by decide +kernel
theorem dX4_cell_50 : decode cX4_cell 50 = .ok (.iload_n 1, 1) := by decide +kernel
theorem dX4_cell_51 : decode cX4_cell 51 = .ok (.iadd, 1) := by decide +kernel
theorem dX4_cell_52 : decode cX4_cell 52 = .ok (.iaload, 1) := by decide +kernel
theorem dX4_cell_53 : decode cX4_cell 53 = .ok (.goto 21, 3) := by decide +kernel
theorem dX4_cell_56 : decode cX4_cell 56 = .ok (.iload_n 2, 1) := by decide +kernel
theorem dX4_cell_57 : decode cX4_cell 57 = .ok (.iconst 2, 1) := by decide +kernel
theorem dX4_cell_58 : decode cX4_cell 58 = .ok (.if_icmp .ne 11, 3) := by decide +kernel
theorem dX4_cell_61 : decode cX4_cell 61 = .ok (.aload_n 0, 1) := by decide +kernel
theorem dX4_cell_62 : decode cX4_cell 62 = .ok (.iload_n 1, 1) := by decide +kernel
theorem dX4_cell_63 : decode cX4_cell 63 = .ok (.invokevirtual 156, 3) := by decide +kernel
theorem dX4_cell_66 : decode cX4_cell 66 = .ok (.goto 8, 3) := by decide +kernel
theorem dX4_cell_69 : decode cX4_cell 69 = .ok (.aload_n 0, 1) := by decide +kernel
theorem dX4_cell_70 : decode cX4_cell 70 = .ok (.iload_n 1, 1) := by decide +kernel
theorem dX4_cell_71 : decode cX4_cell 71 = .ok (.invokevirtual 159, 3) := by decide +kernel
theorem dX4_cell_74 : decode cX4_cell 74 = .ok (.ireturn, 1) := by decide +kernel
theorem dX4_caughtNow_0 : decode cX4_caughtNow 0 = .ok (.iconst 0, 1) := by decide +kernel
theorem dX4_caughtNow_1 : decode cX4_caughtNow 1 = .ok (.istore_n 1, 1) := by decide +kernel
theorem dX4_caughtNow_2 : decode cX4_caughtNow 2 = .ok (.iconst 0, 1) := by decide +kernel
theorem dX4_caughtNow_3 : decode cX4_caughtNow 3 = .ok (.istore_n 2, 1) := by decide +kernel
theorem dX4_caughtNow_4 : decode cX4_caughtNow 4 = .ok (.iload_n 2, 1) := by decide +kernel
theorem dX4_caughtNow_5 : decode cX4_caughtNow 5 = .ok (.aload_n 0, 1) := by decide +kernel
theorem dX4_caughtNow_6 : decode cX4_caughtNow 6 = .ok (.getfield 9, 3) := by decide +kernel
theorem dX4_caughtNow_9 : decode cX4_caughtNow 9 = .ok (.iconst 2, 1) := by decide +kernel
theorem dX4_caughtNow_10 : decode cX4_caughtNow 10 = .ok (.iaload, 1) := by decide +kernel
theorem dX4_caughtNow_11 : decode cX4_caughtNow 11 = .ok (.if_icmp .ge 27, 3) := by decide +kernel
theorem dX4_caughtNow_14 : decode cX4_caughtNow 14 = .ok (.iload_n 1, 1) := by decide +kernel
theorem dX4_caughtNow_15 : decode cX4_caughtNow 15 = .ok (.aload_n 0, 1) := by decide +kernel
theorem dX4_caughtNow_16 : decode cX4_caughtNow 16 = .ok (.iload_n 2, 1) := by decide +kernel
theorem dX4_caughtNow_17 : decode cX4_caughtNow 17 = .ok (.invokevirtual 115, 3) := by decide +kernel
theorem dX4_caughtNow_20 : decode cX4_caughtNow 20 = .ok (.ifCond .eq 9, 3) := by decide +kernel
theorem dX4_caughtNow_23 : decode cX4_caughtNow 23 = .ok (.iconst 1, 1) := by decide +kernel
theorem dX4_caughtNow_24 : decode cX4_caughtNow 24 = .ok (.iload_n 2, 1) := by decide +kernel
theorem dX4_caughtNow_25 : decode cX4_caughtNow 25 = .ok (.ishl, 1) := by decide +kernel
theorem dX4_caughtNow_26 : decode cX4_caughtNow 26 = .ok (.goto 4, 3) := by decide +kernel
theorem dX4_caughtNow_29 : decode cX4_caughtNow 29 = .ok (.iconst 0, 1) := by decide +kernel
theorem dX4_caughtNow_30 : decode cX4_caughtNow 30 = .ok (.ior, 1) := by decide +kernel
theorem dX4_caughtNow_31 : decode cX4_caughtNow 31 = .ok (.istore_n 1, 1) := by decide +kernel
theorem dX4_caughtNow_32 : decode cX4_caughtNow 32 = .ok (.iinc 2 1, 3) := by decide +kernel
theorem dX4_caughtNow_35 : decode cX4_caughtNow 35 = .ok (.goto (-31), 3) := by decide +kernel
theorem dX4_caughtNow_38 : decode cX4_caughtNow 38 = .ok (.iload_n 1, 1) := by decide +kernel
theorem dX4_caughtNow_39 : decode cX4_caughtNow 39 = .ok (.ireturn, 1) := by decide +kernel
theorem dX4_hour_0 : decode cX4_hour 0 = .ok (.aload_n 0, 1) := by decide +kernel
theorem dX4_hour_1 : decode cX4_hour 1 = .ok (.iconst 0, 1) := by decide +kernel
theorem dX4_hour_2 : decode cX4_hour 2 = .ok (.putfield 162, 3) := by decide +kernel
theorem dX4_hour_5 : decode cX4_hour 5 = .ok (.iconst 0, 1) := by decide +kernel
theorem dX4_hour_6 : decode cX4_hour 6 = .ok (.istore_n 1, 1) := by decide +kernel
theorem dX4_hour_7 : decode cX4_hour 7 = .ok (.iload_n 1, 1) := by decide +kernel
theorem dX4_hour_8 : decode cX4_hour 8 = .ok (.aload_n 0, 1) := by decide +kernel
theorem dX4_hour_9 : decode cX4_hour 9 = .ok (.getfield 9, 3) := by decide +kernel
theorem dX4_hour_12 : decode cX4_hour 12 = .ok (.iconst 2, 1) := by decide +kernel
theorem dX4_hour_13 : decode cX4_hour 13 = .ok (.iaload, 1) := by decide +kernel
theorem dX4_hour_14 : decode cX4_hour 14 = .ok (.if_icmp .ge 91, 3) := by decide +kernel
theorem dX4_hour_17 : decode cX4_hour 17 = .ok (.aload_n 0, 1) := by decide +kernel
theorem dX4_hour_18 : decode cX4_hour 18 = .ok (.iload_n 1, 1) := by decide +kernel
theorem dX4_hour_19 : decode cX4_hour 19 = .ok (.invokevirtual 115, 3) := by decide +kernel
theorem dX4_hour_22 : decode cX4_hour 22 = .ok (.ifCond .ne 77, 3) := by decide +kernel
theorem dX4_hour_25 : decode cX4_hour 25 = .ok (.aload_n 0, 1) := by decide +kernel
theorem dX4_hour_26 : decode cX4_hour 26 = .ok (.iload_n 1, 1) := by decide +kernel
theorem dX4_hour_27 : decode cX4_hour 27 = .ok (.invokevirtual 144, 3) := by decide +kernel
theorem dX4_hour_30 : decode cX4_hour 30 = .ok (.istore_n 2, 1) := by decide +kernel
theorem dX4_hour_31 : decode cX4_hour 31 = .ok (.aload_n 0, 1) := by decide +kernel
theorem dX4_hour_32 : decode cX4_hour 32 = .ok (.aload_n 0, 1) := by decide +kernel
theorem dX4_hour_33 : decode cX4_hour 33 = .ok (.getfield 162, 3) := by decide +kernel
theorem dX4_hour_36 : decode cX4_hour 36 = .ok (.ifCond .ne 21, 3) := by decide +kernel
theorem dX4_hour_39 : decode cX4_hour 39 = .ok (.iload_n 2, 1) := by decide +kernel
theorem dX4_hour_40 : decode cX4_hour 40 = .ok (.aload_n 0, 1) := by decide +kernel
theorem dX4_hour_41 : decode cX4_hour 41 = .ok (.iload_n 1, 1) := by decide +kernel
theorem dX4_hour_42 : decode cX4_hour 42 = .ok (.iconst 1, 1) := by decide +kernel
theorem dX4_hour_43 : decode cX4_hour 43 = .ok (.invokevirtual 101, 3) := by decide +kernel
theorem dX4_hour_46 : decode cX4_hour 46 = .ok (.if_icmp .ne 11, 3) := by decide +kernel
theorem dX4_hour_49 : decode cX4_hour 49 = .ok (.aload_n 0, 1) := by decide +kernel
theorem dX4_hour_50 : decode cX4_hour 50 = .ok (.iload_n 2, 1) := by decide +kernel
theorem dX4_hour_51 : decode cX4_hour 51 = .ok (.invokevirtual 166, 3) := by decide +kernel
theorem dX4_hour_54 : decode cX4_hour 54 = .ok (.ifCond .eq 7, 3) := by decide +kernel
theorem dX4_hour_57 : decode cX4_hour 57 = .ok (.iconst 1, 1) := by decide +kernel
theorem dX4_hour_58 : decode cX4_hour 58 = .ok (.goto 4, 3) := by decide +kernel
theorem dX4_hour_61 : decode cX4_hour 61 = .ok (.iconst 0, 1) := by decide +kernel
theorem dX4_hour_62 : decode cX4_hour 62 = .ok (.putfield 162, 3) := by decide +kernel
theorem dX4_hour_65 : decode cX4_hour 65 = .ok (.aload_n 0, 1) := by decide +kernel
theorem dX4_hour_66 : decode cX4_hour 66 = .ok (.getfield 9, 3) := by decide +kernel
theorem dX4_hour_69 : decode cX4_hour 69 = .ok (.iload_n 1, 1) := by decide +kernel
theorem dX4_hour_70 : decode cX4_hour 70 = .ok (.iconst 1, 1) := by decide +kernel
theorem dX4_hour_71 : decode cX4_hour 71 = .ok (.invokestatic 98, 3) := by decide +kernel
theorem dX4_hour_74 : decode cX4_hour 74 = .ok (.iload_n 2, 1) := by decide +kernel
theorem dX4_hour_75 : decode cX4_hour 75 = .ok (.iastore, 1) := by decide +kernel
theorem dX4_hour_76 : decode cX4_hour 76 = .ok (.aload_n 0, 1) := by decide +kernel
theorem dX4_hour_77 : decode cX4_hour 77 = .ok (.getfield 9, 3) := by decide +kernel
theorem dX4_hour_80 : decode cX4_hour 80 = .ok (.iload_n 1, 1) := by decide +kernel
theorem dX4_hour_81 : decode cX4_hour 81 = .ok (.iconst 4, 1) := by decide +kernel
theorem dX4_hour_82 : decode cX4_hour 82 = .ok (.invokestatic 98, 3) := by decide +kernel
theorem dX4_hour_85 : decode cX4_hour 85 = .ok (.aload_n 0, 1) := by decide +kernel
theorem dX4_hour_86 : decode cX4_hour 86 = .ok (.iload_n 2, 1) := by decide +kernel
theorem dX4_hour_87 : decode cX4_hour 87 = .ok (.invokevirtual 166, 3) := by decide +kernel
theorem dX4_hour_90 : decode cX4_hour 90 = .ok (.ifCond .eq 7, 3) := by decide +kernel
theorem dX4_hour_93 : decode cX4_hour 93 = .ok (.iconst 1, 1) := by decide +kernel
theorem dX4_hour_94 : decode cX4_hour 94 = .ok (.goto 4, 3) := by decide +kernel
theorem dX4_hour_97 : decode cX4_hour 97 = .ok (.iconst 0, 1) := by decide +kernel
theorem dX4_hour_98 : decode cX4_hour 98 = .ok (.iastore, 1) := by decide +kernel
theorem dX4_hour_99 : decode cX4_hour 99 = .ok (.iinc 1 1, 3) := by decide +kernel
theorem dX4_hour_102 : decode cX4_hour 102 = .ok (.goto (-95), 3) := by decide +kernel
theorem dX4_hour_105 : decode cX4_hour 105 = .ok (.aload_n 0, 1) := by decide +kernel
theorem dX4_hour_106 : decode cX4_hour 106 = .ok (.getfield 9, 3) := by decide +kernel
theorem dX4_hour_109 : decode cX4_hour 109 = .ok (.iconst 0, 1) := by decide +kernel
theorem dX4_hour_110 : decode cX4_hour 110 = .ok (.dup2, 1) := by decide +kernel
theorem dX4_hour_111 : decode cX4_hour 111 = .ok (.iaload, 1) := by decide +kernel
theorem dX4_hour_112 : decode cX4_hour 112 = .ok (.iconst 1, 1) := by decide +kernel
theorem dX4_hour_113 : decode cX4_hour 113 = .ok (.iadd, 1) := by decide +kernel
theorem dX4_hour_114 : decode cX4_hour 114 = .ok (.iastore, 1) := by decide +kernel
theorem dX4_hour_115 : decode cX4_hour 115 = .ok (.return_, 1) := by decide +kernel
theorem dX4_hours_0 : decode cX4_hours 0 = .ok (.iconst 0, 1) := by decide +kernel
theorem dX4_hours_1 : decode cX4_hours 1 = .ok (.istore_n 2, 1) := by decide +kernel
theorem dX4_hours_2 : decode cX4_hours 2 = .ok (.iload_n 2, 1) := by decide +kernel
theorem dX4_hours_3 : decode cX4_hours 3 = .ok (.iload_n 1, 1) := by decide +kernel
theorem dX4_hours_4 : decode cX4_hours 4 = .ok (.if_icmp .ge 13, 3) := by decide +kernel
theorem dX4_hours_7 : decode cX4_hours 7 = .ok (.aload_n 0, 1) := by decide +kernel
theorem dX4_hours_8 : decode cX4_hours 8 = .ok (.invokevirtual 169, 3) := by decide +kernel
theorem dX4_hours_11 : decode cX4_hours 11 = .ok (.iinc 2 1, 3) := by decide +kernel
theorem dX4_hours_14 : decode cX4_hours 14 = .ok (.goto (-12), 3) := by decide +kernel
theorem dX4_hours_17 : decode cX4_hours 17 = .ok (.return_, 1) := by decide +kernel
theorem dX4_go_0 : decode cX4_go 0 = .ok (.iload_n 1, 1) := by decide +kernel
theorem dX4_go_1 : decode cX4_go 1 = .ok (.iconst 1, 1) := by decide +kernel
theorem dX4_go_2 : decode cX4_go 2 = .ok (.bipush 24, 2) := by decide +kernel
theorem dX4_go_4 : decode cX4_go 4 = .ok (.invokestatic 74, 3) := by decide +kernel
theorem dX4_go_7 : decode cX4_go 7 = .ok (.ifCond .ne 10, 3) := by decide +kernel
theorem dX4_go_10 : decode cX4_go 10 = .ok (.aload_n 0, 1) := by decide +kernel
theorem dX4_go_11 : decode cX4_go 11 = .ok (.ldc 69, 2) := by decide +kernel
theorem dX4_go_13 : decode cX4_go 13 = .ok (.invokevirtual 88, 3) := by decide +kernel
theorem dX4_go_16 : decode cX4_go 16 = .ok (.ireturn, 1) := by decide +kernel
theorem dX4_go_17 : decode cX4_go 17 = .ok (.aload_n 0, 1) := by decide +kernel
theorem dX4_go_18 : decode cX4_go 18 = .ok (.getfield 9, 3) := by decide +kernel
theorem dX4_go_21 : decode cX4_go 21 = .ok (.iconst 0, 1) := by decide +kernel
theorem dX4_go_22 : decode cX4_go 22 = .ok (.iaload, 1) := by decide +kernel
theorem dX4_go_23 : decode cX4_go 23 = .ok (.iload_n 1, 1) := by decide +kernel
theorem dX4_go_24 : decode cX4_go 24 = .ok (.iadd, 1) := by decide +kernel
theorem dX4_go_25 : decode cX4_go 25 = .ok (.ldc 172, 2) := by decide +kernel
theorem dX4_go_27 : decode cX4_go 27 = .ok (.if_icmp .le 10, 3) := by decide +kernel
theorem dX4_go_30 : decode cX4_go 30 = .ok (.aload_n 0, 1) := by decide +kernel
theorem dX4_go_31 : decode cX4_go 31 = .ok (.ldc 173, 2) := by decide +kernel
theorem dX4_go_33 : decode cX4_go 33 = .ok (.invokevirtual 88, 3) := by decide +kernel
theorem dX4_go_36 : decode cX4_go 36 = .ok (.ireturn, 1) := by decide +kernel
theorem dX4_go_37 : decode cX4_go 37 = .ok (.aload_n 0, 1) := by decide +kernel
theorem dX4_go_38 : decode cX4_go 38 = .ok (.iload_n 1, 1) := by decide +kernel
theorem dX4_go_39 : decode cX4_go 39 = .ok (.invokevirtual 174, 3) := by decide +kernel
theorem dX4_go_42 : decode cX4_go 42 = .ok (.aload_n 0, 1) := by decide +kernel
theorem dX4_go_43 : decode cX4_go 43 = .ok (.invokevirtual 178, 3) := by decide +kernel
theorem dX4_go_46 : decode cX4_go 46 = .ok (.invokestatic 182, 3) := by decide +kernel
theorem dX4_go_49 : decode cX4_go 49 = .ok (.ireturn, 1) := by decide +kernel
theorem dX4_nets_0 : decode cX4_nets 0 = .ok (.iconst 0, 1) := by decide +kernel
theorem dX4_nets_1 : decode cX4_nets 1 = .ok (.istore_n 1, 1) := by decide +kernel
theorem dX4_nets_2 : decode cX4_nets 2 = .ok (.iconst 0, 1) := by decide +kernel
theorem dX4_nets_3 : decode cX4_nets 3 = .ok (.istore_n 2, 1) := by decide +kernel
theorem dX4_nets_4 : decode cX4_nets 4 = .ok (.iload_n 2, 1) := by decide +kernel
theorem dX4_nets_5 : decode cX4_nets 5 = .ok (.bipush 64, 2) := by decide +kernel
theorem dX4_nets_7 : decode cX4_nets 7 = .ok (.if_icmp .ge 21, 3) := by decide +kernel
theorem dX4_nets_10 : decode cX4_nets 10 = .ok (.iload_n 1, 1) := by decide +kernel
theorem dX4_nets_11 : decode cX4_nets 11 = .ok (.aload_n 0, 1) := by decide +kernel
theorem dX4_nets_12 : decode cX4_nets 12 = .ok (.getfield 9, 3) := by decide +kernel
theorem dX4_nets_15 : decode cX4_nets 15 = .ok (.bipush 18, 2) := by decide +kernel
theorem dX4_nets_17 : decode cX4_nets 17 = .ok (.iload_n 2, 1) := by decide +kernel
theorem dX4_nets_18 : decode cX4_nets 18 = .ok (.iadd, 1) := by decide +kernel
theorem dX4_nets_19 : decode cX4_nets 19 = .ok (.iaload, 1) := by decide +kernel
theorem dX4_nets_20 : decode cX4_nets 20 = .ok (.iadd, 1) := by decide +kernel
theorem dX4_nets_21 : decode cX4_nets 21 = .ok (.istore_n 1, 1) := by decide +kernel
theorem dX4_nets_22 : decode cX4_nets 22 = .ok (.iinc 2 1, 3) := by decide +kernel
theorem dX4_nets_25 : decode cX4_nets 25 = .ok (.goto (-21), 3) := by decide +kernel
theorem dX4_nets_28 : decode cX4_nets 28 = .ok (.iload_n 1, 1) := by decide +kernel
theorem dX4_nets_29 : decode cX4_nets 29 = .ok (.ireturn, 1) := by decide +kernel
theorem dX4_caughtWeight_0 : decode cX4_caughtWeight 0 = .ok (.iconst 0, 1) := by decide +kernel
theorem dX4_caughtWeight_1 : decode cX4_caughtWeight 1 = .ok (.istore_n 1, 1) := by decide +kernel
theorem dX4_caughtWeight_2 : decode cX4_caughtWeight 2 = .ok (.iconst 0, 1) := by decide +kernel
theorem dX4_caughtWeight_3 : decode cX4_caughtWeight 3 = .ok (.istore_n 2, 1) := by decide +kernel
theorem dX4_caughtWeight_4 : decode cX4_caughtWeight 4 = .ok (.iload_n 2, 1) := by decide +kernel
theorem dX4_caughtWeight_5 : decode cX4_caughtWeight 5 = .ok (.aload_n 0, 1) := by decide +kernel
theorem dX4_caughtWeight_6 : decode cX4_caughtWeight 6 = .ok (.getfield 9, 3) := by decide +kernel
theorem dX4_caughtWeight_9 : decode cX4_caughtWeight 9 = .ok (.iconst 2, 1) := by decide +kernel
theorem dX4_caughtWeight_10 : decode cX4_caughtWeight 10 = .ok (.iaload, 1) := by decide +kernel
theorem dX4_caughtWeight_11 : decode cX4_caughtWeight 11 = .ok (.if_icmp .ge 30, 3) := by decide +kernel
theorem dX4_caughtWeight_14 : decode cX4_caughtWeight 14 = .ok (.iload_n 1, 1) := by decide +kernel
theorem dX4_caughtWeight_15 : decode cX4_caughtWeight 15 = .ok (.aload_n 0, 1) := by decide +kernel
theorem dX4_caughtWeight_16 : decode cX4_caughtWeight 16 = .ok (.iload_n 2, 1) := by decide +kernel
theorem dX4_caughtWeight_17 : decode cX4_caughtWeight 17 = .ok (.invokevirtual 115, 3) := by decide +kernel
theorem dX4_caughtWeight_20 : decode cX4_caughtWeight 20 = .ok (.ifCond .eq 12, 3) := by decide +kernel
theorem dX4_caughtWeight_23 : decode cX4_caughtWeight 23 = .ok (.aload_n 0, 1) := by decide +kernel
theorem dX4_caughtWeight_24 : decode cX4_caughtWeight 24 = .ok (.iload_n 2, 1) := by decide +kernel
theorem dX4_caughtWeight_25 : decode cX4_caughtWeight 25 = .ok (.iconst 3, 1) := by decide +kernel
theorem dX4_caughtWeight_26 : decode cX4_caughtWeight 26 = .ok (.invokevirtual 101, 3) := by decide +kernel
theorem dX4_caughtWeight_29 : decode cX4_caughtWeight 29 = .ok (.goto 4, 3) := by decide +kernel
theorem dX4_caughtWeight_32 : decode cX4_caughtWeight 32 = .ok (.iconst 0, 1) := by decide +kernel
theorem dX4_caughtWeight_33 : decode cX4_caughtWeight 33 = .ok (.iadd, 1) := by decide +kernel
theorem dX4_caughtWeight_34 : decode cX4_caughtWeight 34 = .ok (.istore_n 1, 1) := by decide +kernel
theorem dX4_caughtWeight_35 : decode cX4_caughtWeight 35 = .ok (.iinc 2 1, 3) := by decide +kernel
theorem dX4_caughtWeight_38 : decode cX4_caughtWeight 38 = .ok (.goto (-34), 3) := by decide +kernel
theorem dX4_caughtWeight_41 : decode cX4_caughtWeight 41 = .ok (.iload_n 1, 1) := by decide +kernel
theorem dX4_caughtWeight_42 : decode cX4_caughtWeight 42 = .ok (.ireturn, 1) := by decide +kernel
theorem dX4_now_0 : decode cX4_now 0 = .ok (.iload_n 1, 1) := by decide +kernel
theorem dX4_now_1 : decode cX4_now 1 = .ok (.tableswitch 64 0 4 #[35, 42, 47, 52, 59], 35) := by decide +kernel
theorem dX4_now_36 : decode cX4_now 36 = .ok (.aload_n 0, 1) := by decide +kernel
theorem dX4_now_37 : decode cX4_now 37 = .ok (.getfield 9, 3) := by decide +kernel
theorem dX4_now_40 : decode cX4_now 40 = .ok (.iconst 0, 1) := by decide +kernel
theorem dX4_now_41 : decode cX4_now 41 = .ok (.iaload, 1) := by decide +kernel
theorem dX4_now_42 : decode cX4_now 42 = .ok (.ireturn, 1) := by decide +kernel
theorem dX4_now_43 : decode cX4_now 43 = .ok (.aload_n 0, 1) := by decide +kernel
theorem dX4_now_44 : decode cX4_now 44 = .ok (.invokevirtual 178, 3) := by decide +kernel
theorem dX4_now_47 : decode cX4_now 47 = .ok (.ireturn, 1) := by decide +kernel
theorem dX4_now_48 : decode cX4_now 48 = .ok (.aload_n 0, 1) := by decide +kernel
theorem dX4_now_49 : decode cX4_now 49 = .ok (.invokevirtual 185, 3) := by decide +kernel
theorem dX4_now_52 : decode cX4_now 52 = .ok (.ireturn, 1) := by decide +kernel
theorem dX4_now_53 : decode cX4_now 53 = .ok (.aload_n 0, 1) := by decide +kernel
theorem dX4_now_54 : decode cX4_now 54 = .ok (.getfield 9, 3) := by decide +kernel
theorem dX4_now_57 : decode cX4_now 57 = .ok (.iconst 1, 1) := by decide +kernel
theorem dX4_now_58 : decode cX4_now 58 = .ok (.iaload, 1) := by decide +kernel
theorem dX4_now_59 : decode cX4_now 59 = .ok (.ireturn, 1) := by decide +kernel
theorem dX4_now_60 : decode cX4_now 60 = .ok (.aload_n 0, 1) := by decide +kernel
theorem dX4_now_61 : decode cX4_now 61 = .ok (.invokevirtual 188, 3) := by decide +kernel
theorem dX4_now_64 : decode cX4_now 64 = .ok (.ireturn, 1) := by decide +kernel
theorem dX4_now_65 : decode cX4_now 65 = .ok (.aload_n 0, 1) := by decide +kernel
theorem dX4_now_66 : decode cX4_now 66 = .ok (.ldc 69, 2) := by decide +kernel
theorem dX4_now_68 : decode cX4_now 68 = .ok (.invokevirtual 88, 3) := by decide +kernel
theorem dX4_now_71 : decode cX4_now 71 = .ok (.ireturn, 1) := by decide +kernel
theorem dX4_loud_0 : decode cX4_loud 0 = .ok (.aload_n 0, 1) := by decide +kernel
theorem dX4_loud_1 : decode cX4_loud 1 = .ok (.iload_n 1, 1) := by decide +kernel
theorem dX4_loud_2 : decode cX4_loud 2 = .ok (.invokevirtual 141, 3) := by decide +kernel
theorem dX4_loud_5 : decode cX4_loud 5 = .ok (.ifCond .eq 19, 3) := by decide +kernel
theorem dX4_loud_8 : decode cX4_loud 8 = .ok (.iload_n 2, 1) := by decide +kernel
theorem dX4_loud_9 : decode cX4_loud 9 = .ok (.invokestatic 84, 3) := by decide +kernel
theorem dX4_loud_12 : decode cX4_loud 12 = .ok (.ifCond .eq 12, 3) := by decide +kernel
theorem dX4_loud_15 : decode cX4_loud 15 = .ok (.aload_n 0, 1) := by decide +kernel
theorem dX4_loud_16 : decode cX4_loud 16 = .ok (.iload_n 1, 1) := by decide +kernel
theorem dX4_loud_17 : decode cX4_loud 17 = .ok (.iload_n 2, 1) := by decide +kernel
theorem dX4_loud_18 : decode cX4_loud 18 = .ok (.invokevirtual 153, 3) := by decide +kernel
theorem dX4_loud_21 : decode cX4_loud 21 = .ok (.goto 9, 3) := by decide +kernel
theorem dX4_loud_24 : decode cX4_loud 24 = .ok (.aload_n 0, 1) := by decide +kernel
theorem dX4_loud_25 : decode cX4_loud 25 = .ok (.ldc 69, 2) := by decide +kernel
theorem dX4_loud_27 : decode cX4_loud 27 = .ok (.invokevirtual 88, 3) := by decide +kernel
theorem dX4_loud_30 : decode cX4_loud 30 = .ok (.ireturn, 1) := by decide +kernel
theorem dX4_fieldBehind_0 : decode cX4_fieldBehind 0 = .ok (.aload_n 0, 1) := by decide +kernel
theorem dX4_fieldBehind_1 : decode cX4_fieldBehind 1 = .ok (.getfield 9, 3) := by decide +kernel
theorem dX4_fieldBehind_4 : decode cX4_fieldBehind 4 = .ok (.aload_n 0, 1) := by decide +kernel
theorem dX4_fieldBehind_5 : decode cX4_fieldBehind 5 = .ok (.getfield 16, 3) := by decide +kernel
theorem dX4_fieldBehind_8 : decode cX4_fieldBehind 8 = .ok (.invokestatic 70, 3) := by decide +kernel
theorem dX4_fieldBehind_11 : decode cX4_fieldBehind 11 = .ok (.aload_n 0, 1) := by decide +kernel
theorem dX4_fieldBehind_12 : decode cX4_fieldBehind 12 = .ok (.iload_n 2, 1) := by decide +kernel
theorem dX4_fieldBehind_13 : decode cX4_fieldBehind 13 = .ok (.invokevirtual 174, 3) := by decide +kernel
theorem dX4_fieldBehind_16 : decode cX4_fieldBehind 16 = .ok (.aload_n 0, 1) := by decide +kernel
theorem dX4_fieldBehind_17 : decode cX4_fieldBehind 17 = .ok (.aload_n 0, 1) := by decide +kernel
theorem dX4_fieldBehind_18 : decode cX4_fieldBehind 18 = .ok (.iload_n 1, 1) := by decide +kernel
theorem dX4_fieldBehind_19 : decode cX4_fieldBehind 19 = .ok (.iload_n 3, 1) := by decide +kernel
theorem dX4_fieldBehind_20 : decode cX4_fieldBehind 20 = .ok (.invokevirtual 101, 3) := by decide +kernel
theorem dX4_fieldBehind_23 : decode cX4_fieldBehind 23 = .ok (.invokevirtual 191, 3) := by decide +kernel
theorem dX4_fieldBehind_26 : decode cX4_fieldBehind 26 = .ok (.ireturn, 1) := by decide +kernel
theorem dX4_ahead_0 : decode cX4_ahead 0 = .ok (.aload_n 0, 1) := by decide +kernel
theorem dX4_ahead_1 : decode cX4_ahead 1 = .ok (.iload_n 1, 1) := by decide +kernel
theorem dX4_ahead_2 : decode cX4_ahead 2 = .ok (.invokevirtual 141, 3) := by decide +kernel
theorem dX4_ahead_5 : decode cX4_ahead 5 = .ok (.ifCond .eq 23, 3) := by decide +kernel
theorem dX4_ahead_8 : decode cX4_ahead 8 = .ok (.iload_n 2, 1) := by decide +kernel
theorem dX4_ahead_9 : decode cX4_ahead 9 = .ok (.iconst 0, 1) := by decide +kernel
theorem dX4_ahead_10 : decode cX4_ahead 10 = .ok (.bipush 60, 2) := by decide +kernel
theorem dX4_ahead_12 : decode cX4_ahead 12 = .ok (.invokestatic 74, 3) := by decide +kernel
theorem dX4_ahead_15 : decode cX4_ahead 15 = .ok (.ifCond .eq 13, 3) := by decide +kernel
theorem dX4_ahead_18 : decode cX4_ahead 18 = .ok (.aload_n 0, 1) := by decide +kernel
theorem dX4_ahead_19 : decode cX4_ahead 19 = .ok (.iload_n 1, 1) := by decide +kernel
theorem dX4_ahead_20 : decode cX4_ahead 20 = .ok (.iload_n 2, 1) := by decide +kernel
theorem dX4_ahead_21 : decode cX4_ahead 21 = .ok (.iconst 1, 1) := by decide +kernel
theorem dX4_ahead_22 : decode cX4_ahead 22 = .ok (.invokevirtual 194, 3) := by decide +kernel
theorem dX4_ahead_25 : decode cX4_ahead 25 = .ok (.goto 9, 3) := by decide +kernel
theorem dX4_ahead_28 : decode cX4_ahead 28 = .ok (.aload_n 0, 1) := by decide +kernel
theorem dX4_ahead_29 : decode cX4_ahead 29 = .ok (.ldc 69, 2) := by decide +kernel
theorem dX4_ahead_31 : decode cX4_ahead 31 = .ok (.invokevirtual 88, 3) := by decide +kernel
theorem dX4_ahead_34 : decode cX4_ahead 34 = .ok (.ireturn, 1) := by decide +kernel
theorem dX4_caughtIn_0 : decode cX4_caughtIn 0 = .ok (.aload_n 0, 1) := by decide +kernel
theorem dX4_caughtIn_1 : decode cX4_caughtIn 1 = .ok (.getfield 9, 3) := by decide +kernel
theorem dX4_caughtIn_4 : decode cX4_caughtIn 4 = .ok (.aload_n 0, 1) := by decide +kernel
theorem dX4_caughtIn_5 : decode cX4_caughtIn 5 = .ok (.getfield 16, 3) := by decide +kernel
theorem dX4_caughtIn_8 : decode cX4_caughtIn 8 = .ok (.invokestatic 70, 3) := by decide +kernel
theorem dX4_caughtIn_11 : decode cX4_caughtIn 11 = .ok (.iconst 0, 1) := by decide +kernel
theorem dX4_caughtIn_12 : decode cX4_caughtIn 12 = .ok (.istore_n 3, 1) := by decide +kernel
theorem dX4_caughtIn_13 : decode cX4_caughtIn 13 = .ok (.iload_n 3, 1) := by decide +kernel
theorem dX4_caughtIn_14 : decode cX4_caughtIn 14 = .ok (.iload_n 2, 1) := by decide +kernel
theorem dX4_caughtIn_15 : decode cX4_caughtIn 15 = .ok (.if_icmp .ge 21, 3) := by decide +kernel
theorem dX4_caughtIn_18 : decode cX4_caughtIn 18 = .ok (.aload_n 0, 1) := by decide +kernel
theorem dX4_caughtIn_19 : decode cX4_caughtIn 19 = .ok (.iload_n 1, 1) := by decide +kernel
theorem dX4_caughtIn_20 : decode cX4_caughtIn 20 = .ok (.invokevirtual 115, 3) := by decide +kernel
theorem dX4_caughtIn_23 : decode cX4_caughtIn 23 = .ok (.ifCond .ne 13, 3) := by decide +kernel
theorem dX4_caughtIn_26 : decode cX4_caughtIn 26 = .ok (.aload_n 0, 1) := by decide +kernel
theorem dX4_caughtIn_27 : decode cX4_caughtIn 27 = .ok (.invokevirtual 169, 3) := by decide +kernel
theorem dX4_caughtIn_30 : decode cX4_caughtIn 30 = .ok (.iinc 3 1, 3) := by decide +kernel
theorem dX4_caughtIn_33 : decode cX4_caughtIn 33 = .ok (.goto (-20), 3) := by decide +kernel
theorem dX4_caughtIn_36 : decode cX4_caughtIn 36 = .ok (.aload_n 0, 1) := by decide +kernel
theorem dX4_caughtIn_37 : decode cX4_caughtIn 37 = .ok (.aload_n 0, 1) := by decide +kernel
theorem dX4_caughtIn_38 : decode cX4_caughtIn 38 = .ok (.iload_n 1, 1) := by decide +kernel
theorem dX4_caughtIn_39 : decode cX4_caughtIn 39 = .ok (.invokevirtual 115, 3) := by decide +kernel
theorem dX4_caughtIn_42 : decode cX4_caughtIn 42 = .ok (.ifCond .eq 7, 3) := by decide +kernel
theorem dX4_caughtIn_45 : decode cX4_caughtIn 45 = .ok (.iload_n 3, 1) := by decide +kernel
theorem dX4_caughtIn_46 : decode cX4_caughtIn 46 = .ok (.goto 5, 3) := by decide +kernel
theorem dX4_caughtIn_49 : decode cX4_caughtIn 49 = .ok (.ldc 197, 2) := by decide +kernel
theorem dX4_caughtIn_51 : decode cX4_caughtIn 51 = .ok (.invokevirtual 191, 3) := by decide +kernel
theorem dX4_caughtIn_54 : decode cX4_caughtIn 54 = .ok (.ireturn, 1) := by decide +kernel
theorem dX4_told_0 : decode cX4_told 0 = .ok (.iload_n 1, 1) := by decide +kernel
theorem dX4_told_1 : decode cX4_told 1 = .ok (.ldc 197, 2) := by decide +kernel
theorem dX4_told_3 : decode cX4_told 3 = .ok (.if_icmp .ne 12, 3) := by decide +kernel
theorem dX4_told_6 : decode cX4_told 6 = .ok (.aload_n 0, 1) := by decide +kernel
theorem dX4_told_7 : decode cX4_told 7 = .ok (.ldc 198, 2) := by decide +kernel
theorem dX4_told_9 : decode cX4_told 9 = .ok (.invokevirtual 88, 3) := by decide +kernel
theorem dX4_told_12 : decode cX4_told 12 = .ok (.goto 4, 3) := by decide +kernel
theorem dX4_told_15 : decode cX4_told 15 = .ok (.iload_n 1, 1) := by decide +kernel
theorem dX4_told_16 : decode cX4_told 16 = .ok (.ireturn, 1) := by decide +kernel
theorem dX4_when_0 : decode cX4_when 0 = .ok (.aload_n 0, 1) := by decide +kernel
theorem dX4_when_1 : decode cX4_when 1 = .ok (.iload_n 1, 1) := by decide +kernel
theorem dX4_when_2 : decode cX4_when 2 = .ok (.invokevirtual 141, 3) := by decide +kernel
theorem dX4_when_5 : decode cX4_when 5 = .ok (.ifCond .eq 17, 3) := by decide +kernel
theorem dX4_when_8 : decode cX4_when 8 = .ok (.aload_n 0, 1) := by decide +kernel
theorem dX4_when_9 : decode cX4_when 9 = .ok (.aload_n 0, 1) := by decide +kernel
theorem dX4_when_10 : decode cX4_when 10 = .ok (.iload_n 1, 1) := by decide +kernel
theorem dX4_when_11 : decode cX4_when 11 = .ok (.bipush 60, 2) := by decide +kernel
theorem dX4_when_13 : decode cX4_when 13 = .ok (.invokevirtual 199, 3) := by decide +kernel
theorem dX4_when_16 : decode cX4_when 16 = .ok (.invokevirtual 202, 3) := by decide +kernel
theorem dX4_when_19 : decode cX4_when 19 = .ok (.goto 9, 3) := by decide +kernel
theorem dX4_when_22 : decode cX4_when 22 = .ok (.aload_n 0, 1) := by decide +kernel
theorem dX4_when_23 : decode cX4_when 23 = .ok (.ldc 69, 2) := by decide +kernel
theorem dX4_when_25 : decode cX4_when 25 = .ok (.invokevirtual 88, 3) := by decide +kernel
theorem dX4_when_28 : decode cX4_when 28 = .ok (.ireturn, 1) := by decide +kernel
theorem dX4_still_0 : decode cX4_still 0 = .ok (.aload_n 0, 1) := by decide +kernel
theorem dX4_still_1 : decode cX4_still 1 = .ok (.getfield 9, 3) := by decide +kernel
theorem dX4_still_4 : decode cX4_still 4 = .ok (.aload_n 0, 1) := by decide +kernel
theorem dX4_still_5 : decode cX4_still 5 = .ok (.getfield 16, 3) := by decide +kernel
theorem dX4_still_8 : decode cX4_still 8 = .ok (.invokestatic 70, 3) := by decide +kernel
theorem dX4_still_11 : decode cX4_still 11 = .ok (.iconst 0, 1) := by decide +kernel
theorem dX4_still_12 : decode cX4_still 12 = .ok (.istore_n 1, 1) := by decide +kernel
theorem dX4_still_13 : decode cX4_still 13 = .ok (.aload_n 0, 1) := by decide +kernel
theorem dX4_still_14 : decode cX4_still 14 = .ok (.invokevirtual 169, 3) := by decide +kernel
theorem dX4_still_17 : decode cX4_still 17 = .ok (.iload_n 1, 1) := by decide +kernel
theorem dX4_still_18 : decode cX4_still 18 = .ok (.bipush 60, 2) := by decide +kernel
theorem dX4_still_20 : decode cX4_still 20 = .ok (.if_icmp .ge 20, 3) := by decide +kernel
theorem dX4_still_23 : decode cX4_still 23 = .ok (.aload_n 0, 1) := by decide +kernel
theorem dX4_still_24 : decode cX4_still 24 = .ok (.getfield 162, 3) := by decide +kernel
theorem dX4_still_27 : decode cX4_still 27 = .ok (.ifCond .eq 13, 3) := by decide +kernel
theorem dX4_still_30 : decode cX4_still 30 = .ok (.aload_n 0, 1) := by decide +kernel
theorem dX4_still_31 : decode cX4_still 31 = .ok (.invokevirtual 169, 3) := by decide +kernel
theorem dX4_still_34 : decode cX4_still 34 = .ok (.iinc 1 1, 3) := by decide +kernel
theorem dX4_still_37 : decode cX4_still 37 = .ok (.goto (-20), 3) := by decide +kernel
theorem dX4_still_40 : decode cX4_still 40 = .ok (.aload_n 0, 1) := by decide +kernel
theorem dX4_still_41 : decode cX4_still 41 = .ok (.aload_n 0, 1) := by decide +kernel
theorem dX4_still_42 : decode cX4_still 42 = .ok (.aload_n 0, 1) := by decide +kernel
theorem dX4_still_43 : decode cX4_still 43 = .ok (.getfield 162, 3) := by decide +kernel
theorem dX4_still_46 : decode cX4_still 46 = .ok (.ifCond .eq 8, 3) := by decide +kernel
theorem dX4_still_49 : decode cX4_still 49 = .ok (.ldc 197, 2) := by decide +kernel
theorem dX4_still_51 : decode cX4_still 51 = .ok (.goto 4, 3) := by decide +kernel
theorem dX4_still_54 : decode cX4_still 54 = .ok (.iload_n 1, 1) := by decide +kernel
theorem dX4_still_55 : decode cX4_still 55 = .ok (.invokevirtual 191, 3) := by decide +kernel
theorem dX4_still_58 : decode cX4_still 58 = .ok (.invokevirtual 202, 3) := by decide +kernel
theorem dX4_still_61 : decode cX4_still 61 = .ok (.ireturn, 1) := by decide +kernel
theorem dX4_setBehind_0 : decode cX4_setBehind 0 = .ok (.aload_n 0, 1) := by decide +kernel
theorem dX4_setBehind_1 : decode cX4_setBehind 1 = .ok (.getfield 9, 3) := by decide +kernel
theorem dX4_setBehind_4 : decode cX4_setBehind 4 = .ok (.aload_n 0, 1) := by decide +kernel
theorem dX4_setBehind_5 : decode cX4_setBehind 5 = .ok (.getfield 16, 3) := by decide +kernel
theorem dX4_setBehind_8 : decode cX4_setBehind 8 = .ok (.invokestatic 70, 3) := by decide +kernel
theorem dX4_setBehind_11 : decode cX4_setBehind 11 = .ok (.aload_n 0, 1) := by decide +kernel
theorem dX4_setBehind_12 : decode cX4_setBehind 12 = .ok (.iload_n 1, 1) := by decide +kernel
theorem dX4_setBehind_13 : decode cX4_setBehind 13 = .ok (.invokevirtual 174, 3) := by decide +kernel
theorem dX4_setBehind_16 : decode cX4_setBehind 16 = .ok (.aload_n 0, 1) := by decide +kernel
theorem dX4_setBehind_17 : decode cX4_setBehind 17 = .ok (.aload_n 0, 1) := by decide +kernel
theorem dX4_setBehind_18 : decode cX4_setBehind 18 = .ok (.invokevirtual 178, 3) := by decide +kernel
theorem dX4_setBehind_21 : decode cX4_setBehind 21 = .ok (.invokevirtual 191, 3) := by decide +kernel
theorem dX4_setBehind_24 : decode cX4_setBehind 24 = .ok (.ireturn, 1) := by decide +kernel
theorem dX4_caught_0 : decode cX4_caught 0 = .ok (.iload_n 1, 1) := by decide +kernel
theorem dX4_caught_1 : decode cX4_caught 1 = .ok (.iconst 0, 1) := by decide +kernel
theorem dX4_caught_2 : decode cX4_caught 2 = .ok (.bipush 60, 2) := by decide +kernel
theorem dX4_caught_4 : decode cX4_caught 4 = .ok (.invokestatic 74, 3) := by decide +kernel
theorem dX4_caught_7 : decode cX4_caught 7 = .ok (.ifCond .eq 11, 3) := by decide +kernel
theorem dX4_caught_10 : decode cX4_caught 10 = .ok (.aload_n 0, 1) := by decide +kernel
theorem dX4_caught_11 : decode cX4_caught 11 = .ok (.iload_n 1, 1) := by decide +kernel
theorem dX4_caught_12 : decode cX4_caught 12 = .ok (.invokevirtual 205, 3) := by decide +kernel
theorem dX4_caught_15 : decode cX4_caught 15 = .ok (.goto 9, 3) := by decide +kernel
theorem dX4_caught_18 : decode cX4_caught 18 = .ok (.aload_n 0, 1) := by decide +kernel
theorem dX4_caught_19 : decode cX4_caught 19 = .ok (.ldc 69, 2) := by decide +kernel
theorem dX4_caught_21 : decode cX4_caught 21 = .ok (.invokevirtual 88, 3) := by decide +kernel
theorem dX4_caught_24 : decode cX4_caught 24 = .ok (.ireturn, 1) := by decide +kernel
theorem dX4_orNone_0 : decode cX4_orNone 0 = .ok (.iload_n 1, 1) := by decide +kernel
theorem dX4_orNone_1 : decode cX4_orNone 1 = .ok (.ifCond .ge 12, 3) := by decide +kernel
theorem dX4_orNone_4 : decode cX4_orNone 4 = .ok (.aload_n 0, 1) := by decide +kernel
theorem dX4_orNone_5 : decode cX4_orNone 5 = .ok (.ldc 198, 2) := by decide +kernel
theorem dX4_orNone_7 : decode cX4_orNone 7 = .ok (.invokevirtual 88, 3) := by decide +kernel
theorem dX4_orNone_10 : decode cX4_orNone 10 = .ok (.goto 4, 3) := by decide +kernel
theorem dX4_orNone_13 : decode cX4_orNone 13 = .ok (.iload_n 1, 1) := by decide +kernel
theorem dX4_orNone_14 : decode cX4_orNone 14 = .ok (.ireturn, 1) := by decide +kernel
theorem dX4_netFor_0 : decode cX4_netFor 0 = .ok (.aload_n 0, 1) := by decide +kernel
theorem dX4_netFor_1 : decode cX4_netFor 1 = .ok (.iload_n 1, 1) := by decide +kernel
theorem dX4_netFor_2 : decode cX4_netFor 2 = .ok (.invokevirtual 141, 3) := by decide +kernel
theorem dX4_netFor_5 : decode cX4_netFor 5 = .ok (.ifCond .ne 10, 3) := by decide +kernel
theorem dX4_netFor_8 : decode cX4_netFor 8 = .ok (.aload_n 0, 1) := by decide +kernel
theorem dX4_netFor_9 : decode cX4_netFor 9 = .ok (.ldc 69, 2) := by decide +kernel
theorem dX4_netFor_11 : decode cX4_netFor 11 = .ok (.invokevirtual 88, 3) := by decide +kernel
theorem dX4_netFor_14 : decode cX4_netFor 14 = .ok (.ireturn, 1) := by decide +kernel
theorem dX4_netFor_15 : decode cX4_netFor 15 = .ok (.iconst (-1), 1) := by decide +kernel
theorem dX4_netFor_16 : decode cX4_netFor 16 = .ok (.istore_n 2, 1) := by decide +kernel
theorem dX4_netFor_17 : decode cX4_netFor 17 = .ok (.ldc 197, 2) := by decide +kernel
theorem dX4_netFor_19 : decode cX4_netFor 19 = .ok (.istore_n 3, 1) := by decide +kernel
theorem dX4_netFor_20 : decode cX4_netFor 20 = .ok (.iconst 0, 1) := by decide +kernel
theorem dX4_netFor_21 : decode cX4_netFor 21 = .ok (.istore 4, 2) := by decide +kernel
theorem dX4_netFor_23 : decode cX4_netFor 23 = .ok (.iload 4, 2) := by decide +kernel
theorem dX4_netFor_25 : decode cX4_netFor 25 = .ok (.bipush 64, 2) := by decide +kernel
theorem dX4_netFor_27 : decode cX4_netFor 27 = .ok (.if_icmp .ge 69, 3) := by decide +kernel
theorem dX4_netFor_30 : decode cX4_netFor 30 = .ok (.aload_n 0, 1) := by decide +kernel
theorem dX4_netFor_31 : decode cX4_netFor 31 = .ok (.iload 4, 2) := by decide +kernel
theorem dX4_netFor_33 : decode cX4_netFor 33 = .ok (.invokevirtual 166, 3) := by decide +kernel
theorem dX4_netFor_36 : decode cX4_netFor 36 = .ok (.ifCond .ne 54, 3) := by decide +kernel
theorem dX4_netFor_39 : decode cX4_netFor 39 = .ok (.aload_n 0, 1) := by decide +kernel
theorem dX4_netFor_40 : decode cX4_netFor 40 = .ok (.getfield 9, 3) := by decide +kernel
theorem dX4_netFor_43 : decode cX4_netFor 43 = .ok (.bipush 18, 2) := by decide +kernel
theorem dX4_netFor_45 : decode cX4_netFor 45 = .ok (.iload 4, 2) := by decide +kernel
theorem dX4_netFor_47 : decode cX4_netFor 47 = .ok (.iadd, 1) := by decide +kernel
theorem dX4_netFor_48 : decode cX4_netFor 48 = .ok (.iconst 1, 1) := by decide +kernel
theorem dX4_netFor_49 : decode cX4_netFor 49 = .ok (.iastore, 1) := by decide +kernel
theorem dX4_netFor_50 : decode cX4_netFor 50 = .ok (.aload_n 0, 1) := by decide +kernel
theorem dX4_netFor_51 : decode cX4_netFor 51 = .ok (.iload_n 1, 1) := by decide +kernel
theorem dX4_netFor_52 : decode cX4_netFor 52 = .ok (.bipush 20, 2) := by decide +kernel
theorem dX4_netFor_54 : decode cX4_netFor 54 = .ok (.invokevirtual 199, 3) := by decide +kernel
theorem dX4_netFor_57 : decode cX4_netFor 57 = .ok (.istore 5, 2) := by decide +kernel
theorem dX4_netFor_59 : decode cX4_netFor 59 = .ok (.aload_n 0, 1) := by decide +kernel
theorem dX4_netFor_60 : decode cX4_netFor 60 = .ok (.getfield 9, 3) := by decide +kernel
theorem dX4_netFor_63 : decode cX4_netFor 63 = .ok (.bipush 18, 2) := by decide +kernel
theorem dX4_netFor_65 : decode cX4_netFor 65 = .ok (.iload 4, 2) := by decide +kernel
theorem dX4_netFor_67 : decode cX4_netFor 67 = .ok (.iadd, 1) := by decide +kernel
theorem dX4_netFor_68 : decode cX4_netFor 68 = .ok (.iconst 0, 1) := by decide +kernel
theorem dX4_netFor_69 : decode cX4_netFor 69 = .ok (.iastore, 1) := by decide +kernel
theorem dX4_netFor_70 : decode cX4_netFor 70 = .ok (.iload 5, 2) := by decide +kernel
theorem dX4_netFor_72 : decode cX4_netFor 72 = .ok (.iload_n 3, 1) := by decide +kernel
theorem dX4_netFor_73 : decode cX4_netFor 73 = .ok (.if_icmp .ge 8, 3) := by decide +kernel
theorem dX4_netFor_76 : decode cX4_netFor 76 = .ok (.iload 4, 2) := by decide +kernel
theorem dX4_netFor_78 : decode cX4_netFor 78 = .ok (.goto 4, 3) := by decide +kernel
theorem dX4_netFor_81 : decode cX4_netFor 81 = .ok (.iload_n 2, 1) := by decide +kernel
theorem dX4_netFor_82 : decode cX4_netFor 82 = .ok (.istore_n 2, 1) := by decide +kernel
theorem dX4_netFor_83 : decode cX4_netFor 83 = .ok (.iload_n 3, 1) := by decide +kernel
theorem dX4_netFor_84 : decode cX4_netFor 84 = .ok (.iload 5, 2) := by decide +kernel
theorem dX4_netFor_86 : decode cX4_netFor 86 = .ok (.invokestatic 125, 3) := by decide +kernel
theorem dX4_netFor_89 : decode cX4_netFor 89 = .ok (.istore_n 3, 1) := by decide +kernel
theorem dX4_netFor_90 : decode cX4_netFor 90 = .ok (.iinc 4 1, 3) := by decide +kernel
theorem dX4_netFor_93 : decode cX4_netFor 93 = .ok (.goto (-70), 3) := by decide +kernel
theorem dX4_netFor_96 : decode cX4_netFor 96 = .ok (.aload_n 0, 1) := by decide +kernel
theorem dX4_netFor_97 : decode cX4_netFor 97 = .ok (.iload_n 2, 1) := by decide +kernel
theorem dX4_netFor_98 : decode cX4_netFor 98 = .ok (.invokevirtual 208, 3) := by decide +kernel
theorem dX4_netFor_101 : decode cX4_netFor 101 = .ok (.ireturn, 1) := by decide +kernel
theorem dX4_best_0 : decode cX4_best 0 = .ok (.iload_n 1, 1) := by decide +kernel
theorem dX4_best_1 : decode cX4_best 1 = .ok (.iconst 0, 1) := by decide +kernel
theorem dX4_best_2 : decode cX4_best 2 = .ok (.bipush 20, 2) := by decide +kernel
theorem dX4_best_4 : decode cX4_best 4 = .ok (.invokestatic 74, 3) := by decide +kernel
theorem dX4_best_7 : decode cX4_best 7 = .ok (.ifCond .ne 10, 3) := by decide +kernel
theorem dX4_best_10 : decode cX4_best 10 = .ok (.aload_n 0, 1) := by decide +kernel
theorem dX4_best_11 : decode cX4_best 11 = .ok (.ldc 69, 2) := by decide +kernel
theorem dX4_best_13 : decode cX4_best 13 = .ok (.invokevirtual 88, 3) := by decide +kernel
theorem dX4_best_16 : decode cX4_best 16 = .ok (.ireturn, 1) := by decide +kernel
theorem dX4_best_17 : decode cX4_best 17 = .ok (.iconst (-1), 1) := by decide +kernel
theorem dX4_best_18 : decode cX4_best 18 = .ok (.istore_n 2, 1) := by decide +kernel
theorem dX4_best_19 : decode cX4_best 19 = .ok (.iconst (-1), 1) := by decide +kernel
theorem dX4_best_20 : decode cX4_best 20 = .ok (.istore_n 3, 1) := by decide +kernel
theorem dX4_best_21 : decode cX4_best 21 = .ok (.iconst 0, 1) := by decide +kernel
theorem dX4_best_22 : decode cX4_best 22 = .ok (.istore 4, 2) := by decide +kernel
theorem dX4_best_24 : decode cX4_best 24 = .ok (.iload 4, 2) := by decide +kernel
theorem dX4_best_26 : decode cX4_best 26 = .ok (.bipush 64, 2) := by decide +kernel
theorem dX4_best_28 : decode cX4_best 28 = .ok (.if_icmp .ge 70, 3) := by decide +kernel
theorem dX4_best_31 : decode cX4_best 31 = .ok (.aload_n 0, 1) := by decide +kernel
theorem dX4_best_32 : decode cX4_best 32 = .ok (.iload 4, 2) := by decide +kernel
theorem dX4_best_34 : decode cX4_best 34 = .ok (.invokevirtual 166, 3) := by decide +kernel
theorem dX4_best_37 : decode cX4_best 37 = .ok (.ifCond .ne 55, 3) := by decide +kernel
theorem dX4_best_40 : decode cX4_best 40 = .ok (.aload_n 0, 1) := by decide +kernel
theorem dX4_best_41 : decode cX4_best 41 = .ok (.getfield 9, 3) := by decide +kernel
theorem dX4_best_44 : decode cX4_best 44 = .ok (.bipush 18, 2) := by decide +kernel
theorem dX4_best_46 : decode cX4_best 46 = .ok (.iload 4, 2) := by decide +kernel
theorem dX4_best_48 : decode cX4_best 48 = .ok (.iadd, 1) := by decide +kernel
theorem dX4_best_49 : decode cX4_best 49 = .ok (.iconst 1, 1) := by decide +kernel
theorem dX4_best_50 : decode cX4_best 50 = .ok (.iastore, 1) := by decide +kernel
theorem dX4_best_51 : decode cX4_best 51 = .ok (.aload_n 0, 1) := by decide +kernel
theorem dX4_best_52 : decode cX4_best 52 = .ok (.iload_n 1, 1) := by decide +kernel
theorem dX4_best_53 : decode cX4_best 53 = .ok (.invokevirtual 205, 3) := by decide +kernel
theorem dX4_best_56 : decode cX4_best 56 = .ok (.invokestatic 182, 3) := by decide +kernel
theorem dX4_best_59 : decode cX4_best 59 = .ok (.istore 5, 2) := by decide +kernel
theorem dX4_best_61 : decode cX4_best 61 = .ok (.aload_n 0, 1) := by decide +kernel
theorem dX4_best_62 : decode cX4_best 62 = .ok (.getfield 9, 3) := by decide +kernel
theorem dX4_best_65 : decode cX4_best 65 = .ok (.bipush 18, 2) := by decide +kernel
theorem dX4_best_67 : decode cX4_best 67 = .ok (.iload 4, 2) := by decide +kernel
theorem dX4_best_69 : decode cX4_best 69 = .ok (.iadd, 1) := by decide +kernel
theorem dX4_best_70 : decode cX4_best 70 = .ok (.iconst 0, 1) := by decide +kernel
theorem dX4_best_71 : decode cX4_best 71 = .ok (.iastore, 1) := by decide +kernel
theorem dX4_best_72 : decode cX4_best 72 = .ok (.iload 5, 2) := by decide +kernel
theorem dX4_best_74 : decode cX4_best 74 = .ok (.iload_n 3, 1) := by decide +kernel
theorem dX4_best_75 : decode cX4_best 75 = .ok (.if_icmp .le 8, 3) := by decide +kernel
theorem dX4_best_78 : decode cX4_best 78 = .ok (.iload 4, 2) := by decide +kernel
theorem dX4_best_80 : decode cX4_best 80 = .ok (.goto 4, 3) := by decide +kernel
theorem dX4_best_83 : decode cX4_best 83 = .ok (.iload_n 2, 1) := by decide +kernel
theorem dX4_best_84 : decode cX4_best 84 = .ok (.istore_n 2, 1) := by decide +kernel
theorem dX4_best_85 : decode cX4_best 85 = .ok (.iload_n 3, 1) := by decide +kernel
theorem dX4_best_86 : decode cX4_best 86 = .ok (.iload 5, 2) := by decide +kernel
theorem dX4_best_88 : decode cX4_best 88 = .ok (.invokestatic 132, 3) := by decide +kernel
theorem dX4_best_91 : decode cX4_best 91 = .ok (.istore_n 3, 1) := by decide +kernel
theorem dX4_best_92 : decode cX4_best 92 = .ok (.iinc 4 1, 3) := by decide +kernel
theorem dX4_best_95 : decode cX4_best 95 = .ok (.goto (-71), 3) := by decide +kernel
theorem dX4_best_98 : decode cX4_best 98 = .ok (.aload_n 0, 1) := by decide +kernel
theorem dX4_best_99 : decode cX4_best 99 = .ok (.iload_n 2, 1) := by decide +kernel
theorem dX4_best_100 : decode cX4_best 100 = .ok (.invokevirtual 208, 3) := by decide +kernel
theorem dX4_best_103 : decode cX4_best 103 = .ok (.ireturn, 1) := by decide +kernel
theorem dX4_drive_0 : decode cX4_drive 0 = .ok (.iload_n 1, 1) := by decide +kernel
theorem dX4_drive_1 : decode cX4_drive 1 = .ok (.invokestatic 95, 3) := by decide +kernel
theorem dX4_drive_4 : decode cX4_drive 4 = .ok (.ifCond .eq 11, 3) := by decide +kernel
theorem dX4_drive_7 : decode cX4_drive 7 = .ok (.aload_n 0, 1) := by decide +kernel
theorem dX4_drive_8 : decode cX4_drive 8 = .ok (.iload_n 2, 1) := by decide +kernel
theorem dX4_drive_9 : decode cX4_drive 9 = .ok (.invokevirtual 141, 3) := by decide +kernel
theorem dX4_drive_12 : decode cX4_drive 12 = .ok (.ifCond .ne 10, 3) := by decide +kernel
theorem dX4_drive_15 : decode cX4_drive 15 = .ok (.aload_n 0, 1) := by decide +kernel
theorem dX4_drive_16 : decode cX4_drive 16 = .ok (.ldc 69, 2) := by decide +kernel
theorem dX4_drive_18 : decode cX4_drive 18 = .ok (.invokevirtual 88, 3) := by decide +kernel
theorem dX4_drive_21 : decode cX4_drive 21 = .ok (.ireturn, 1) := by decide +kernel
theorem dX4_drive_22 : decode cX4_drive 22 = .ok (.aload_n 0, 1) := by decide +kernel
theorem dX4_drive_23 : decode cX4_drive 23 = .ok (.getfield 9, 3) := by decide +kernel
theorem dX4_drive_26 : decode cX4_drive 26 = .ok (.bipush 14, 2) := by decide +kernel
theorem dX4_drive_28 : decode cX4_drive 28 = .ok (.iload_n 1, 1) := by decide +kernel
theorem dX4_drive_29 : decode cX4_drive 29 = .ok (.iadd, 1) := by decide +kernel
theorem dX4_drive_30 : decode cX4_drive 30 = .ok (.iaload, 1) := by decide +kernel
theorem dX4_drive_31 : decode cX4_drive 31 = .ok (.istore_n 3, 1) := by decide +kernel
theorem dX4_drive_32 : decode cX4_drive 32 = .ok (.iconst (-1), 1) := by decide +kernel
theorem dX4_drive_33 : decode cX4_drive 33 = .ok (.istore 4, 2) := by decide +kernel
theorem dX4_drive_35 : decode cX4_drive 35 = .ok (.ldc 197, 2) := by decide +kernel
theorem dX4_drive_37 : decode cX4_drive 37 = .ok (.istore 5, 2) := by decide +kernel
theorem dX4_drive_39 : decode cX4_drive 39 = .ok (.iconst 0, 1) := by decide +kernel
theorem dX4_drive_40 : decode cX4_drive 40 = .ok (.istore 6, 2) := by decide +kernel
theorem dX4_drive_42 : decode cX4_drive 42 = .ok (.iload 6, 2) := by decide +kernel
theorem dX4_drive_44 : decode cX4_drive 44 = .ok (.bipush 64, 2) := by decide +kernel
theorem dX4_drive_46 : decode cX4_drive 46 = .ok (.if_icmp .ge 54, 3) := by decide +kernel
theorem dX4_drive_49 : decode cX4_drive 49 = .ok (.aload_n 0, 1) := by decide +kernel
theorem dX4_drive_50 : decode cX4_drive 50 = .ok (.getfield 9, 3) := by decide +kernel
theorem dX4_drive_53 : decode cX4_drive 53 = .ok (.bipush 14, 2) := by decide +kernel
theorem dX4_drive_55 : decode cX4_drive 55 = .ok (.iload_n 1, 1) := by decide +kernel
theorem dX4_drive_56 : decode cX4_drive 56 = .ok (.iadd, 1) := by decide +kernel
theorem dX4_drive_57 : decode cX4_drive 57 = .ok (.iload 6, 2) := by decide +kernel
theorem dX4_drive_59 : decode cX4_drive 59 = .ok (.iastore, 1) := by decide +kernel
theorem dX4_drive_60 : decode cX4_drive 60 = .ok (.aload_n 0, 1) := by decide +kernel
theorem dX4_drive_61 : decode cX4_drive 61 = .ok (.iload_n 2, 1) := by decide +kernel
theorem dX4_drive_62 : decode cX4_drive 62 = .ok (.bipush 20, 2) := by decide +kernel
theorem dX4_drive_64 : decode cX4_drive 64 = .ok (.invokevirtual 199, 3) := by decide +kernel
theorem dX4_drive_67 : decode cX4_drive 67 = .ok (.istore 7, 2) := by decide +kernel
theorem dX4_drive_69 : decode cX4_drive 69 = .ok (.iload 7, 2) := by decide +kernel
theorem dX4_drive_71 : decode cX4_drive 71 = .ok (.iload 5, 2) := by decide +kernel
theorem dX4_drive_73 : decode cX4_drive 73 = .ok (.if_icmp .ge 8, 3) := by decide +kernel
theorem dX4_drive_76 : decode cX4_drive 76 = .ok (.iload 6, 2) := by decide +kernel
theorem dX4_drive_78 : decode cX4_drive 78 = .ok (.goto 5, 3) := by decide +kernel
theorem dX4_drive_81 : decode cX4_drive 81 = .ok (.iload 4, 2) := by decide +kernel
theorem dX4_drive_83 : decode cX4_drive 83 = .ok (.istore 4, 2) := by decide +kernel
theorem dX4_drive_85 : decode cX4_drive 85 = .ok (.iload 5, 2) := by decide +kernel
theorem dX4_drive_87 : decode cX4_drive 87 = .ok (.iload 7, 2) := by decide +kernel
theorem dX4_drive_89 : decode cX4_drive 89 = .ok (.invokestatic 125, 3) := by decide +kernel
theorem dX4_drive_92 : decode cX4_drive 92 = .ok (.istore 5, 2) := by decide +kernel
theorem dX4_drive_94 : decode cX4_drive 94 = .ok (.iinc 6 1, 3) := by decide +kernel
theorem dX4_drive_97 : decode cX4_drive 97 = .ok (.goto (-55), 3) := by decide +kernel
theorem dX4_drive_100 : decode cX4_drive 100 = .ok (.aload_n 0, 1) := by decide +kernel
theorem dX4_drive_101 : decode cX4_drive 101 = .ok (.getfield 9, 3) := by decide +kernel
theorem dX4_drive_104 : decode cX4_drive 104 = .ok (.bipush 14, 2) := by decide +kernel
theorem dX4_drive_106 : decode cX4_drive 106 = .ok (.iload_n 1, 1) := by decide +kernel
theorem dX4_drive_107 : decode cX4_drive 107 = .ok (.iadd, 1) := by decide +kernel
theorem dX4_drive_108 : decode cX4_drive 108 = .ok (.iload_n 3, 1) := by decide +kernel
theorem dX4_drive_109 : decode cX4_drive 109 = .ok (.iastore, 1) := by decide +kernel
theorem dX4_drive_110 : decode cX4_drive 110 = .ok (.aload_n 0, 1) := by decide +kernel
theorem dX4_drive_111 : decode cX4_drive 111 = .ok (.iload 4, 2) := by decide +kernel
theorem dX4_drive_113 : decode cX4_drive 113 = .ok (.invokevirtual 208, 3) := by decide +kernel
theorem dX4_drive_116 : decode cX4_drive 116 = .ok (.ireturn, 1) := by decide +kernel
theorem dX4_kindFor_0 : decode cX4_kindFor 0 = .ok (.aload_n 0, 1) := by decide +kernel
theorem dX4_kindFor_1 : decode cX4_kindFor 1 = .ok (.iload_n 1, 1) := by decide +kernel
theorem dX4_kindFor_2 : decode cX4_kindFor 2 = .ok (.invokevirtual 141, 3) := by decide +kernel
theorem dX4_kindFor_5 : decode cX4_kindFor 5 = .ok (.ifCond .ne 10, 3) := by decide +kernel
theorem dX4_kindFor_8 : decode cX4_kindFor 8 = .ok (.aload_n 0, 1) := by decide +kernel
theorem dX4_kindFor_9 : decode cX4_kindFor 9 = .ok (.ldc 69, 2) := by decide +kernel
theorem dX4_kindFor_11 : decode cX4_kindFor 11 = .ok (.invokevirtual 88, 3) := by decide +kernel
theorem dX4_kindFor_14 : decode cX4_kindFor 14 = .ok (.ireturn, 1) := by decide +kernel
theorem dX4_kindFor_15 : decode cX4_kindFor 15 = .ok (.aload_n 0, 1) := by decide +kernel
theorem dX4_kindFor_16 : decode cX4_kindFor 16 = .ok (.iload_n 1, 1) := by decide +kernel
theorem dX4_kindFor_17 : decode cX4_kindFor 17 = .ok (.iconst 0, 1) := by decide +kernel
theorem dX4_kindFor_18 : decode cX4_kindFor 18 = .ok (.invokevirtual 101, 3) := by decide +kernel
theorem dX4_kindFor_21 : decode cX4_kindFor 21 = .ok (.istore_n 2, 1) := by decide +kernel
theorem dX4_kindFor_22 : decode cX4_kindFor 22 = .ok (.iconst (-1), 1) := by decide +kernel
theorem dX4_kindFor_23 : decode cX4_kindFor 23 = .ok (.istore_n 3, 1) := by decide +kernel
theorem dX4_kindFor_24 : decode cX4_kindFor 24 = .ok (.iconst (-1), 1) := by decide +kernel
theorem dX4_kindFor_25 : decode cX4_kindFor 25 = .ok (.istore 4, 2) := by decide +kernel
theorem dX4_kindFor_27 : decode cX4_kindFor 27 = .ok (.iconst 0, 1) := by decide +kernel
theorem dX4_kindFor_28 : decode cX4_kindFor 28 = .ok (.istore 5, 2) := by decide +kernel
theorem dX4_kindFor_30 : decode cX4_kindFor 30 = .ok (.iload 5, 2) := by decide +kernel
theorem dX4_kindFor_32 : decode cX4_kindFor 32 = .ok (.bipush 6, 2) := by decide +kernel
theorem dX4_kindFor_34 : decode cX4_kindFor 34 = .ok (.if_icmp .gt 58, 3) := by decide +kernel
theorem dX4_kindFor_37 : decode cX4_kindFor 37 = .ok (.aload_n 0, 1) := by decide +kernel
theorem dX4_kindFor_38 : decode cX4_kindFor 38 = .ok (.getfield 9, 3) := by decide +kernel
theorem dX4_kindFor_41 : decode cX4_kindFor 41 = .ok (.iload_n 1, 1) := by decide +kernel
theorem dX4_kindFor_42 : decode cX4_kindFor 42 = .ok (.iconst 0, 1) := by decide +kernel
theorem dX4_kindFor_43 : decode cX4_kindFor 43 = .ok (.invokestatic 98, 3) := by decide +kernel
theorem dX4_kindFor_46 : decode cX4_kindFor 46 = .ok (.iload 5, 2) := by decide +kernel
theorem dX4_kindFor_48 : decode cX4_kindFor 48 = .ok (.iastore, 1) := by decide +kernel
theorem dX4_kindFor_49 : decode cX4_kindFor 49 = .ok (.bipush 60, 2) := by decide +kernel
theorem dX4_kindFor_51 : decode cX4_kindFor 51 = .ok (.aload_n 0, 1) := by decide +kernel
theorem dX4_kindFor_52 : decode cX4_kindFor 52 = .ok (.iload_n 1, 1) := by decide +kernel
theorem dX4_kindFor_53 : decode cX4_kindFor 53 = .ok (.bipush 60, 2) := by decide +kernel
theorem dX4_kindFor_55 : decode cX4_kindFor 55 = .ok (.invokevirtual 199, 3) := by decide +kernel
theorem dX4_kindFor_58 : decode cX4_kindFor 58 = .ok (.invokestatic 125, 3) := by decide +kernel
theorem dX4_kindFor_61 : decode cX4_kindFor 61 = .ok (.istore 6, 2) := by decide +kernel
theorem dX4_kindFor_63 : decode cX4_kindFor 63 = .ok (.iload 6, 2) := by decide +kernel
theorem dX4_kindFor_65 : decode cX4_kindFor 65 = .ok (.iload 4, 2) := by decide +kernel
theorem dX4_kindFor_67 : decode cX4_kindFor 67 = .ok (.if_icmp .le 8, 3) := by decide +kernel
theorem dX4_kindFor_70 : decode cX4_kindFor 70 = .ok (.iload 5, 2) := by decide +kernel
theorem dX4_kindFor_72 : decode cX4_kindFor 72 = .ok (.goto 4, 3) := by decide +kernel
theorem dX4_kindFor_75 : decode cX4_kindFor 75 = .ok (.iload_n 3, 1) := by decide +kernel
theorem dX4_kindFor_76 : decode cX4_kindFor 76 = .ok (.istore_n 3, 1) := by decide +kernel
theorem dX4_kindFor_77 : decode cX4_kindFor 77 = .ok (.iload 4, 2) := by decide +kernel
theorem dX4_kindFor_79 : decode cX4_kindFor 79 = .ok (.iload 6, 2) := by decide +kernel
theorem dX4_kindFor_81 : decode cX4_kindFor 81 = .ok (.invokestatic 132, 3) := by decide +kernel
theorem dX4_kindFor_84 : decode cX4_kindFor 84 = .ok (.istore 4, 2) := by decide +kernel
theorem dX4_kindFor_86 : decode cX4_kindFor 86 = .ok (.iinc 5 1, 3) := by decide +kernel
theorem dX4_kindFor_89 : decode cX4_kindFor 89 = .ok (.goto (-59), 3) := by decide +kernel
theorem dX4_kindFor_92 : decode cX4_kindFor 92 = .ok (.aload_n 0, 1) := by decide +kernel
theorem dX4_kindFor_93 : decode cX4_kindFor 93 = .ok (.getfield 9, 3) := by decide +kernel
theorem dX4_kindFor_96 : decode cX4_kindFor 96 = .ok (.iload_n 1, 1) := by decide +kernel
theorem dX4_kindFor_97 : decode cX4_kindFor 97 = .ok (.iconst 0, 1) := by decide +kernel
theorem dX4_kindFor_98 : decode cX4_kindFor 98 = .ok (.invokestatic 98, 3) := by decide +kernel
theorem dX4_kindFor_101 : decode cX4_kindFor 101 = .ok (.iload_n 2, 1) := by decide +kernel
theorem dX4_kindFor_102 : decode cX4_kindFor 102 = .ok (.iastore, 1) := by decide +kernel
theorem dX4_kindFor_103 : decode cX4_kindFor 103 = .ok (.iload_n 3, 1) := by decide +kernel
theorem dX4_kindFor_104 : decode cX4_kindFor 104 = .ok (.ireturn, 1) := by decide +kernel
theorem dX4_lacks_0 : decode cX4_lacks 0 = .ok (.iload_n 1, 1) := by decide +kernel
theorem dX4_lacks_1 : decode cX4_lacks 1 = .ok (.invokestatic 211, 3) := by decide +kernel
theorem dX4_lacks_4 : decode cX4_lacks 4 = .ok (.ifCond .ne 8, 3) := by decide +kernel
theorem dX4_lacks_7 : decode cX4_lacks 7 = .ok (.ldc 69, 2) := by decide +kernel
theorem dX4_lacks_9 : decode cX4_lacks 9 = .ok (.goto 18, 3) := by decide +kernel
theorem dX4_lacks_12 : decode cX4_lacks 12 = .ok (.aload_n 0, 1) := by decide +kernel
theorem dX4_lacks_13 : decode cX4_lacks 13 = .ok (.getfield 57, 3) := by decide +kernel
theorem dX4_lacks_16 : decode cX4_lacks 16 = .ok (.iload_n 1, 1) := by decide +kernel
theorem dX4_lacks_17 : decode cX4_lacks 17 = .ok (.iaload, 1) := by decide +kernel
theorem dX4_lacks_18 : decode cX4_lacks 18 = .ok (.ifCond .ne 8, 3) := by decide +kernel
theorem dX4_lacks_21 : decode cX4_lacks 21 = .ok (.ldc 214, 2) := by decide +kernel
theorem dX4_lacks_23 : decode cX4_lacks 23 = .ok (.goto 4, 3) := by decide +kernel
theorem dX4_lacks_26 : decode cX4_lacks 26 = .ok (.iconst 0, 1) := by decide +kernel
theorem dX4_lacks_27 : decode cX4_lacks 27 = .ok (.ireturn, 1) := by decide +kernel
theorem dX4_earOf_0 : decode cX4_earOf 0 = .ok (.aload_n 0, 1) := by decide +kernel
theorem dX4_earOf_1 : decode cX4_earOf 1 = .ok (.getfield 63, 3) := by decide +kernel
theorem dX4_earOf_4 : decode cX4_earOf 4 = .ok (.bipush 40, 2) := by decide +kernel
theorem dX4_earOf_6 : decode cX4_earOf 6 = .ok (.iload_n 1, 1) := by decide +kernel
theorem dX4_earOf_7 : decode cX4_earOf 7 = .ok (.imul, 1) := by decide +kernel
theorem dX4_earOf_8 : decode cX4_earOf 8 = .ok (.iconst 2, 1) := by decide +kernel
theorem dX4_earOf_9 : decode cX4_earOf 9 = .ok (.iload_n 2, 1) := by decide +kernel
theorem dX4_earOf_10 : decode cX4_earOf 10 = .ok (.imul, 1) := by decide +kernel
theorem dX4_earOf_11 : decode cX4_earOf 11 = .ok (.iadd, 1) := by decide +kernel
theorem dX4_earOf_12 : decode cX4_earOf 12 = .ok (.iaload, 1) := by decide +kernel
theorem dX4_earOf_13 : decode cX4_earOf 13 = .ok (.ireturn, 1) := by decide +kernel
theorem dX4_ears_0 : decode cX4_ears 0 = .ok (.aload_n 0, 1) := by decide +kernel
theorem dX4_ears_1 : decode cX4_ears 1 = .ok (.getfield 60, 3) := by decide +kernel
theorem dX4_ears_4 : decode cX4_ears 4 = .ok (.iload_n 1, 1) := by decide +kernel
theorem dX4_ears_5 : decode cX4_ears 5 = .ok (.iaload, 1) := by decide +kernel
theorem dX4_ears_6 : decode cX4_ears 6 = .ok (.iconst 2, 1) := by decide +kernel
theorem dX4_ears_7 : decode cX4_ears 7 = .ok (.idiv, 1) := by decide +kernel
theorem dX4_ears_8 : decode cX4_ears 8 = .ok (.ireturn, 1) := by decide +kernel
theorem dX4_areEars_0 : decode cX4_areEars 0 = .ok (.iconst 1, 1) := by decide +kernel
theorem dX4_areEars_1 : decode cX4_areEars 1 = .ok (.istore_n 2, 1) := by decide +kernel
theorem dX4_areEars_2 : decode cX4_areEars 2 = .ok (.iconst 0, 1) := by decide +kernel
theorem dX4_areEars_3 : decode cX4_areEars 3 = .ok (.istore_n 3, 1) := by decide +kernel
theorem dX4_areEars_4 : decode cX4_areEars 4 = .ok (.iload_n 3, 1) := by decide +kernel
theorem dX4_areEars_5 : decode cX4_areEars 5 = .ok (.aload_n 0, 1) := by decide +kernel
theorem dX4_areEars_6 : decode cX4_areEars 6 = .ok (.iload_n 1, 1) := by decide +kernel
theorem dX4_areEars_7 : decode cX4_areEars 7 = .ok (.invokevirtual 215, 3) := by decide +kernel
theorem dX4_areEars_10 : decode cX4_areEars 10 = .ok (.if_icmp .ge 31, 3) := by decide +kernel
theorem dX4_areEars_13 : decode cX4_areEars 13 = .ok (.iload_n 2, 1) := by decide +kernel
theorem dX4_areEars_14 : decode cX4_areEars 14 = .ok (.ifCond .eq 19, 3) := by decide +kernel
theorem dX4_areEars_17 : decode cX4_areEars 17 = .ok (.aload_n 0, 1) := by decide +kernel
theorem dX4_areEars_18 : decode cX4_areEars 18 = .ok (.iload_n 1, 1) := by decide +kernel
theorem dX4_areEars_19 : decode cX4_areEars 19 = .ok (.iload_n 3, 1) := by decide +kernel
theorem dX4_areEars_20 : decode cX4_areEars 20 = .ok (.invokevirtual 218, 3) := by decide +kernel
theorem dX4_areEars_23 : decode cX4_areEars 23 = .ok (.invokestatic 84, 3) := by decide +kernel
theorem dX4_areEars_26 : decode cX4_areEars 26 = .ok (.ifCond .eq 7, 3) := by decide +kernel
theorem dX4_areEars_29 : decode cX4_areEars 29 = .ok (.iconst 1, 1) := by decide +kernel
theorem dX4_areEars_30 : decode cX4_areEars 30 = .ok (.goto 4, 3) := by decide +kernel
theorem dX4_areEars_33 : decode cX4_areEars 33 = .ok (.iconst 0, 1) := by decide +kernel
theorem dX4_areEars_34 : decode cX4_areEars 34 = .ok (.istore_n 2, 1) := by decide +kernel
theorem dX4_areEars_35 : decode cX4_areEars 35 = .ok (.iinc 3 1, 3) := by decide +kernel
theorem dX4_areEars_38 : decode cX4_areEars 38 = .ok (.goto (-34), 3) := by decide +kernel
theorem dX4_areEars_41 : decode cX4_areEars 41 = .ok (.iload_n 2, 1) := by decide +kernel
theorem dX4_areEars_42 : decode cX4_areEars 42 = .ok (.ireturn, 1) := by decide +kernel
theorem dX4_isSo_0 : decode cX4_isSo 0 = .ok (.iconst 1, 1) := by decide +kernel
theorem dX4_isSo_1 : decode cX4_isSo 1 = .ok (.istore 4, 2) := by decide +kernel
theorem dX4_isSo_3 : decode cX4_isSo 3 = .ok (.iconst 0, 1) := by decide +kernel
theorem dX4_isSo_4 : decode cX4_isSo 4 = .ok (.istore 5, 2) := by decide +kernel
theorem dX4_isSo_6 : decode cX4_isSo 6 = .ok (.iload 5, 2) := by decide +kernel
theorem dX4_isSo_8 : decode cX4_isSo 8 = .ok (.aload_n 0, 1) := by decide +kernel
theorem dX4_isSo_9 : decode cX4_isSo 9 = .ok (.iload_n 1, 1) := by decide +kernel
theorem dX4_isSo_10 : decode cX4_isSo 10 = .ok (.invokevirtual 215, 3) := by decide +kernel
theorem dX4_isSo_13 : decode cX4_isSo 13 = .ok (.if_icmp .ge 53, 3) := by decide +kernel
theorem dX4_isSo_16 : decode cX4_isSo 16 = .ok (.iload 4, 2) := by decide +kernel
theorem dX4_isSo_18 : decode cX4_isSo 18 = .ok (.ifCond .eq 39, 3) := by decide +kernel
theorem dX4_isSo_21 : decode cX4_isSo 21 = .ok (.aload_n 0, 1) := by decide +kernel
theorem dX4_isSo_22 : decode cX4_isSo 22 = .ok (.iload_n 2, 1) := by decide +kernel
theorem dX4_isSo_23 : decode cX4_isSo 23 = .ok (.iload_n 3, 1) := by decide +kernel
theorem dX4_isSo_24 : decode cX4_isSo 24 = .ok (.aload_n 0, 1) := by decide +kernel
theorem dX4_isSo_25 : decode cX4_isSo 25 = .ok (.iload_n 1, 1) := by decide +kernel
theorem dX4_isSo_26 : decode cX4_isSo 26 = .ok (.iload 5, 2) := by decide +kernel
theorem dX4_isSo_28 : decode cX4_isSo 28 = .ok (.invokevirtual 218, 3) := by decide +kernel
theorem dX4_isSo_31 : decode cX4_isSo 31 = .ok (.invokevirtual 150, 3) := by decide +kernel
theorem dX4_isSo_34 : decode cX4_isSo 34 = .ok (.aload_n 0, 1) := by decide +kernel
theorem dX4_isSo_35 : decode cX4_isSo 35 = .ok (.getfield 63, 3) := by decide +kernel
theorem dX4_isSo_38 : decode cX4_isSo 38 = .ok (.bipush 40, 2) := by decide +kernel
theorem dX4_isSo_40 : decode cX4_isSo 40 = .ok (.iload_n 1, 1) := by decide +kernel
theorem dX4_isSo_41 : decode cX4_isSo 41 = .ok (.imul, 1) := by decide +kernel
theorem dX4_isSo_42 : decode cX4_isSo 42 = .ok (.iconst 2, 1) := by decide +kernel
theorem dX4_isSo_43 : decode cX4_isSo 43 = .ok (.iload 5, 2) := by decide +kernel
theorem dX4_isSo_45 : decode cX4_isSo 45 = .ok (.imul, 1) := by decide +kernel
theorem dX4_isSo_46 : decode cX4_isSo 46 = .ok (.iadd, 1) := by decide +kernel
theorem dX4_isSo_47 : decode cX4_isSo 47 = .ok (.iconst 1, 1) := by decide +kernel
theorem dX4_isSo_48 : decode cX4_isSo 48 = .ok (.iadd, 1) := by decide +kernel
theorem dX4_isSo_49 : decode cX4_isSo 49 = .ok (.iaload, 1) := by decide +kernel
theorem dX4_isSo_50 : decode cX4_isSo 50 = .ok (.if_icmp .ne 7, 3) := by decide +kernel
theorem dX4_isSo_53 : decode cX4_isSo 53 = .ok (.iconst 1, 1) := by decide +kernel
theorem dX4_isSo_54 : decode cX4_isSo 54 = .ok (.goto 4, 3) := by decide +kernel
theorem dX4_isSo_57 : decode cX4_isSo 57 = .ok (.iconst 0, 1) := by decide +kernel
theorem dX4_isSo_58 : decode cX4_isSo 58 = .ok (.istore 4, 2) := by decide +kernel
theorem dX4_isSo_60 : decode cX4_isSo 60 = .ok (.iinc 5 1, 3) := by decide +kernel
theorem dX4_isSo_63 : decode cX4_isSo 63 = .ok (.goto (-57), 3) := by decide +kernel
theorem dX4_isSo_66 : decode cX4_isSo 66 = .ok (.iload 4, 2) := by decide +kernel
theorem dX4_isSo_68 : decode cX4_isSo 68 = .ok (.ireturn, 1) := by decide +kernel
theorem dX4_lacksOf_0 : decode cX4_lacksOf 0 = .ok (.aload_n 0, 1) := by decide +kernel
theorem dX4_lacksOf_1 : decode cX4_lacksOf 1 = .ok (.iload_n 1, 1) := by decide +kernel
theorem dX4_lacksOf_2 : decode cX4_lacksOf 2 = .ok (.invokevirtual 221, 3) := by decide +kernel
theorem dX4_lacksOf_5 : decode cX4_lacksOf 5 = .ok (.istore_n 3, 1) := by decide +kernel
theorem dX4_lacksOf_6 : decode cX4_lacksOf 6 = .ok (.iload_n 3, 1) := by decide +kernel
theorem dX4_lacksOf_7 : decode cX4_lacksOf 7 = .ok (.ifCond .eq 7, 3) := by decide +kernel
theorem dX4_lacksOf_10 : decode cX4_lacksOf 10 = .ok (.iload_n 3, 1) := by decide +kernel
theorem dX4_lacksOf_11 : decode cX4_lacksOf 11 = .ok (.goto 32, 3) := by decide +kernel
theorem dX4_lacksOf_14 : decode cX4_lacksOf 14 = .ok (.iload_n 2, 1) := by decide +kernel
theorem dX4_lacksOf_15 : decode cX4_lacksOf 15 = .ok (.iconst 1, 1) := by decide +kernel
theorem dX4_lacksOf_16 : decode cX4_lacksOf 16 = .ok (.bipush 99, 2) := by decide +kernel
theorem dX4_lacksOf_18 : decode cX4_lacksOf 18 = .ok (.invokestatic 74, 3) := by decide +kernel
theorem dX4_lacksOf_21 : decode cX4_lacksOf 21 = .ok (.ifCond .ne 8, 3) := by decide +kernel
theorem dX4_lacksOf_24 : decode cX4_lacksOf 24 = .ok (.ldc 69, 2) := by decide +kernel
theorem dX4_lacksOf_26 : decode cX4_lacksOf 26 = .ok (.goto 17, 3) := by decide +kernel
theorem dX4_lacksOf_29 : decode cX4_lacksOf 29 = .ok (.aload_n 0, 1) := by decide +kernel
theorem dX4_lacksOf_30 : decode cX4_lacksOf 30 = .ok (.iload_n 1, 1) := by decide +kernel
theorem dX4_lacksOf_31 : decode cX4_lacksOf 31 = .ok (.invokevirtual 224, 3) := by decide +kernel
theorem dX4_lacksOf_34 : decode cX4_lacksOf 34 = .ok (.ifCond .eq 7, 3) := by decide +kernel
theorem dX4_lacksOf_37 : decode cX4_lacksOf 37 = .ok (.iconst 0, 1) := by decide +kernel
theorem dX4_lacksOf_38 : decode cX4_lacksOf 38 = .ok (.goto 5, 3) := by decide +kernel
theorem dX4_lacksOf_41 : decode cX4_lacksOf 41 = .ok (.ldc 173, 2) := by decide +kernel
theorem dX4_lacksOf_43 : decode cX4_lacksOf 43 = .ok (.ireturn, 1) := by decide +kernel
theorem dX4_stands_0 : decode cX4_stands 0 = .ok (.aload_n 0, 1) := by decide +kernel
theorem dX4_stands_1 : decode cX4_stands 1 = .ok (.iload_n 1, 1) := by decide +kernel
theorem dX4_stands_2 : decode cX4_stands 2 = .ok (.iload_n 2, 1) := by decide +kernel
theorem dX4_stands_3 : decode cX4_stands 3 = .ok (.invokevirtual 227, 3) := by decide +kernel
theorem dX4_stands_6 : decode cX4_stands 6 = .ok (.ifCond .eq 14, 3) := by decide +kernel
theorem dX4_stands_9 : decode cX4_stands 9 = .ok (.aload_n 0, 1) := by decide +kernel
theorem dX4_stands_10 : decode cX4_stands 10 = .ok (.aload_n 0, 1) := by decide +kernel
theorem dX4_stands_11 : decode cX4_stands 11 = .ok (.iload_n 1, 1) := by decide +kernel
theorem dX4_stands_12 : decode cX4_stands 12 = .ok (.iload_n 2, 1) := by decide +kernel
theorem dX4_stands_13 : decode cX4_stands 13 = .ok (.invokevirtual 227, 3) := by decide +kernel
theorem dX4_stands_16 : decode cX4_stands 16 = .ok (.invokevirtual 88, 3) := by decide +kernel
theorem dX4_stands_19 : decode cX4_stands 19 = .ok (.ireturn, 1) := by decide +kernel
theorem dX4_stands_20 : decode cX4_stands 20 = .ok (.iconst 0, 1) := by decide +kernel
theorem dX4_stands_21 : decode cX4_stands 21 = .ok (.istore_n 3, 1) := by decide +kernel
theorem dX4_stands_22 : decode cX4_stands 22 = .ok (.iconst 0, 1) := by decide +kernel
theorem dX4_stands_23 : decode cX4_stands 23 = .ok (.istore 4, 2) := by decide +kernel
theorem dX4_stands_25 : decode cX4_stands 25 = .ok (.iload 4, 2) := by decide +kernel
theorem dX4_stands_27 : decode cX4_stands 27 = .ok (.bipush 64, 2) := by decide +kernel
theorem dX4_stands_29 : decode cX4_stands 29 = .ok (.if_icmp .ge 28, 3) := by decide +kernel
theorem dX4_stands_32 : decode cX4_stands 32 = .ok (.iload_n 3, 1) := by decide +kernel
theorem dX4_stands_33 : decode cX4_stands 33 = .ok (.aload_n 0, 1) := by decide +kernel
theorem dX4_stands_34 : decode cX4_stands 34 = .ok (.iload_n 1, 1) := by decide +kernel
theorem dX4_stands_35 : decode cX4_stands 35 = .ok (.iload_n 2, 1) := by decide +kernel
theorem dX4_stands_36 : decode cX4_stands 36 = .ok (.iload 4, 2) := by decide +kernel
theorem dX4_stands_38 : decode cX4_stands 38 = .ok (.invokevirtual 230, 3) := by decide +kernel
theorem dX4_stands_41 : decode cX4_stands 41 = .ok (.ifCond .eq 7, 3) := by decide +kernel
theorem dX4_stands_44 : decode cX4_stands 44 = .ok (.iconst 1, 1) := by decide +kernel
theorem dX4_stands_45 : decode cX4_stands 45 = .ok (.goto 4, 3) := by decide +kernel
theorem dX4_stands_48 : decode cX4_stands 48 = .ok (.iconst 0, 1) := by decide +kernel
theorem dX4_stands_49 : decode cX4_stands 49 = .ok (.iadd, 1) := by decide +kernel
theorem dX4_stands_50 : decode cX4_stands 50 = .ok (.istore_n 3, 1) := by decide +kernel
theorem dX4_stands_51 : decode cX4_stands 51 = .ok (.iinc 4 1, 3) := by decide +kernel
theorem dX4_stands_54 : decode cX4_stands 54 = .ok (.goto (-29), 3) := by decide +kernel
theorem dX4_stands_57 : decode cX4_stands 57 = .ok (.iload_n 3, 1) := by decide +kernel
theorem dX4_stands_58 : decode cX4_stands 58 = .ok (.ireturn, 1) := by decide +kernel
theorem dX4_where_0 : decode cX4_where 0 = .ok (.aload_n 0, 1) := by decide +kernel
theorem dX4_where_1 : decode cX4_where 1 = .ok (.iload_n 1, 1) := by decide +kernel
theorem dX4_where_2 : decode cX4_where 2 = .ok (.iload_n 2, 1) := by decide +kernel
theorem dX4_where_3 : decode cX4_where 3 = .ok (.invokevirtual 227, 3) := by decide +kernel
theorem dX4_where_6 : decode cX4_where 6 = .ok (.ifCond .eq 14, 3) := by decide +kernel
theorem dX4_where_9 : decode cX4_where 9 = .ok (.aload_n 0, 1) := by decide +kernel
theorem dX4_where_10 : decode cX4_where 10 = .ok (.aload_n 0, 1) := by decide +kernel
theorem dX4_where_11 : decode cX4_where 11 = .ok (.iload_n 1, 1) := by decide +kernel
theorem dX4_where_12 : decode cX4_where 12 = .ok (.iload_n 2, 1) := by decide +kernel
theorem dX4_where_13 : decode cX4_where 13 = .ok (.invokevirtual 227, 3) := by decide +kernel
theorem dX4_where_16 : decode cX4_where 16 = .ok (.invokevirtual 88, 3) := by decide +kernel
theorem dX4_where_19 : decode cX4_where 19 = .ok (.ireturn, 1) := by decide +kernel
theorem dX4_where_20 : decode cX4_where 20 = .ok (.iconst 0, 1) := by decide +kernel
theorem dX4_where_21 : decode cX4_where 21 = .ok (.istore_n 3, 1) := by decide +kernel
theorem dX4_where_22 : decode cX4_where 22 = .ok (.iload_n 3, 1) := by decide +kernel
theorem dX4_where_23 : decode cX4_where 23 = .ok (.bipush 64, 2) := by decide +kernel
theorem dX4_where_25 : decode cX4_where 25 = .ok (.if_icmp .ge 19, 3) := by decide +kernel
theorem dX4_where_28 : decode cX4_where 28 = .ok (.aload_n 0, 1) := by decide +kernel
theorem dX4_where_29 : decode cX4_where 29 = .ok (.iload_n 1, 1) := by decide +kernel
theorem dX4_where_30 : decode cX4_where 30 = .ok (.iload_n 2, 1) := by decide +kernel
theorem dX4_where_31 : decode cX4_where 31 = .ok (.iload_n 3, 1) := by decide +kernel
theorem dX4_where_32 : decode cX4_where 32 = .ok (.invokevirtual 230, 3) := by decide +kernel
theorem dX4_where_35 : decode cX4_where 35 = .ok (.ifCond .ne 9, 3) := by decide +kernel
theorem dX4_where_38 : decode cX4_where 38 = .ok (.iinc 3 1, 3) := by decide +kernel
theorem dX4_where_41 : decode cX4_where 41 = .ok (.goto (-19), 3) := by decide +kernel
theorem dX4_where_44 : decode cX4_where 44 = .ok (.iload_n 3, 1) := by decide +kernel
theorem dX4_where_45 : decode cX4_where 45 = .ok (.bipush 64, 2) := by decide +kernel
theorem dX4_where_47 : decode cX4_where 47 = .ok (.if_icmp .ne 12, 3) := by decide +kernel
theorem dX4_where_50 : decode cX4_where 50 = .ok (.aload_n 0, 1) := by decide +kernel
theorem dX4_where_51 : decode cX4_where 51 = .ok (.ldc 198, 2) := by decide +kernel
theorem dX4_where_53 : decode cX4_where 53 = .ok (.invokevirtual 88, 3) := by decide +kernel
theorem dX4_where_56 : decode cX4_where 56 = .ok (.goto 4, 3) := by decide +kernel
theorem dX4_where_59 : decode cX4_where 59 = .ok (.iload_n 3, 1) := by decide +kernel
theorem dX4_where_60 : decode cX4_where 60 = .ok (.ireturn, 1) := by decide +kernel
theorem dX4_worst_0 : decode cX4_worst 0 = .ok (.iconst 0, 1) := by decide +kernel
theorem dX4_worst_1 : decode cX4_worst 1 = .ok (.istore 4, 2) := by decide +kernel
theorem dX4_worst_3 : decode cX4_worst 3 = .ok (.iload 4, 2) := by decide +kernel
theorem dX4_worst_5 : decode cX4_worst 5 = .ok (.bipush 99, 2) := by decide +kernel
theorem dX4_worst_7 : decode cX4_worst 7 = .ok (.if_icmp .gt 17, 3) := by decide +kernel
theorem dX4_worst_10 : decode cX4_worst 10 = .ok (.aload_n 0, 1) := by decide +kernel
theorem dX4_worst_11 : decode cX4_worst 11 = .ok (.getfield 28, 3) := by decide +kernel
theorem dX4_worst_14 : decode cX4_worst 14 = .ok (.iload 4, 2) := by decide +kernel
theorem dX4_worst_16 : decode cX4_worst 16 = .ok (.iconst 0, 1) := by decide +kernel
theorem dX4_worst_17 : decode cX4_worst 17 = .ok (.iastore, 1) := by decide +kernel
theorem dX4_worst_18 : decode cX4_worst 18 = .ok (.iinc 4 1, 3) := by decide +kernel
theorem dX4_worst_21 : decode cX4_worst 21 = .ok (.goto (-18), 3) := by decide +kernel
theorem dX4_worst_24 : decode cX4_worst 24 = .ok (.iconst 0, 1) := by decide +kernel
theorem dX4_worst_25 : decode cX4_worst 25 = .ok (.istore 4, 2) := by decide +kernel
theorem dX4_worst_27 : decode cX4_worst 27 = .ok (.iconst 0, 1) := by decide +kernel
theorem dX4_worst_28 : decode cX4_worst 28 = .ok (.istore 5, 2) := by decide +kernel
theorem dX4_worst_30 : decode cX4_worst 30 = .ok (.iload 5, 2) := by decide +kernel
theorem dX4_worst_32 : decode cX4_worst 32 = .ok (.bipush 64, 2) := by decide +kernel
theorem dX4_worst_34 : decode cX4_worst 34 = .ok (.if_icmp .ge 59, 3) := by decide +kernel
theorem dX4_worst_37 : decode cX4_worst 37 = .ok (.aload_n 0, 1) := by decide +kernel
theorem dX4_worst_38 : decode cX4_worst 38 = .ok (.iload_n 2, 1) := by decide +kernel
theorem dX4_worst_39 : decode cX4_worst 39 = .ok (.iload 5, 2) := by decide +kernel
theorem dX4_worst_41 : decode cX4_worst 41 = .ok (.iload_n 3, 1) := by decide +kernel
theorem dX4_worst_42 : decode cX4_worst 42 = .ok (.invokevirtual 150, 3) := by decide +kernel
theorem dX4_worst_45 : decode cX4_worst 45 = .ok (.istore 6, 2) := by decide +kernel
theorem dX4_worst_47 : decode cX4_worst 47 = .ok (.aload_n 0, 1) := by decide +kernel
theorem dX4_worst_48 : decode cX4_worst 48 = .ok (.getfield 28, 3) := by decide +kernel
theorem dX4_worst_51 : decode cX4_worst 51 = .ok (.iload 6, 2) := by decide +kernel
theorem dX4_worst_53 : decode cX4_worst 53 = .ok (.dup2, 1) := by decide +kernel
theorem dX4_worst_54 : decode cX4_worst 54 = .ok (.iaload, 1) := by decide +kernel
theorem dX4_worst_55 : decode cX4_worst 55 = .ok (.aload_n 0, 1) := by decide +kernel
theorem dX4_worst_56 : decode cX4_worst 56 = .ok (.iload_n 1, 1) := by decide +kernel
theorem dX4_worst_57 : decode cX4_worst 57 = .ok (.iload_n 2, 1) := by decide +kernel
theorem dX4_worst_58 : decode cX4_worst 58 = .ok (.iload 5, 2) := by decide +kernel
theorem dX4_worst_60 : decode cX4_worst 60 = .ok (.invokevirtual 230, 3) := by decide +kernel
theorem dX4_worst_63 : decode cX4_worst 63 = .ok (.ifCond .eq 7, 3) := by decide +kernel
theorem dX4_worst_66 : decode cX4_worst 66 = .ok (.iconst 1, 1) := by decide +kernel
theorem dX4_worst_67 : decode cX4_worst 67 = .ok (.goto 4, 3) := by decide +kernel
theorem dX4_worst_70 : decode cX4_worst 70 = .ok (.iconst 0, 1) := by decide +kernel
theorem dX4_worst_71 : decode cX4_worst 71 = .ok (.iadd, 1) := by decide +kernel
theorem dX4_worst_72 : decode cX4_worst 72 = .ok (.iastore, 1) := by decide +kernel
theorem dX4_worst_73 : decode cX4_worst 73 = .ok (.iload 4, 2) := by decide +kernel
theorem dX4_worst_75 : decode cX4_worst 75 = .ok (.aload_n 0, 1) := by decide +kernel
theorem dX4_worst_76 : decode cX4_worst 76 = .ok (.getfield 28, 3) := by decide +kernel
theorem dX4_worst_79 : decode cX4_worst 79 = .ok (.iload 6, 2) := by decide +kernel
theorem dX4_worst_81 : decode cX4_worst 81 = .ok (.iaload, 1) := by decide +kernel
theorem dX4_worst_82 : decode cX4_worst 82 = .ok (.invokestatic 132, 3) := by decide +kernel
theorem dX4_worst_85 : decode cX4_worst 85 = .ok (.istore 4, 2) := by decide +kernel
theorem dX4_worst_87 : decode cX4_worst 87 = .ok (.iinc 5 1, 3) := by decide +kernel
theorem dX4_worst_90 : decode cX4_worst 90 = .ok (.goto (-60), 3) := by decide +kernel
theorem dX4_worst_93 : decode cX4_worst 93 = .ok (.iload 4, 2) := by decide +kernel
theorem dX4_worst_95 : decode cX4_worst 95 = .ok (.ireturn, 1) := by decide +kernel
theorem dX4_ear_0 : decode cX4_ear 0 = .ok (.aload_n 0, 1) := by decide +kernel
theorem dX4_ear_1 : decode cX4_ear 1 = .ok (.iload_n 1, 1) := by decide +kernel
theorem dX4_ear_2 : decode cX4_ear 2 = .ok (.iload_n 2, 1) := by decide +kernel
theorem dX4_ear_3 : decode cX4_ear 3 = .ok (.invokevirtual 227, 3) := by decide +kernel
theorem dX4_ear_6 : decode cX4_ear 6 = .ok (.ifCond .eq 14, 3) := by decide +kernel
theorem dX4_ear_9 : decode cX4_ear 9 = .ok (.aload_n 0, 1) := by decide +kernel
theorem dX4_ear_10 : decode cX4_ear 10 = .ok (.aload_n 0, 1) := by decide +kernel
theorem dX4_ear_11 : decode cX4_ear 11 = .ok (.iload_n 1, 1) := by decide +kernel
theorem dX4_ear_12 : decode cX4_ear 12 = .ok (.iload_n 2, 1) := by decide +kernel
theorem dX4_ear_13 : decode cX4_ear 13 = .ok (.invokevirtual 227, 3) := by decide +kernel
theorem dX4_ear_16 : decode cX4_ear 16 = .ok (.invokevirtual 88, 3) := by decide +kernel
theorem dX4_ear_19 : decode cX4_ear 19 = .ok (.ireturn, 1) := by decide +kernel
theorem dX4_ear_20 : decode cX4_ear 20 = .ok (.iconst 0, 1) := by decide +kernel
theorem dX4_ear_21 : decode cX4_ear 21 = .ok (.istore_n 3, 1) := by decide +kernel
theorem dX4_ear_22 : decode cX4_ear 22 = .ok (.ldc 197, 2) := by decide +kernel
theorem dX4_ear_24 : decode cX4_ear 24 = .ok (.istore 4, 2) := by decide +kernel
theorem dX4_ear_26 : decode cX4_ear 26 = .ok (.iconst 0, 1) := by decide +kernel
theorem dX4_ear_27 : decode cX4_ear 27 = .ok (.istore 5, 2) := by decide +kernel
theorem dX4_ear_29 : decode cX4_ear 29 = .ok (.iload 5, 2) := by decide +kernel
theorem dX4_ear_31 : decode cX4_ear 31 = .ok (.bipush 64, 2) := by decide +kernel
theorem dX4_ear_33 : decode cX4_ear 33 = .ok (.if_icmp .ge 42, 3) := by decide +kernel
theorem dX4_ear_36 : decode cX4_ear 36 = .ok (.aload_n 0, 1) := by decide +kernel
theorem dX4_ear_37 : decode cX4_ear 37 = .ok (.iload_n 1, 1) := by decide +kernel
theorem dX4_ear_38 : decode cX4_ear 38 = .ok (.iload_n 2, 1) := by decide +kernel
theorem dX4_ear_39 : decode cX4_ear 39 = .ok (.iload 5, 2) := by decide +kernel
theorem dX4_ear_41 : decode cX4_ear 41 = .ok (.invokevirtual 233, 3) := by decide +kernel
theorem dX4_ear_44 : decode cX4_ear 44 = .ok (.istore 6, 2) := by decide +kernel
theorem dX4_ear_46 : decode cX4_ear 46 = .ok (.iload 6, 2) := by decide +kernel
theorem dX4_ear_48 : decode cX4_ear 48 = .ok (.iload 4, 2) := by decide +kernel
theorem dX4_ear_50 : decode cX4_ear 50 = .ok (.if_icmp .ge 8, 3) := by decide +kernel
theorem dX4_ear_53 : decode cX4_ear 53 = .ok (.iload 5, 2) := by decide +kernel
theorem dX4_ear_55 : decode cX4_ear 55 = .ok (.goto 4, 3) := by decide +kernel
theorem dX4_ear_58 : decode cX4_ear 58 = .ok (.iload_n 3, 1) := by decide +kernel
theorem dX4_ear_59 : decode cX4_ear 59 = .ok (.istore_n 3, 1) := by decide +kernel
theorem dX4_ear_60 : decode cX4_ear 60 = .ok (.iload 4, 2) := by decide +kernel
theorem dX4_ear_62 : decode cX4_ear 62 = .ok (.iload 6, 2) := by decide +kernel
theorem dX4_ear_64 : decode cX4_ear 64 = .ok (.invokestatic 125, 3) := by decide +kernel
theorem dX4_ear_67 : decode cX4_ear 67 = .ok (.istore 4, 2) := by decide +kernel
theorem dX4_ear_69 : decode cX4_ear 69 = .ok (.iinc 5 1, 3) := by decide +kernel
theorem dX4_ear_72 : decode cX4_ear 72 = .ok (.goto (-43), 3) := by decide +kernel
theorem dX4_ear_75 : decode cX4_ear 75 = .ok (.iload 4, 2) := by decide +kernel
theorem dX4_ear_77 : decode cX4_ear 77 = .ok (.ifCond .ne 12, 3) := by decide +kernel
theorem dX4_ear_80 : decode cX4_ear 80 = .ok (.aload_n 0, 1) := by decide +kernel
theorem dX4_ear_81 : decode cX4_ear 81 = .ok (.ldc 198, 2) := by decide +kernel
theorem dX4_ear_83 : decode cX4_ear 83 = .ok (.invokevirtual 88, 3) := by decide +kernel
theorem dX4_ear_86 : decode cX4_ear 86 = .ok (.goto 4, 3) := by decide +kernel
theorem dX4_ear_89 : decode cX4_ear 89 = .ok (.iload_n 3, 1) := by decide +kernel
theorem dX4_ear_90 : decode cX4_ear 90 = .ok (.ireturn, 1) := by decide +kernel
theorem dX4_whose_0 : decode cX4_whose 0 = .ok (.aload_n 0, 1) := by decide +kernel
theorem dX4_whose_1 : decode cX4_whose 1 = .ok (.iload_n 1, 1) := by decide +kernel
theorem dX4_whose_2 : decode cX4_whose 2 = .ok (.iconst 1, 1) := by decide +kernel
theorem dX4_whose_3 : decode cX4_whose 3 = .ok (.invokevirtual 227, 3) := by decide +kernel
theorem dX4_whose_6 : decode cX4_whose 6 = .ok (.ifCond .eq 14, 3) := by decide +kernel
theorem dX4_whose_9 : decode cX4_whose 9 = .ok (.aload_n 0, 1) := by decide +kernel
theorem dX4_whose_10 : decode cX4_whose 10 = .ok (.aload_n 0, 1) := by decide +kernel
theorem dX4_whose_11 : decode cX4_whose 11 = .ok (.iload_n 1, 1) := by decide +kernel
theorem dX4_whose_12 : decode cX4_whose 12 = .ok (.iconst 1, 1) := by decide +kernel
theorem dX4_whose_13 : decode cX4_whose 13 = .ok (.invokevirtual 227, 3) := by decide +kernel
theorem dX4_whose_16 : decode cX4_whose 16 = .ok (.invokevirtual 88, 3) := by decide +kernel
theorem dX4_whose_19 : decode cX4_whose 19 = .ok (.ireturn, 1) := by decide +kernel
theorem dX4_whose_20 : decode cX4_whose 20 = .ok (.iconst 0, 1) := by decide +kernel
theorem dX4_whose_21 : decode cX4_whose 21 = .ok (.istore_n 2, 1) := by decide +kernel
theorem dX4_whose_22 : decode cX4_whose 22 = .ok (.iconst 0, 1) := by decide +kernel
theorem dX4_whose_23 : decode cX4_whose 23 = .ok (.istore_n 3, 1) := by decide +kernel
theorem dX4_whose_24 : decode cX4_whose 24 = .ok (.iload_n 3, 1) := by decide +kernel
theorem dX4_whose_25 : decode cX4_whose 25 = .ok (.aload_n 0, 1) := by decide +kernel
theorem dX4_whose_26 : decode cX4_whose 26 = .ok (.getfield 9, 3) := by decide +kernel
theorem dX4_whose_29 : decode cX4_whose 29 = .ok (.iconst 2, 1) := by decide +kernel
theorem dX4_whose_30 : decode cX4_whose 30 = .ok (.iaload, 1) := by decide +kernel
theorem dX4_whose_31 : decode cX4_whose 31 = .ok (.if_icmp .ge 47, 3) := by decide +kernel
theorem dX4_whose_34 : decode cX4_whose 34 = .ok (.iload_n 2, 1) := by decide +kernel
theorem dX4_whose_35 : decode cX4_whose 35 = .ok (.aload_n 0, 1) := by decide +kernel
theorem dX4_whose_36 : decode cX4_whose 36 = .ok (.iload_n 3, 1) := by decide +kernel
theorem dX4_whose_37 : decode cX4_whose 37 = .ok (.invokevirtual 115, 3) := by decide +kernel
theorem dX4_whose_40 : decode cX4_whose 40 = .ok (.ifCond .ne 29, 3) := by decide +kernel
theorem dX4_whose_43 : decode cX4_whose 43 = .ok (.aload_n 0, 1) := by decide +kernel
theorem dX4_whose_44 : decode cX4_whose 44 = .ok (.iload_n 1, 1) := by decide +kernel
theorem dX4_whose_45 : decode cX4_whose 45 = .ok (.aload_n 0, 1) := by decide +kernel
theorem dX4_whose_46 : decode cX4_whose 46 = .ok (.iload_n 3, 1) := by decide +kernel
theorem dX4_whose_47 : decode cX4_whose 47 = .ok (.iconst 3, 1) := by decide +kernel
theorem dX4_whose_48 : decode cX4_whose 48 = .ok (.invokevirtual 101, 3) := by decide +kernel
theorem dX4_whose_51 : decode cX4_whose 51 = .ok (.aload_n 0, 1) := by decide +kernel
theorem dX4_whose_52 : decode cX4_whose 52 = .ok (.iload_n 3, 1) := by decide +kernel
theorem dX4_whose_53 : decode cX4_whose 53 = .ok (.iconst 1, 1) := by decide +kernel
theorem dX4_whose_54 : decode cX4_whose 54 = .ok (.invokevirtual 101, 3) := by decide +kernel
theorem dX4_whose_57 : decode cX4_whose 57 = .ok (.invokevirtual 230, 3) := by decide +kernel
theorem dX4_whose_60 : decode cX4_whose 60 = .ok (.ifCond .eq 9, 3) := by decide +kernel
theorem dX4_whose_63 : decode cX4_whose 63 = .ok (.iconst 1, 1) := by decide +kernel
theorem dX4_whose_64 : decode cX4_whose 64 = .ok (.iload_n 3, 1) := by decide +kernel
theorem dX4_whose_65 : decode cX4_whose 65 = .ok (.ishl, 1) := by decide +kernel
theorem dX4_whose_66 : decode cX4_whose 66 = .ok (.goto 4, 3) := by decide +kernel
theorem dX4_whose_69 : decode cX4_whose 69 = .ok (.iconst 0, 1) := by decide +kernel
theorem dX4_whose_70 : decode cX4_whose 70 = .ok (.ior, 1) := by decide +kernel
theorem dX4_whose_71 : decode cX4_whose 71 = .ok (.istore_n 2, 1) := by decide +kernel
theorem dX4_whose_72 : decode cX4_whose 72 = .ok (.iinc 3 1, 3) := by decide +kernel
theorem dX4_whose_75 : decode cX4_whose 75 = .ok (.goto (-51), 3) := by decide +kernel
theorem dX4_whose_78 : decode cX4_whose 78 = .ok (.iload_n 2, 1) := by decide +kernel
theorem dX4_whose_79 : decode cX4_whose 79 = .ok (.ireturn, 1) := by decide +kernel
theorem dX4_stockBehind_0 : decode cX4_stockBehind 0 = .ok (.iload_n 0, 1) := by decide +kernel
theorem dX4_stockBehind_1 : decode cX4_stockBehind 1 = .ok (.istore_n 3, 1) := by decide +kernel
theorem dX4_stockBehind_2 : decode cX4_stockBehind 2 = .ok (.iconst 0, 1) := by decide +kernel
theorem dX4_stockBehind_3 : decode cX4_stockBehind 3 = .ok (.istore 4, 2) := by decide +kernel
theorem dX4_stockBehind_5 : decode cX4_stockBehind 5 = .ok (.iload 4, 2) := by decide +kernel
theorem dX4_stockBehind_7 : decode cX4_stockBehind 7 = .ok (.iload_n 2, 1) := by decide +kernel
theorem dX4_stockBehind_8 : decode cX4_stockBehind 8 = .ok (.if_icmp .ge 30, 3) := by decide +kernel
theorem dX4_stockBehind_11 : decode cX4_stockBehind 11 = .ok (.iload_n 3, 1) := by decide +kernel
theorem dX4_stockBehind_12 : decode cX4_stockBehind 12 = .ok (.iload_n 1, 1) := by decide +kernel
theorem dX4_stockBehind_13 : decode cX4_stockBehind 13 = .ok (.iload_n 3, 1) := by decide +kernel
theorem dX4_stockBehind_14 : decode cX4_stockBehind 14 = .ok (.invokestatic 125, 3) := by decide +kernel
theorem dX4_stockBehind_17 : decode cX4_stockBehind 17 = .ok (.isub, 1) := by decide +kernel
theorem dX4_stockBehind_18 : decode cX4_stockBehind 18 = .ok (.istore_n 3, 1) := by decide +kernel
theorem dX4_stockBehind_19 : decode cX4_stockBehind 19 = .ok (.sipush 9999, 3) := by decide +kernel
theorem dX4_stockBehind_22 : decode cX4_stockBehind 22 = .ok (.iload_n 3, 1) := by decide +kernel
theorem dX4_stockBehind_23 : decode cX4_stockBehind 23 = .ok (.iload_n 3, 1) := by decide +kernel
theorem dX4_stockBehind_24 : decode cX4_stockBehind 24 = .ok (.bipush 10, 2) := by decide +kernel
theorem dX4_stockBehind_26 : decode cX4_stockBehind 26 = .ok (.idiv, 1) := by decide +kernel
theorem dX4_stockBehind_27 : decode cX4_stockBehind 27 = .ok (.iadd, 1) := by decide +kernel
theorem dX4_stockBehind_28 : decode cX4_stockBehind 28 = .ok (.invokestatic 125, 3) := by decide +kernel
theorem dX4_stockBehind_31 : decode cX4_stockBehind 31 = .ok (.istore_n 3, 1) := by decide +kernel
theorem dX4_stockBehind_32 : decode cX4_stockBehind 32 = .ok (.iinc 4 1, 3) := by decide +kernel
theorem dX4_stockBehind_35 : decode cX4_stockBehind 35 = .ok (.goto (-30), 3) := by decide +kernel
theorem dX4_stockBehind_38 : decode cX4_stockBehind 38 = .ok (.iload_n 3, 1) := by decide +kernel
theorem dX4_stockBehind_39 : decode cX4_stockBehind 39 = .ok (.ireturn, 1) := by decide +kernel
theorem dX4_stock_0 : decode cX4_stock 0 = .ok (.iload_n 1, 1) := by decide +kernel
theorem dX4_stock_1 : decode cX4_stock 1 = .ok (.iconst 0, 1) := by decide +kernel
theorem dX4_stock_2 : decode cX4_stock 2 = .ok (.sipush 9999, 3) := by decide +kernel
theorem dX4_stock_5 : decode cX4_stock 5 = .ok (.invokestatic 74, 3) := by decide +kernel
theorem dX4_stock_8 : decode cX4_stock 8 = .ok (.ifCond .eq 33, 3) := by decide +kernel
theorem dX4_stock_11 : decode cX4_stock 11 = .ok (.iload_n 2, 1) := by decide +kernel
theorem dX4_stock_12 : decode cX4_stock 12 = .ok (.iconst 0, 1) := by decide +kernel
theorem dX4_stock_13 : decode cX4_stock 13 = .ok (.sipush 999, 3) := by decide +kernel
theorem dX4_stock_16 : decode cX4_stock 16 = .ok (.invokestatic 74, 3) := by decide +kernel
theorem dX4_stock_19 : decode cX4_stock 19 = .ok (.ifCond .eq 22, 3) := by decide +kernel
theorem dX4_stock_22 : decode cX4_stock 22 = .ok (.iload_n 3, 1) := by decide +kernel
theorem dX4_stock_23 : decode cX4_stock 23 = .ok (.iconst 0, 1) := by decide +kernel
theorem dX4_stock_24 : decode cX4_stock 24 = .ok (.bipush 99, 2) := by decide +kernel
theorem dX4_stock_26 : decode cX4_stock 26 = .ok (.invokestatic 74, 3) := by decide +kernel
theorem dX4_stock_29 : decode cX4_stock 29 = .ok (.ifCond .eq 12, 3) := by decide +kernel
theorem dX4_stock_32 : decode cX4_stock 32 = .ok (.iload_n 1, 1) := by decide +kernel
theorem dX4_stock_33 : decode cX4_stock 33 = .ok (.iload_n 2, 1) := by decide +kernel
theorem dX4_stock_34 : decode cX4_stock 34 = .ok (.iload_n 3, 1) := by decide +kernel
theorem dX4_stock_35 : decode cX4_stock 35 = .ok (.invokestatic 236, 3) := by decide +kernel
theorem dX4_stock_38 : decode cX4_stock 38 = .ok (.goto 9, 3) := by decide +kernel
theorem dX4_stock_41 : decode cX4_stock 41 = .ok (.aload_n 0, 1) := by decide +kernel
theorem dX4_stock_42 : decode cX4_stock 42 = .ok (.ldc 69, 2) := by decide +kernel
theorem dX4_stock_44 : decode cX4_stock 44 = .ok (.invokevirtual 88, 3) := by decide +kernel
theorem dX4_stock_47 : decode cX4_stock 47 = .ok (.ireturn, 1) := by decide +kernel
theorem dX4_lasts_0 : decode cX4_lasts 0 = .ok (.iload_n 1, 1) := by decide +kernel
theorem dX4_lasts_1 : decode cX4_lasts 1 = .ok (.iconst 0, 1) := by decide +kernel
theorem dX4_lasts_2 : decode cX4_lasts 2 = .ok (.sipush 9999, 3) := by decide +kernel
theorem dX4_lasts_5 : decode cX4_lasts 5 = .ok (.invokestatic 74, 3) := by decide +kernel
theorem dX4_lasts_8 : decode cX4_lasts 8 = .ok (.ifCond .eq 13, 3) := by decide +kernel
theorem dX4_lasts_11 : decode cX4_lasts 11 = .ok (.iload_n 2, 1) := by decide +kernel
theorem dX4_lasts_12 : decode cX4_lasts 12 = .ok (.iconst 1, 1) := by decide +kernel
theorem dX4_lasts_13 : decode cX4_lasts 13 = .ok (.bipush 99, 2) := by decide +kernel
theorem dX4_lasts_15 : decode cX4_lasts 15 = .ok (.invokestatic 74, 3) := by decide +kernel
theorem dX4_lasts_18 : decode cX4_lasts 18 = .ok (.ifCond .ne 10, 3) := by decide +kernel
theorem dX4_lasts_21 : decode cX4_lasts 21 = .ok (.aload_n 0, 1) := by decide +kernel
theorem dX4_lasts_22 : decode cX4_lasts 22 = .ok (.ldc 69, 2) := by decide +kernel
theorem dX4_lasts_24 : decode cX4_lasts 24 = .ok (.invokevirtual 88, 3) := by decide +kernel
theorem dX4_lasts_27 : decode cX4_lasts 27 = .ok (.ireturn, 1) := by decide +kernel
theorem dX4_lasts_28 : decode cX4_lasts 28 = .ok (.sipush 999, 3) := by decide +kernel
theorem dX4_lasts_31 : decode cX4_lasts 31 = .ok (.istore_n 3, 1) := by decide +kernel
theorem dX4_lasts_32 : decode cX4_lasts 32 = .ok (.iload_n 3, 1) := by decide +kernel
theorem dX4_lasts_33 : decode cX4_lasts 33 = .ok (.ifCond .le 19, 3) := by decide +kernel
theorem dX4_lasts_36 : decode cX4_lasts 36 = .ok (.iload_n 1, 1) := by decide +kernel
theorem dX4_lasts_37 : decode cX4_lasts 37 = .ok (.iload_n 3, 1) := by decide +kernel
theorem dX4_lasts_38 : decode cX4_lasts 38 = .ok (.iload_n 2, 1) := by decide +kernel
theorem dX4_lasts_39 : decode cX4_lasts 39 = .ok (.invokestatic 236, 3) := by decide +kernel
theorem dX4_lasts_42 : decode cX4_lasts 42 = .ok (.iload_n 1, 1) := by decide +kernel
theorem dX4_lasts_43 : decode cX4_lasts 43 = .ok (.if_icmp .ge 9, 3) := by decide +kernel
theorem dX4_lasts_46 : decode cX4_lasts 46 = .ok (.iinc 3 (-1), 3) := by decide +kernel
theorem dX4_lasts_49 : decode cX4_lasts 49 = .ok (.goto (-17), 3) := by decide +kernel
theorem dX4_lasts_52 : decode cX4_lasts 52 = .ok (.iload_n 3, 1) := by decide +kernel
theorem dX4_lasts_53 : decode cX4_lasts 53 = .ok (.ireturn, 1) := by decide +kernel
theorem dX4_areRing_0 : decode cX4_areRing 0 = .ok (.iconst 0, 1) := by decide +kernel
theorem dX4_areRing_1 : decode cX4_areRing 1 = .ok (.istore_n 2, 1) := by decide +kernel
theorem dX4_areRing_2 : decode cX4_areRing 2 = .ok (.iconst 1, 1) := by decide +kernel
theorem dX4_areRing_3 : decode cX4_areRing 3 = .ok (.istore_n 3, 1) := by decide +kernel
theorem dX4_areRing_4 : decode cX4_areRing 4 = .ok (.iconst 0, 1) := by decide +kernel
theorem dX4_areRing_5 : decode cX4_areRing 5 = .ok (.istore 4, 2) := by decide +kernel
theorem dX4_areRing_7 : decode cX4_areRing 7 = .ok (.iload 4, 2) := by decide +kernel
theorem dX4_areRing_9 : decode cX4_areRing 9 = .ok (.aload_n 0, 1) := by decide +kernel
theorem dX4_areRing_10 : decode cX4_areRing 10 = .ok (.getfield 9, 3) := by decide +kernel
theorem dX4_areRing_13 : decode cX4_areRing 13 = .ok (.iconst 2, 1) := by decide +kernel
theorem dX4_areRing_14 : decode cX4_areRing 14 = .ok (.iaload, 1) := by decide +kernel
theorem dX4_areRing_15 : decode cX4_areRing 15 = .ok (.if_icmp .ge 55, 3) := by decide +kernel
theorem dX4_areRing_18 : decode cX4_areRing 18 = .ok (.iload_n 1, 1) := by decide +kernel
theorem dX4_areRing_19 : decode cX4_areRing 19 = .ok (.iload 4, 2) := by decide +kernel
theorem dX4_areRing_21 : decode cX4_areRing 21 = .ok (.invokestatic 239, 3) := by decide +kernel
theorem dX4_areRing_24 : decode cX4_areRing 24 = .ok (.ifCond .eq 15, 3) := by decide +kernel
theorem dX4_areRing_27 : decode cX4_areRing 27 = .ok (.iconst 1, 1) := by decide +kernel
theorem dX4_areRing_28 : decode cX4_areRing 28 = .ok (.aload_n 0, 1) := by decide +kernel
theorem dX4_areRing_29 : decode cX4_areRing 29 = .ok (.iload 4, 2) := by decide +kernel
theorem dX4_areRing_31 : decode cX4_areRing 31 = .ok (.iconst 2, 1) := by decide +kernel
theorem dX4_areRing_32 : decode cX4_areRing 32 = .ok (.invokevirtual 101, 3) := by decide +kernel
theorem dX4_areRing_35 : decode cX4_areRing 35 = .ok (.ishl, 1) := by decide +kernel
theorem dX4_areRing_36 : decode cX4_areRing 36 = .ok (.goto 4, 3) := by decide +kernel
theorem dX4_areRing_39 : decode cX4_areRing 39 = .ok (.iconst 0, 1) := by decide +kernel
theorem dX4_areRing_40 : decode cX4_areRing 40 = .ok (.istore 5, 2) := by decide +kernel
theorem dX4_areRing_42 : decode cX4_areRing 42 = .ok (.iload_n 3, 1) := by decide +kernel
theorem dX4_areRing_43 : decode cX4_areRing 43 = .ok (.ifCond .eq 14, 3) := by decide +kernel
theorem dX4_areRing_46 : decode cX4_areRing 46 = .ok (.iload_n 2, 1) := by decide +kernel
theorem dX4_areRing_47 : decode cX4_areRing 47 = .ok (.iload 5, 2) := by decide +kernel
theorem dX4_areRing_49 : decode cX4_areRing 49 = .ok (.iand, 1) := by decide +kernel
theorem dX4_areRing_50 : decode cX4_areRing 50 = .ok (.ifCond .ne 7, 3) := by decide +kernel
theorem dX4_areRing_53 : decode cX4_areRing 53 = .ok (.iconst 1, 1) := by decide +kernel
theorem dX4_areRing_54 : decode cX4_areRing 54 = .ok (.goto 4, 3) := by decide +kernel
theorem dX4_areRing_57 : decode cX4_areRing 57 = .ok (.iconst 0, 1) := by decide +kernel
theorem dX4_areRing_58 : decode cX4_areRing 58 = .ok (.istore_n 3, 1) := by decide +kernel
theorem dX4_areRing_59 : decode cX4_areRing 59 = .ok (.iload_n 2, 1) := by decide +kernel
theorem dX4_areRing_60 : decode cX4_areRing 60 = .ok (.iload 5, 2) := by decide +kernel
theorem dX4_areRing_62 : decode cX4_areRing 62 = .ok (.ior, 1) := by decide +kernel
theorem dX4_areRing_63 : decode cX4_areRing 63 = .ok (.istore_n 2, 1) := by decide +kernel
theorem dX4_areRing_64 : decode cX4_areRing 64 = .ok (.iinc 4 1, 3) := by decide +kernel
theorem dX4_areRing_67 : decode cX4_areRing 67 = .ok (.goto (-60), 3) := by decide +kernel
theorem dX4_areRing_70 : decode cX4_areRing 70 = .ok (.iload_n 3, 1) := by decide +kernel
theorem dX4_areRing_71 : decode cX4_areRing 71 = .ok (.ifCond .eq 14, 3) := by decide +kernel
theorem dX4_areRing_74 : decode cX4_areRing 74 = .ok (.iload_n 2, 1) := by decide +kernel
theorem dX4_areRing_75 : decode cX4_areRing 75 = .ok (.invokestatic 242, 3) := by decide +kernel
theorem dX4_areRing_78 : decode cX4_areRing 78 = .ok (.ifCond .eq 7, 3) := by decide +kernel
theorem dX4_areRing_81 : decode cX4_areRing 81 = .ok (.iconst 1, 1) := by decide +kernel
theorem dX4_areRing_82 : decode cX4_areRing 82 = .ok (.goto 4, 3) := by decide +kernel
theorem dX4_areRing_85 : decode cX4_areRing 85 = .ok (.iconst 0, 1) := by decide +kernel
theorem dX4_areRing_86 : decode cX4_areRing 86 = .ok (.ireturn, 1) := by decide +kernel
theorem dX4_stepBySteps_0 : decode cX4_stepBySteps 0 = .ok (.iconst (-1), 1) := by decide +kernel
theorem dX4_stepBySteps_1 : decode cX4_stepBySteps 1 = .ok (.istore_n 1, 1) := by decide +kernel
theorem dX4_stepBySteps_2 : decode cX4_stepBySteps 2 = .ok (.iconst 1, 1) := by decide +kernel
theorem dX4_stepBySteps_3 : decode cX4_stepBySteps 3 = .ok (.istore_n 2, 1) := by decide +kernel
theorem dX4_stepBySteps_4 : decode cX4_stepBySteps 4 = .ok (.iconst 0, 1) := by decide +kernel
theorem dX4_stepBySteps_5 : decode cX4_stepBySteps 5 = .ok (.istore_n 3, 1) := by decide +kernel
theorem dX4_stepBySteps_6 : decode cX4_stepBySteps 6 = .ok (.iload_n 3, 1) := by decide +kernel
theorem dX4_stepBySteps_7 : decode cX4_stepBySteps 7 = .ok (.bipush 12, 2) := by decide +kernel
theorem dX4_stepBySteps_9 : decode cX4_stepBySteps 9 = .ok (.if_icmp .ge 40, 3) := by decide +kernel
theorem dX4_stepBySteps_12 : decode cX4_stepBySteps 12 = .ok (.iload_n 0, 1) := by decide +kernel
theorem dX4_stepBySteps_13 : decode cX4_stepBySteps 13 = .ok (.iload_n 3, 1) := by decide +kernel
theorem dX4_stepBySteps_14 : decode cX4_stepBySteps 14 = .ok (.invokestatic 239, 3) := by decide +kernel
theorem dX4_stepBySteps_17 : decode cX4_stepBySteps 17 = .ok (.ifCond .eq 26, 3) := by decide +kernel
theorem dX4_stepBySteps_20 : decode cX4_stepBySteps 20 = .ok (.iload_n 2, 1) := by decide +kernel
theorem dX4_stepBySteps_21 : decode cX4_stepBySteps 21 = .ok (.ifCond .eq 18, 3) := by decide +kernel
theorem dX4_stepBySteps_24 : decode cX4_stepBySteps 24 = .ok (.iload_n 1, 1) := by decide +kernel
theorem dX4_stepBySteps_25 : decode cX4_stepBySteps 25 = .ok (.ifCond .lt 10, 3) := by decide +kernel
theorem dX4_stepBySteps_28 : decode cX4_stepBySteps 28 = .ok (.iload_n 3, 1) := by decide +kernel
theorem dX4_stepBySteps_29 : decode cX4_stepBySteps 29 = .ok (.iload_n 1, 1) := by decide +kernel
theorem dX4_stepBySteps_30 : decode cX4_stepBySteps 30 = .ok (.isub, 1) := by decide +kernel
theorem dX4_stepBySteps_31 : decode cX4_stepBySteps 31 = .ok (.iconst 3, 1) := by decide +kernel
theorem dX4_stepBySteps_32 : decode cX4_stepBySteps 32 = .ok (.if_icmp .ge 7, 3) := by decide +kernel
theorem dX4_stepBySteps_35 : decode cX4_stepBySteps 35 = .ok (.iconst 1, 1) := by decide +kernel
theorem dX4_stepBySteps_36 : decode cX4_stepBySteps 36 = .ok (.goto 4, 3) := by decide +kernel
theorem dX4_stepBySteps_39 : decode cX4_stepBySteps 39 = .ok (.iconst 0, 1) := by decide +kernel
theorem dX4_stepBySteps_40 : decode cX4_stepBySteps 40 = .ok (.istore_n 2, 1) := by decide +kernel
theorem dX4_stepBySteps_41 : decode cX4_stepBySteps 41 = .ok (.iload_n 3, 1) := by decide +kernel
theorem dX4_stepBySteps_42 : decode cX4_stepBySteps 42 = .ok (.istore_n 1, 1) := by decide +kernel
theorem dX4_stepBySteps_43 : decode cX4_stepBySteps 43 = .ok (.iinc 3 1, 3) := by decide +kernel
theorem dX4_stepBySteps_46 : decode cX4_stepBySteps 46 = .ok (.goto (-40), 3) := by decide +kernel
theorem dX4_stepBySteps_49 : decode cX4_stepBySteps 49 = .ok (.iload_n 2, 1) := by decide +kernel
theorem dX4_stepBySteps_50 : decode cX4_stepBySteps 50 = .ok (.ireturn, 1) := by decide +kernel
theorem dX4_greatest_0 : decode cX4_greatest 0 = .ok (.iconst 0, 1) := by decide +kernel
theorem dX4_greatest_1 : decode cX4_greatest 1 = .ok (.istore_n 1, 1) := by decide +kernel
theorem dX4_greatest_2 : decode cX4_greatest 2 = .ok (.iconst 1, 1) := by decide +kernel
theorem dX4_greatest_3 : decode cX4_greatest 3 = .ok (.istore_n 2, 1) := by decide +kernel
theorem dX4_greatest_4 : decode cX4_greatest 4 = .ok (.iload_n 2, 1) := by decide +kernel
theorem dX4_greatest_5 : decode cX4_greatest 5 = .ok (.iconst 1, 1) := by decide +kernel
theorem dX4_greatest_6 : decode cX4_greatest 6 = .ok (.aload_n 0, 1) := by decide +kernel
theorem dX4_greatest_7 : decode cX4_greatest 7 = .ok (.getfield 9, 3) := by decide +kernel
theorem dX4_greatest_10 : decode cX4_greatest 10 = .ok (.iconst 2, 1) := by decide +kernel
theorem dX4_greatest_11 : decode cX4_greatest 11 = .ok (.iaload, 1) := by decide +kernel
theorem dX4_greatest_12 : decode cX4_greatest 12 = .ok (.ishl, 1) := by decide +kernel
theorem dX4_greatest_13 : decode cX4_greatest 13 = .ok (.if_icmp .ge 34, 3) := by decide +kernel
theorem dX4_greatest_16 : decode cX4_greatest 16 = .ok (.iload_n 2, 1) := by decide +kernel
theorem dX4_greatest_17 : decode cX4_greatest 17 = .ok (.invokestatic 182, 3) := by decide +kernel
theorem dX4_greatest_20 : decode cX4_greatest 20 = .ok (.iload_n 1, 1) := by decide +kernel
theorem dX4_greatest_21 : decode cX4_greatest 21 = .ok (.invokestatic 182, 3) := by decide +kernel
theorem dX4_greatest_24 : decode cX4_greatest 24 = .ok (.if_icmp .le 15, 3) := by decide +kernel
theorem dX4_greatest_27 : decode cX4_greatest 27 = .ok (.aload_n 0, 1) := by decide +kernel
theorem dX4_greatest_28 : decode cX4_greatest 28 = .ok (.iload_n 2, 1) := by decide +kernel
theorem dX4_greatest_29 : decode cX4_greatest 29 = .ok (.invokevirtual 245, 3) := by decide +kernel
theorem dX4_greatest_32 : decode cX4_greatest 32 = .ok (.ifCond .eq 7, 3) := by decide +kernel
theorem dX4_greatest_35 : decode cX4_greatest 35 = .ok (.iload_n 2, 1) := by decide +kernel
theorem dX4_greatest_36 : decode cX4_greatest 36 = .ok (.goto 4, 3) := by decide +kernel
theorem dX4_greatest_39 : decode cX4_greatest 39 = .ok (.iload_n 1, 1) := by decide +kernel
theorem dX4_greatest_40 : decode cX4_greatest 40 = .ok (.istore_n 1, 1) := by decide +kernel
theorem dX4_greatest_41 : decode cX4_greatest 41 = .ok (.iinc 2 1, 3) := by decide +kernel
theorem dX4_greatest_44 : decode cX4_greatest 44 = .ok (.goto (-40), 3) := by decide +kernel
theorem dX4_greatest_47 : decode cX4_greatest 47 = .ok (.iload_n 1, 1) := by decide +kernel
theorem dX4_greatest_48 : decode cX4_greatest 48 = .ok (.ireturn, 1) := by decide +kernel
theorem dX4_ring_0 : decode cX4_ring 0 = .ok (.aload_n 0, 1) := by decide +kernel
theorem dX4_ring_1 : decode cX4_ring 1 = .ok (.invokevirtual 248, 3) := by decide +kernel
theorem dX4_ring_4 : decode cX4_ring 4 = .ok (.invokestatic 182, 3) := by decide +kernel
theorem dX4_ring_7 : decode cX4_ring 7 = .ok (.ireturn, 1) := by decide +kernel
theorem dX4_rings_0 : decode cX4_rings 0 = .ok (.aload_n 0, 1) := by decide +kernel
theorem dX4_rings_1 : decode cX4_rings 1 = .ok (.invokevirtual 248, 3) := by decide +kernel
theorem dX4_rings_4 : decode cX4_rings 4 = .ok (.ireturn, 1) := by decide +kernel
theorem dX4_peals_0 : decode cX4_peals 0 = .ok (.iconst 0, 1) := by decide +kernel
theorem dX4_peals_1 : decode cX4_peals 1 = .ok (.istore_n 1, 1) := by decide +kernel
theorem dX4_peals_2 : decode cX4_peals 2 = .ok (.iconst 1, 1) := by decide +kernel
theorem dX4_peals_3 : decode cX4_peals 3 = .ok (.istore_n 2, 1) := by decide +kernel
theorem dX4_peals_4 : decode cX4_peals 4 = .ok (.iload_n 2, 1) := by decide +kernel
theorem dX4_peals_5 : decode cX4_peals 5 = .ok (.iconst 1, 1) := by decide +kernel
theorem dX4_peals_6 : decode cX4_peals 6 = .ok (.aload_n 0, 1) := by decide +kernel
theorem dX4_peals_7 : decode cX4_peals 7 = .ok (.getfield 9, 3) := by decide +kernel
theorem dX4_peals_10 : decode cX4_peals 10 = .ok (.iconst 2, 1) := by decide +kernel
theorem dX4_peals_11 : decode cX4_peals 11 = .ok (.iaload, 1) := by decide +kernel
theorem dX4_peals_12 : decode cX4_peals 12 = .ok (.ishl, 1) := by decide +kernel
theorem dX4_peals_13 : decode cX4_peals 13 = .ok (.if_icmp .ge 25, 3) := by decide +kernel
theorem dX4_peals_16 : decode cX4_peals 16 = .ok (.iload_n 1, 1) := by decide +kernel
theorem dX4_peals_17 : decode cX4_peals 17 = .ok (.aload_n 0, 1) := by decide +kernel
theorem dX4_peals_18 : decode cX4_peals 18 = .ok (.iload_n 2, 1) := by decide +kernel
theorem dX4_peals_19 : decode cX4_peals 19 = .ok (.invokevirtual 245, 3) := by decide +kernel
theorem dX4_peals_22 : decode cX4_peals 22 = .ok (.ifCond .eq 7, 3) := by decide +kernel
theorem dX4_peals_25 : decode cX4_peals 25 = .ok (.iconst 1, 1) := by decide +kernel
theorem dX4_peals_26 : decode cX4_peals 26 = .ok (.goto 4, 3) := by decide +kernel
theorem dX4_peals_29 : decode cX4_peals 29 = .ok (.iconst 0, 1) := by decide +kernel
theorem dX4_peals_30 : decode cX4_peals 30 = .ok (.iadd, 1) := by decide +kernel
theorem dX4_peals_31 : decode cX4_peals 31 = .ok (.istore_n 1, 1) := by decide +kernel
theorem dX4_peals_32 : decode cX4_peals 32 = .ok (.iinc 2 1, 3) := by decide +kernel
theorem dX4_peals_35 : decode cX4_peals 35 = .ok (.goto (-31), 3) := by decide +kernel
theorem dX4_peals_38 : decode cX4_peals 38 = .ok (.iload_n 1, 1) := by decide +kernel
theorem dX4_peals_39 : decode cX4_peals 39 = .ok (.ireturn, 1) := by decide +kernel
theorem dX4_longest_0 : decode cX4_longest 0 = .ok (.iconst 0, 1) := by decide +kernel
theorem dX4_longest_1 : decode cX4_longest 1 = .ok (.istore_n 1, 1) := by decide +kernel
theorem dX4_longest_2 : decode cX4_longest 2 = .ok (.iconst 0, 1) := by decide +kernel
theorem dX4_longest_3 : decode cX4_longest 3 = .ok (.istore_n 2, 1) := by decide +kernel
theorem dX4_longest_4 : decode cX4_longest 4 = .ok (.bipush (-3), 2) := by decide +kernel
theorem dX4_longest_6 : decode cX4_longest 6 = .ok (.istore_n 3, 1) := by decide +kernel
theorem dX4_longest_7 : decode cX4_longest 7 = .ok (.iconst 0, 1) := by decide +kernel
theorem dX4_longest_8 : decode cX4_longest 8 = .ok (.istore 4, 2) := by decide +kernel
theorem dX4_longest_10 : decode cX4_longest 10 = .ok (.iload 4, 2) := by decide +kernel
theorem dX4_longest_12 : decode cX4_longest 12 = .ok (.bipush 12, 2) := by decide +kernel
theorem dX4_longest_14 : decode cX4_longest 14 = .ok (.if_icmp .ge 43, 3) := by decide +kernel
theorem dX4_longest_17 : decode cX4_longest 17 = .ok (.iload_n 0, 1) := by decide +kernel
theorem dX4_longest_18 : decode cX4_longest 18 = .ok (.iload 4, 2) := by decide +kernel
theorem dX4_longest_20 : decode cX4_longest 20 = .ok (.invokestatic 239, 3) := by decide +kernel
theorem dX4_longest_23 : decode cX4_longest 23 = .ok (.ifCond .eq 28, 3) := by decide +kernel
theorem dX4_longest_26 : decode cX4_longest 26 = .ok (.iload 4, 2) := by decide +kernel
theorem dX4_longest_28 : decode cX4_longest 28 = .ok (.iload_n 3, 1) := by decide +kernel
theorem dX4_longest_29 : decode cX4_longest 29 = .ok (.isub, 1) := by decide +kernel
theorem dX4_longest_30 : decode cX4_longest 30 = .ok (.iconst 3, 1) := by decide +kernel
theorem dX4_longest_31 : decode cX4_longest 31 = .ok (.if_icmp .ge 9, 3) := by decide +kernel
theorem dX4_longest_34 : decode cX4_longest 34 = .ok (.iload_n 2, 1) := by decide +kernel
theorem dX4_longest_35 : decode cX4_longest 35 = .ok (.iconst 1, 1) := by decide +kernel
theorem dX4_longest_36 : decode cX4_longest 36 = .ok (.iadd, 1) := by decide +kernel
theorem dX4_longest_37 : decode cX4_longest 37 = .ok (.goto 4, 3) := by decide +kernel
theorem dX4_longest_40 : decode cX4_longest 40 = .ok (.iconst 1, 1) := by decide +kernel
theorem dX4_longest_41 : decode cX4_longest 41 = .ok (.istore_n 2, 1) := by decide +kernel
theorem dX4_longest_42 : decode cX4_longest 42 = .ok (.iload 4, 2) := by decide +kernel
theorem dX4_longest_44 : decode cX4_longest 44 = .ok (.istore_n 3, 1) := by decide +kernel
theorem dX4_longest_45 : decode cX4_longest 45 = .ok (.iload_n 1, 1) := by decide +kernel
theorem dX4_longest_46 : decode cX4_longest 46 = .ok (.iload_n 2, 1) := by decide +kernel
theorem dX4_longest_47 : decode cX4_longest 47 = .ok (.invokestatic 132, 3) := by decide +kernel
theorem dX4_longest_50 : decode cX4_longest 50 = .ok (.istore_n 1, 1) := by decide +kernel
theorem dX4_longest_51 : decode cX4_longest 51 = .ok (.iinc 4 1, 3) := by decide +kernel
theorem dX4_longest_54 : decode cX4_longest 54 = .ok (.goto (-44), 3) := by decide +kernel
theorem dX4_longest_57 : decode cX4_longest 57 = .ok (.iload_n 1, 1) := by decide +kernel
theorem dX4_longest_58 : decode cX4_longest 58 = .ok (.ireturn, 1) := by decide +kernel
theorem dX4_wanted_0 : decode cX4_wanted 0 = .ok (.iconst 0, 1) := by decide +kernel
theorem dX4_wanted_1 : decode cX4_wanted 1 = .ok (.istore_n 1, 1) := by decide +kernel
theorem dX4_wanted_2 : decode cX4_wanted 2 = .ok (.iconst 0, 1) := by decide +kernel
theorem dX4_wanted_3 : decode cX4_wanted 3 = .ok (.istore_n 2, 1) := by decide +kernel
theorem dX4_wanted_4 : decode cX4_wanted 4 = .ok (.iload_n 2, 1) := by decide +kernel
theorem dX4_wanted_5 : decode cX4_wanted 5 = .ok (.aload_n 0, 1) := by decide +kernel
theorem dX4_wanted_6 : decode cX4_wanted 6 = .ok (.getfield 9, 3) := by decide +kernel
theorem dX4_wanted_9 : decode cX4_wanted 9 = .ok (.iconst 2, 1) := by decide +kernel
theorem dX4_wanted_10 : decode cX4_wanted 10 = .ok (.iaload, 1) := by decide +kernel
theorem dX4_wanted_11 : decode cX4_wanted 11 = .ok (.if_icmp .ge 20, 3) := by decide +kernel
theorem dX4_wanted_14 : decode cX4_wanted 14 = .ok (.iload_n 1, 1) := by decide +kernel
theorem dX4_wanted_15 : decode cX4_wanted 15 = .ok (.iconst 1, 1) := by decide +kernel
theorem dX4_wanted_16 : decode cX4_wanted 16 = .ok (.aload_n 0, 1) := by decide +kernel
theorem dX4_wanted_17 : decode cX4_wanted 17 = .ok (.iload_n 2, 1) := by decide +kernel
theorem dX4_wanted_18 : decode cX4_wanted 18 = .ok (.iconst 2, 1) := by decide +kernel
theorem dX4_wanted_19 : decode cX4_wanted 19 = .ok (.invokevirtual 101, 3) := by decide +kernel
theorem dX4_wanted_22 : decode cX4_wanted 22 = .ok (.ishl, 1) := by decide +kernel
theorem dX4_wanted_23 : decode cX4_wanted 23 = .ok (.ior, 1) := by decide +kernel
theorem dX4_wanted_24 : decode cX4_wanted 24 = .ok (.istore_n 1, 1) := by decide +kernel
theorem dX4_wanted_25 : decode cX4_wanted 25 = .ok (.iinc 2 1, 3) := by decide +kernel
theorem dX4_wanted_28 : decode cX4_wanted 28 = .ok (.goto (-24), 3) := by decide +kernel
theorem dX4_wanted_31 : decode cX4_wanted 31 = .ok (.iconst 0, 1) := by decide +kernel
theorem dX4_wanted_32 : decode cX4_wanted 32 = .ok (.istore_n 2, 1) := by decide +kernel
theorem dX4_wanted_33 : decode cX4_wanted 33 = .ok (.iconst 1, 1) := by decide +kernel
theorem dX4_wanted_34 : decode cX4_wanted 34 = .ok (.istore_n 3, 1) := by decide +kernel
theorem dX4_wanted_35 : decode cX4_wanted 35 = .ok (.iload_n 3, 1) := by decide +kernel
theorem dX4_wanted_36 : decode cX4_wanted 36 = .ok (.bipush 12, 2) := by decide +kernel
theorem dX4_wanted_38 : decode cX4_wanted 38 = .ok (.if_icmp .ge 34, 3) := by decide +kernel
theorem dX4_wanted_41 : decode cX4_wanted 41 = .ok (.iload_n 1, 1) := by decide +kernel
theorem dX4_wanted_42 : decode cX4_wanted 42 = .ok (.iconst 1, 1) := by decide +kernel
theorem dX4_wanted_43 : decode cX4_wanted 43 = .ok (.iload_n 3, 1) := by decide +kernel
theorem dX4_wanted_44 : decode cX4_wanted 44 = .ok (.ishl, 1) := by decide +kernel
theorem dX4_wanted_45 : decode cX4_wanted 45 = .ok (.ior, 1) := by decide +kernel
theorem dX4_wanted_46 : decode cX4_wanted 46 = .ok (.invokestatic 251, 3) := by decide +kernel
theorem dX4_wanted_49 : decode cX4_wanted 49 = .ok (.iload_n 1, 1) := by decide +kernel
theorem dX4_wanted_50 : decode cX4_wanted 50 = .ok (.iconst 1, 1) := by decide +kernel
theorem dX4_wanted_51 : decode cX4_wanted 51 = .ok (.iload_n 2, 1) := by decide +kernel
theorem dX4_wanted_52 : decode cX4_wanted 52 = .ok (.ishl, 1) := by decide +kernel
theorem dX4_wanted_53 : decode cX4_wanted 53 = .ok (.ior, 1) := by decide +kernel
theorem dX4_wanted_54 : decode cX4_wanted 54 = .ok (.invokestatic 251, 3) := by decide +kernel
theorem dX4_wanted_57 : decode cX4_wanted 57 = .ok (.if_icmp .le 7, 3) := by decide +kernel
theorem dX4_wanted_60 : decode cX4_wanted 60 = .ok (.iload_n 3, 1) := by decide +kernel
theorem dX4_wanted_61 : decode cX4_wanted 61 = .ok (.goto 4, 3) := by decide +kernel
theorem dX4_wanted_64 : decode cX4_wanted 64 = .ok (.iload_n 2, 1) := by decide +kernel
theorem dX4_wanted_65 : decode cX4_wanted 65 = .ok (.istore_n 2, 1) := by decide +kernel
theorem dX4_wanted_66 : decode cX4_wanted 66 = .ok (.iinc 3 1, 3) := by decide +kernel
theorem dX4_wanted_69 : decode cX4_wanted 69 = .ok (.goto (-34), 3) := by decide +kernel
theorem dX4_wanted_72 : decode cX4_wanted 72 = .ok (.iload_n 2, 1) := by decide +kernel
theorem dX4_wanted_73 : decode cX4_wanted 73 = .ok (.ireturn, 1) := by decide +kernel
theorem dX4_changes_0 : decode cX4_changes 0 = .ok (.iload_n 1, 1) := by decide +kernel
theorem dX4_changes_1 : decode cX4_changes 1 = .ok (.iconst 0, 1) := by decide +kernel
theorem dX4_changes_2 : decode cX4_changes 2 = .ok (.bipush 20, 2) := by decide +kernel
theorem dX4_changes_4 : decode cX4_changes 4 = .ok (.invokestatic 74, 3) := by decide +kernel
theorem dX4_changes_7 : decode cX4_changes 7 = .ok (.ifCond .ne 11, 3) := by decide +kernel
theorem dX4_changes_10 : decode cX4_changes 10 = .ok (.aload_n 0, 1) := by decide +kernel
theorem dX4_changes_11 : decode cX4_changes 11 = .ok (.ldc 69, 2) := by decide +kernel
theorem dX4_changes_13 : decode cX4_changes 13 = .ok (.invokevirtual 88, 3) := by decide +kernel
theorem dX4_changes_16 : decode cX4_changes 16 = .ok (.i2l, 1) := by decide +kernel
theorem dX4_changes_17 : decode cX4_changes 17 = .ok (.lreturn, 1) := by decide +kernel
theorem dX4_changes_18 : decode cX4_changes 18 = .ok (.lconst 1, 1) := by decide +kernel
theorem dX4_changes_19 : decode cX4_changes 19 = .ok (.lstore_n 2, 1) := by decide +kernel
theorem dX4_changes_20 : decode cX4_changes 20 = .ok (.iconst 2, 1) := by decide +kernel
theorem dX4_changes_21 : decode cX4_changes 21 = .ok (.istore 4, 2) := by decide +kernel
theorem dX4_changes_23 : decode cX4_changes 23 = .ok (.iload 4, 2) := by decide +kernel
theorem dX4_changes_25 : decode cX4_changes 25 = .ok (.iload_n 1, 1) := by decide +kernel
theorem dX4_changes_26 : decode cX4_changes 26 = .ok (.if_icmp .gt 15, 3) := by decide +kernel
theorem dX4_changes_29 : decode cX4_changes 29 = .ok (.lload_n 2, 1) := by decide +kernel
theorem dX4_changes_30 : decode cX4_changes 30 = .ok (.iload 4, 2) := by decide +kernel
theorem dX4_changes_32 : decode cX4_changes 32 = .ok (.i2l, 1) := by decide +kernel
theorem dX4_changes_33 : decode cX4_changes 33 = .ok (.lmul, 1) := by decide +kernel
theorem dX4_changes_34 : decode cX4_changes 34 = .ok (.lstore_n 2, 1) := by decide +kernel
theorem dX4_changes_35 : decode cX4_changes 35 = .ok (.iinc 4 1, 3) := by decide +kernel
theorem dX4_changes_38 : decode cX4_changes 38 = .ok (.goto (-15), 3) := by decide +kernel
theorem dX4_changes_41 : decode cX4_changes 41 = .ok (.lload_n 2, 1) := by decide +kernel
theorem dX4_changes_42 : decode cX4_changes 42 = .ok (.lreturn, 1) := by decide +kernel
theorem dX4_drawn_0 : decode cX4_drawn 0 = .ok (.aload_n 0, 1) := by decide +kernel
theorem dX4_drawn_1 : decode cX4_drawn 1 = .ok (.getfield 9, 3) := by decide +kernel
theorem dX4_drawn_4 : decode cX4_drawn 4 = .ok (.iconst 3, 1) := by decide +kernel
theorem dX4_drawn_5 : decode cX4_drawn 5 = .ok (.aload_n 0, 1) := by decide +kernel
theorem dX4_drawn_6 : decode cX4_drawn 6 = .ok (.getfield 9, 3) := by decide +kernel
theorem dX4_drawn_9 : decode cX4_drawn 9 = .ok (.iconst 3, 1) := by decide +kernel
theorem dX4_drawn_10 : decode cX4_drawn 10 = .ok (.iaload, 1) := by decide +kernel
theorem dX4_drawn_11 : decode cX4_drawn 11 = .ok (.ldc 254, 2) := by decide +kernel
theorem dX4_drawn_13 : decode cX4_drawn 13 = .ok (.imul, 1) := by decide +kernel
theorem dX4_drawn_14 : decode cX4_drawn 14 = .ok (.sipush 12345, 3) := by decide +kernel
theorem dX4_drawn_17 : decode cX4_drawn 17 = .ok (.iadd, 1) := by decide +kernel
theorem dX4_drawn_18 : decode cX4_drawn 18 = .ok (.iastore, 1) := by decide +kernel
theorem dX4_drawn_19 : decode cX4_drawn 19 = .ok (.aload_n 0, 1) := by decide +kernel
theorem dX4_drawn_20 : decode cX4_drawn 20 = .ok (.getfield 9, 3) := by decide +kernel
theorem dX4_drawn_23 : decode cX4_drawn 23 = .ok (.iconst 3, 1) := by decide +kernel
theorem dX4_drawn_24 : decode cX4_drawn 24 = .ok (.iaload, 1) := by decide +kernel
theorem dX4_drawn_25 : decode cX4_drawn 25 = .ok (.bipush 8, 2) := by decide +kernel
theorem dX4_drawn_27 : decode cX4_drawn 27 = .ok (.iushr, 1) := by decide +kernel
theorem dX4_drawn_28 : decode cX4_drawn 28 = .ok (.iload_n 1, 1) := by decide +kernel
theorem dX4_drawn_29 : decode cX4_drawn 29 = .ok (.irem, 1) := by decide +kernel
theorem dX4_drawn_30 : decode cX4_drawn 30 = .ok (.ireturn, 1) := by decide +kernel
theorem dX4_thunder_0 : decode cX4_thunder 0 = .ok (.iload_n 1, 1) := by decide +kernel
theorem dX4_thunder_1 : decode cX4_thunder 1 = .ok (.iconst 1, 1) := by decide +kernel
theorem dX4_thunder_2 : decode cX4_thunder 2 = .ok (.bipush 20, 2) := by decide +kernel
theorem dX4_thunder_4 : decode cX4_thunder 4 = .ok (.invokestatic 74, 3) := by decide +kernel
theorem dX4_thunder_7 : decode cX4_thunder 7 = .ok (.ifCond .ne 10, 3) := by decide +kernel
theorem dX4_thunder_10 : decode cX4_thunder 10 = .ok (.aload_n 0, 1) := by decide +kernel
theorem dX4_thunder_11 : decode cX4_thunder 11 = .ok (.ldc 69, 2) := by decide +kernel
theorem dX4_thunder_13 : decode cX4_thunder 13 = .ok (.invokevirtual 88, 3) := by decide +kernel
theorem dX4_thunder_16 : decode cX4_thunder 16 = .ok (.ireturn, 1) := by decide +kernel
theorem dX4_thunder_17 : decode cX4_thunder 17 = .ok (.aload_n 0, 1) := by decide +kernel
theorem dX4_thunder_18 : decode cX4_thunder 18 = .ok (.getfield 9, 3) := by decide +kernel
theorem dX4_thunder_21 : decode cX4_thunder 21 = .ok (.iconst 2, 1) := by decide +kernel
theorem dX4_thunder_22 : decode cX4_thunder 22 = .ok (.iaload, 1) := by decide +kernel
theorem dX4_thunder_23 : decode cX4_thunder 23 = .ok (.ifCond .eq 16, 3) := by decide +kernel
theorem dX4_thunder_26 : decode cX4_thunder 26 = .ok (.aload_n 0, 1) := by decide +kernel
theorem dX4_thunder_27 : decode cX4_thunder 27 = .ok (.getfield 9, 3) := by decide +kernel
theorem dX4_thunder_30 : decode cX4_thunder 30 = .ok (.iconst 0, 1) := by decide +kernel
theorem dX4_thunder_31 : decode cX4_thunder 31 = .ok (.iaload, 1) := by decide +kernel
theorem dX4_thunder_32 : decode cX4_thunder 32 = .ok (.iload_n 1, 1) := by decide +kernel
theorem dX4_thunder_33 : decode cX4_thunder 33 = .ok (.iadd, 1) := by decide +kernel
theorem dX4_thunder_34 : decode cX4_thunder 34 = .ok (.ldc 172, 2) := by decide +kernel
theorem dX4_thunder_36 : decode cX4_thunder 36 = .ok (.if_icmp .le 10, 3) := by decide +kernel
theorem dX4_thunder_39 : decode cX4_thunder 39 = .ok (.aload_n 0, 1) := by decide +kernel
theorem dX4_thunder_40 : decode cX4_thunder 40 = .ok (.ldc 173, 2) := by decide +kernel
theorem dX4_thunder_42 : decode cX4_thunder 42 = .ok (.invokevirtual 88, 3) := by decide +kernel
theorem dX4_thunder_45 : decode cX4_thunder 45 = .ok (.ireturn, 1) := by decide +kernel
theorem dX4_thunder_46 : decode cX4_thunder 46 = .ok (.iconst 0, 1) := by decide +kernel
theorem dX4_thunder_47 : decode cX4_thunder 47 = .ok (.istore_n 2, 1) := by decide +kernel
theorem dX4_thunder_48 : decode cX4_thunder 48 = .ok (.iload_n 2, 1) := by decide +kernel
theorem dX4_thunder_49 : decode cX4_thunder 49 = .ok (.iload_n 1, 1) := by decide +kernel
theorem dX4_thunder_50 : decode cX4_thunder 50 = .ok (.if_icmp .ge 61, 3) := by decide +kernel
theorem dX4_thunder_53 : decode cX4_thunder 53 = .ok (.aload_n 0, 1) := by decide +kernel
theorem dX4_thunder_54 : decode cX4_thunder 54 = .ok (.aload_n 0, 1) := by decide +kernel
theorem dX4_thunder_55 : decode cX4_thunder 55 = .ok (.getfield 9, 3) := by decide +kernel
theorem dX4_thunder_58 : decode cX4_thunder 58 = .ok (.iconst 2, 1) := by decide +kernel
theorem dX4_thunder_59 : decode cX4_thunder 59 = .ok (.iaload, 1) := by decide +kernel
theorem dX4_thunder_60 : decode cX4_thunder 60 = .ok (.invokevirtual 255, 3) := by decide +kernel
theorem dX4_thunder_63 : decode cX4_thunder 63 = .ok (.istore_n 3, 1) := by decide +kernel
theorem dX4_thunder_64 : decode cX4_thunder 64 = .ok (.aload_n 0, 1) := by decide +kernel
theorem dX4_thunder_65 : decode cX4_thunder 65 = .ok (.bipush 64, 2) := by decide +kernel
theorem dX4_thunder_67 : decode cX4_thunder 67 = .ok (.invokevirtual 255, 3) := by decide +kernel
theorem dX4_thunder_70 : decode cX4_thunder 70 = .ok (.istore 4, 2) := by decide +kernel
theorem dX4_thunder_72 : decode cX4_thunder 72 = .ok (.aload_n 0, 1) := by decide +kernel
theorem dX4_thunder_73 : decode cX4_thunder 73 = .ok (.getfield 9, 3) := by decide +kernel
theorem dX4_thunder_76 : decode cX4_thunder 76 = .ok (.iload_n 3, 1) := by decide +kernel
theorem dX4_thunder_77 : decode cX4_thunder 77 = .ok (.iconst 1, 1) := by decide +kernel
theorem dX4_thunder_78 : decode cX4_thunder 78 = .ok (.invokestatic 98, 3) := by decide +kernel
theorem dX4_thunder_81 : decode cX4_thunder 81 = .ok (.aload_n 0, 1) := by decide +kernel
theorem dX4_thunder_82 : decode cX4_thunder 82 = .ok (.iload_n 3, 1) := by decide +kernel
theorem dX4_thunder_83 : decode cX4_thunder 83 = .ok (.invokevirtual 115, 3) := by decide +kernel
theorem dX4_thunder_86 : decode cX4_thunder 86 = .ok (.ifCond .eq 12, 3) := by decide +kernel
theorem dX4_thunder_89 : decode cX4_thunder 89 = .ok (.aload_n 0, 1) := by decide +kernel
theorem dX4_thunder_90 : decode cX4_thunder 90 = .ok (.iload_n 3, 1) := by decide +kernel
theorem dX4_thunder_91 : decode cX4_thunder 91 = .ok (.iconst 1, 1) := by decide +kernel
theorem dX4_thunder_92 : decode cX4_thunder 92 = .ok (.invokevirtual 101, 3) := by decide +kernel
theorem dX4_thunder_95 : decode cX4_thunder 95 = .ok (.goto 5, 3) := by decide +kernel
theorem dX4_thunder_98 : decode cX4_thunder 98 = .ok (.iload 4, 2) := by decide +kernel
theorem dX4_thunder_100 : decode cX4_thunder 100 = .ok (.iastore, 1) := by decide +kernel
theorem dX4_thunder_101 : decode cX4_thunder 101 = .ok (.aload_n 0, 1) := by decide +kernel
theorem dX4_thunder_102 : decode cX4_thunder 102 = .ok (.invokevirtual 169, 3) := by decide +kernel
theorem dX4_thunder_105 : decode cX4_thunder 105 = .ok (.iinc 2 1, 3) := by decide +kernel
theorem dX4_thunder_108 : decode cX4_thunder 108 = .ok (.goto (-60), 3) := by decide +kernel
theorem dX4_thunder_111 : decode cX4_thunder 111 = .ok (.aload_n 0, 1) := by decide +kernel
theorem dX4_thunder_112 : decode cX4_thunder 112 = .ok (.invokevirtual 178, 3) := by decide +kernel
theorem dX4_thunder_115 : decode cX4_thunder 115 = .ok (.invokestatic 182, 3) := by decide +kernel
theorem dX4_thunder_118 : decode cX4_thunder 118 = .ok (.ireturn, 1) := by decide +kernel
theorem dX4_seed_0 : decode cX4_seed 0 = .ok (.aload_n 0, 1) := by decide +kernel
theorem dX4_seed_1 : decode cX4_seed 1 = .ok (.iconst 3, 1) := by decide +kernel
theorem dX4_seed_2 : decode cX4_seed 2 = .ok (.iload_n 1, 1) := by decide +kernel
theorem dX4_seed_3 : decode cX4_seed 3 = .ok (.invokevirtual 91, 3) := by decide +kernel
theorem dX4_seed_6 : decode cX4_seed 6 = .ok (.ireturn, 1) := by decide +kernel
theorem dX4_feed_0 : decode cX4_feed 0 = .ok (.iload_n 2, 1) := by decide +kernel
theorem dX4_feed_1 : decode cX4_feed 1 = .ok (.iconst 1, 1) := by decide +kernel
theorem dX4_feed_2 : decode cX4_feed 2 = .ok (.iconst 4, 1) := by decide +kernel
theorem dX4_feed_3 : decode cX4_feed 3 = .ok (.invokestatic 74, 3) := by decide +kernel
theorem dX4_feed_6 : decode cX4_feed 6 = .ok (.ifCond .ne 10, 3) := by decide +kernel
theorem dX4_feed_9 : decode cX4_feed 9 = .ok (.aload_n 0, 1) := by decide +kernel
theorem dX4_feed_10 : decode cX4_feed 10 = .ok (.ldc 69, 2) := by decide +kernel
theorem dX4_feed_12 : decode cX4_feed 12 = .ok (.invokevirtual 88, 3) := by decide +kernel
theorem dX4_feed_15 : decode cX4_feed 15 = .ok (.ireturn, 1) := by decide +kernel
theorem dX4_feed_16 : decode cX4_feed 16 = .ok (.aload_n 0, 1) := by decide +kernel
theorem dX4_feed_17 : decode cX4_feed 17 = .ok (.getfield 258, 3) := by decide +kernel
theorem dX4_feed_20 : decode cX4_feed 20 = .ok (.iload_n 2, 1) := by decide +kernel
theorem dX4_feed_21 : decode cX4_feed 21 = .ok (.iadd, 1) := by decide +kernel
theorem dX4_feed_22 : decode cX4_feed 22 = .ok (.bipush 120, 2) := by decide +kernel
theorem dX4_feed_24 : decode cX4_feed 24 = .ok (.if_icmp .le 10, 3) := by decide +kernel
theorem dX4_feed_27 : decode cX4_feed 27 = .ok (.aload_n 0, 1) := by decide +kernel
theorem dX4_feed_28 : decode cX4_feed 28 = .ok (.ldc 107, 2) := by decide +kernel
theorem dX4_feed_30 : decode cX4_feed 30 = .ok (.invokevirtual 88, 3) := by decide +kernel
theorem dX4_feed_33 : decode cX4_feed 33 = .ok (.ireturn, 1) := by decide +kernel
theorem dX4_feed_34 : decode cX4_feed 34 = .ok (.iload_n 2, 1) := by decide +kernel
theorem dX4_feed_35 : decode cX4_feed 35 = .ok (.iconst 1, 1) := by decide +kernel
theorem dX4_feed_36 : decode cX4_feed 36 = .ok (.isub, 1) := by decide +kernel
theorem dX4_feed_37 : decode cX4_feed 37 = .ok (.istore_n 3, 1) := by decide +kernel
theorem dX4_feed_38 : decode cX4_feed 38 = .ok (.iload_n 3, 1) := by decide +kernel
theorem dX4_feed_39 : decode cX4_feed 39 = .ok (.ifCond .lt 38, 3) := by decide +kernel
theorem dX4_feed_42 : decode cX4_feed 42 = .ok (.aload_n 0, 1) := by decide +kernel
theorem dX4_feed_43 : decode cX4_feed 43 = .ok (.getfield 31, 3) := by decide +kernel
theorem dX4_feed_46 : decode cX4_feed 46 = .ok (.aload_n 0, 1) := by decide +kernel
theorem dX4_feed_47 : decode cX4_feed 47 = .ok (.getfield 258, 3) := by decide +kernel
theorem dX4_feed_50 : decode cX4_feed 50 = .ok (.iload_n 1, 1) := by decide +kernel
theorem dX4_feed_51 : decode cX4_feed 51 = .ok (.bipush 8, 2) := by decide +kernel
theorem dX4_feed_53 : decode cX4_feed 53 = .ok (.iload_n 3, 1) := by decide +kernel
theorem dX4_feed_54 : decode cX4_feed 54 = .ok (.imul, 1) := by decide +kernel
theorem dX4_feed_55 : decode cX4_feed 55 = .ok (.ishr, 1) := by decide +kernel
theorem dX4_feed_56 : decode cX4_feed 56 = .ok (.sipush 255, 3) := by decide +kernel
theorem dX4_feed_59 : decode cX4_feed 59 = .ok (.iand, 1) := by decide +kernel
theorem dX4_feed_60 : decode cX4_feed 60 = .ok (.iastore, 1) := by decide +kernel
theorem dX4_feed_61 : decode cX4_feed 61 = .ok (.aload_n 0, 1) := by decide +kernel
theorem dX4_feed_62 : decode cX4_feed 62 = .ok (.dup, 1) := by decide +kernel
theorem dX4_feed_63 : decode cX4_feed 63 = .ok (.getfield 258, 3) := by decide +kernel
theorem dX4_feed_66 : decode cX4_feed 66 = .ok (.iconst 1, 1) := by decide +kernel
theorem dX4_feed_67 : decode cX4_feed 67 = .ok (.iadd, 1) := by decide +kernel
theorem dX4_feed_68 : decode cX4_feed 68 = .ok (.putfield 258, 3) := by decide +kernel
theorem dX4_feed_71 : decode cX4_feed 71 = .ok (.iinc 3 (-1), 3) := by decide +kernel
theorem dX4_feed_74 : decode cX4_feed 74 = .ok (.goto (-36), 3) := by decide +kernel
theorem dX4_feed_77 : decode cX4_feed 77 = .ok (.aload_n 0, 1) := by decide +kernel
theorem dX4_feed_78 : decode cX4_feed 78 = .ok (.getfield 258, 3) := by decide +kernel
theorem dX4_feed_81 : decode cX4_feed 81 = .ok (.ireturn, 1) := by decide +kernel
theorem dX4_wipe_0 : decode cX4_wipe 0 = .ok (.aload_n 0, 1) := by decide +kernel
theorem dX4_wipe_1 : decode cX4_wipe 1 = .ok (.getfield 258, 3) := by decide +kernel
theorem dX4_wipe_4 : decode cX4_wipe 4 = .ok (.istore_n 1, 1) := by decide +kernel
theorem dX4_wipe_5 : decode cX4_wipe 5 = .ok (.aload_n 0, 1) := by decide +kernel
theorem dX4_wipe_6 : decode cX4_wipe 6 = .ok (.iconst 0, 1) := by decide +kernel
theorem dX4_wipe_7 : decode cX4_wipe 7 = .ok (.putfield 258, 3) := by decide +kernel
theorem dX4_wipe_10 : decode cX4_wipe 10 = .ok (.iload_n 1, 1) := by decide +kernel
theorem dX4_wipe_11 : decode cX4_wipe 11 = .ok (.ireturn, 1) := by decide +kernel
theorem dX4_byteAt_0 : decode cX4_byteAt 0 = .ok (.iload_n 1, 1) := by decide +kernel
theorem dX4_byteAt_1 : decode cX4_byteAt 1 = .ok (.aload_n 0, 1) := by decide +kernel
theorem dX4_byteAt_2 : decode cX4_byteAt 2 = .ok (.getfield 258, 3) := by decide +kernel
theorem dX4_byteAt_5 : decode cX4_byteAt 5 = .ok (.if_icmp .ge 12, 3) := by decide +kernel
theorem dX4_byteAt_8 : decode cX4_byteAt 8 = .ok (.aload_n 0, 1) := by decide +kernel
theorem dX4_byteAt_9 : decode cX4_byteAt 9 = .ok (.getfield 31, 3) := by decide +kernel
theorem dX4_byteAt_12 : decode cX4_byteAt 12 = .ok (.iload_n 1, 1) := by decide +kernel
theorem dX4_byteAt_13 : decode cX4_byteAt 13 = .ok (.iaload, 1) := by decide +kernel
theorem dX4_byteAt_14 : decode cX4_byteAt 14 = .ok (.goto 4, 3) := by decide +kernel
theorem dX4_byteAt_17 : decode cX4_byteAt 17 = .ok (.iconst (-1), 1) := by decide +kernel
theorem dX4_byteAt_18 : decode cX4_byteAt 18 = .ok (.ireturn, 1) := by decide +kernel
theorem dX4_next_0 : decode cX4_next 0 = .ok (.aload_n 0, 1) := by decide +kernel
theorem dX4_next_1 : decode cX4_next 1 = .ok (.aload_n 0, 1) := by decide +kernel
theorem dX4_next_2 : decode cX4_next 2 = .ok (.getfield 262, 3) := by decide +kernel
theorem dX4_next_5 : decode cX4_next 5 = .ok (.putfield 265, 3) := by decide +kernel
theorem dX4_next_8 : decode cX4_next 8 = .ok (.aload_n 0, 1) := by decide +kernel
theorem dX4_next_9 : decode cX4_next 9 = .ok (.aload_n 0, 1) := by decide +kernel
theorem dX4_next_10 : decode cX4_next 10 = .ok (.getfield 265, 3) := by decide +kernel
theorem dX4_next_13 : decode cX4_next 13 = .ok (.invokevirtual 268, 3) := by decide +kernel
theorem dX4_next_16 : decode cX4_next 16 = .ok (.bipush 32, 2) := by decide +kernel
theorem dX4_next_18 : decode cX4_next 18 = .ok (.if_icmp .ne 16, 3) := by decide +kernel
theorem dX4_next_21 : decode cX4_next 21 = .ok (.aload_n 0, 1) := by decide +kernel
theorem dX4_next_22 : decode cX4_next 22 = .ok (.dup, 1) := by decide +kernel
theorem dX4_next_23 : decode cX4_next 23 = .ok (.getfield 265, 3) := by decide +kernel
theorem dX4_next_26 : decode cX4_next 26 = .ok (.iconst 1, 1) := by decide +kernel
theorem dX4_next_27 : decode cX4_next 27 = .ok (.iadd, 1) := by decide +kernel
theorem dX4_next_28 : decode cX4_next 28 = .ok (.putfield 265, 3) := by decide +kernel
theorem dX4_next_31 : decode cX4_next 31 = .ok (.goto (-23), 3) := by decide +kernel
theorem dX4_next_34 : decode cX4_next 34 = .ok (.aload_n 0, 1) := by decide +kernel
theorem dX4_next_35 : decode cX4_next 35 = .ok (.aload_n 0, 1) := by decide +kernel
theorem dX4_next_36 : decode cX4_next 36 = .ok (.getfield 265, 3) := by decide +kernel
theorem dX4_next_39 : decode cX4_next 39 = .ok (.invokevirtual 268, 3) := by decide +kernel
theorem dX4_next_42 : decode cX4_next 42 = .ok (.istore_n 1, 1) := by decide +kernel
theorem dX4_next_43 : decode cX4_next 43 = .ok (.aload_n 0, 1) := by decide +kernel
theorem dX4_next_44 : decode cX4_next 44 = .ok (.aload_n 0, 1) := by decide +kernel
theorem dX4_next_45 : decode cX4_next 45 = .ok (.getfield 265, 3) := by decide +kernel
theorem dX4_next_48 : decode cX4_next 48 = .ok (.putfield 262, 3) := by decide +kernel
theorem dX4_next_51 : decode cX4_next 51 = .ok (.aload_n 0, 1) := by decide +kernel
theorem dX4_next_52 : decode cX4_next 52 = .ok (.iconst 0, 1) := by decide +kernel
theorem dX4_next_53 : decode cX4_next 53 = .ok (.putfield 271, 3) := by decide +kernel
theorem dX4_next_56 : decode cX4_next 56 = .ok (.iload_n 1, 1) := by decide +kernel
theorem dX4_next_57 : decode cX4_next 57 = .ok (.ifCond .ge 11, 3) := by decide +kernel
theorem dX4_next_60 : decode cX4_next 60 = .ok (.aload_n 0, 1) := by decide +kernel
theorem dX4_next_61 : decode cX4_next 61 = .ok (.iconst 0, 1) := by decide +kernel
theorem dX4_next_62 : decode cX4_next 62 = .ok (.putfield 274, 3) := by decide +kernel
theorem dX4_next_65 : decode cX4_next 65 = .ok (.goto 141, 3) := by decide +kernel
theorem dX4_next_68 : decode cX4_next 68 = .ok (.iload_n 1, 1) := by decide +kernel
theorem dX4_next_69 : decode cX4_next 69 = .ok (.bipush 97, 2) := by decide +kernel
theorem dX4_next_71 : decode cX4_next 71 = .ok (.bipush 122, 2) := by decide +kernel
theorem dX4_next_73 : decode cX4_next 73 = .ok (.invokestatic 74, 3) := by decide +kernel
theorem dX4_next_76 : decode cX4_next 76 = .ok (.ifCond .eq 39, 3) := by decide +kernel
theorem dX4_next_79 : decode cX4_next 79 = .ok (.aload_n 0, 1) := by decide +kernel
theorem dX4_next_80 : decode cX4_next 80 = .ok (.iconst 1, 1) := by decide +kernel
theorem dX4_next_81 : decode cX4_next 81 = .ok (.putfield 274, 3) := by decide +kernel
theorem dX4_next_84 : decode cX4_next 84 = .ok (.aload_n 0, 1) := by decide +kernel
theorem dX4_next_85 : decode cX4_next 85 = .ok (.aload_n 0, 1) := by decide +kernel
theorem dX4_next_86 : decode cX4_next 86 = .ok (.getfield 262, 3) := by decide +kernel
theorem dX4_next_89 : decode cX4_next 89 = .ok (.invokevirtual 268, 3) := by decide +kernel
theorem dX4_next_92 : decode cX4_next 92 = .ok (.bipush 97, 2) := by decide +kernel
theorem dX4_next_94 : decode cX4_next 94 = .ok (.bipush 122, 2) := by decide +kernel
theorem dX4_next_96 : decode cX4_next 96 = .ok (.invokestatic 74, 3) := by decide +kernel
theorem dX4_next_99 : decode cX4_next 99 = .ok (.ifCond .eq 107, 3) := by decide +kernel
theorem dX4_next_102 : decode cX4_next 102 = .ok (.aload_n 0, 1) := by decide +kernel
theorem dX4_next_103 : decode cX4_next 103 = .ok (.dup, 1) := by decide +kernel
theorem dX4_next_104 : decode cX4_next 104 = .ok (.getfield 262, 3) := by decide +kernel
theorem dX4_next_107 : decode cX4_next 107 = .ok (.iconst 1, 1) := by decide +kernel
theorem dX4_next_108 : decode cX4_next 108 = .ok (.iadd, 1) := by decide +kernel
theorem dX4_next_109 : decode cX4_next 109 = .ok (.putfield 262, 3) := by decide +kernel
theorem dX4_next_112 : decode cX4_next 112 = .ok (.goto (-28), 3) := by decide +kernel
theorem dX4_next_115 : decode cX4_next 115 = .ok (.iload_n 1, 1) := by decide +kernel
theorem dX4_next_116 : decode cX4_next 116 = .ok (.bipush 48, 2) := by decide +kernel
theorem dX4_next_118 : decode cX4_next 118 = .ok (.bipush 57, 2) := by decide +kernel
theorem dX4_next_120 : decode cX4_next 120 = .ok (.invokestatic 74, 3) := by decide +kernel
theorem dX4_next_123 : decode cX4_next 123 = .ok (.ifCond .eq 68, 3) := by decide +kernel
theorem dX4_next_126 : decode cX4_next 126 = .ok (.aload_n 0, 1) := by decide +kernel
theorem dX4_next_127 : decode cX4_next 127 = .ok (.iconst 2, 1) := by decide +kernel
theorem dX4_next_128 : decode cX4_next 128 = .ok (.putfield 274, 3) := by decide +kernel
theorem dX4_next_131 : decode cX4_next 131 = .ok (.aload_n 0, 1) := by decide +kernel
theorem dX4_next_132 : decode cX4_next 132 = .ok (.aload_n 0, 1) := by decide +kernel
theorem dX4_next_133 : decode cX4_next 133 = .ok (.getfield 262, 3) := by decide +kernel
theorem dX4_next_136 : decode cX4_next 136 = .ok (.invokevirtual 268, 3) := by decide +kernel
theorem dX4_next_139 : decode cX4_next 139 = .ok (.bipush 48, 2) := by decide +kernel
theorem dX4_next_141 : decode cX4_next 141 = .ok (.bipush 57, 2) := by decide +kernel
theorem dX4_next_143 : decode cX4_next 143 = .ok (.invokestatic 74, 3) := by decide +kernel
theorem dX4_next_146 : decode cX4_next 146 = .ok (.ifCond .eq 60, 3) := by decide +kernel
theorem dX4_next_149 : decode cX4_next 149 = .ok (.aload_n 0, 1) := by decide +kernel
theorem dX4_next_150 : decode cX4_next 150 = .ok (.sipush 1000, 3) := by decide +kernel
theorem dX4_next_153 : decode cX4_next 153 = .ok (.bipush 10, 2) := by decide +kernel
theorem dX4_next_155 : decode cX4_next 155 = .ok (.aload_n 0, 1) := by decide +kernel
theorem dX4_next_156 : decode cX4_next 156 = .ok (.getfield 271, 3) := by decide +kernel
theorem dX4_next_159 : decode cX4_next 159 = .ok (.imul, 1) := by decide +kernel
theorem dX4_next_160 : decode cX4_next 160 = .ok (.aload_n 0, 1) := by decide +kernel
theorem dX4_next_161 : decode cX4_next 161 = .ok (.aload_n 0, 1) := by decide +kernel
theorem dX4_next_162 : decode cX4_next 162 = .ok (.getfield 262, 3) := by decide +kernel
theorem dX4_next_165 : decode cX4_next 165 = .ok (.invokevirtual 268, 3) := by decide +kernel
theorem dX4_next_168 : decode cX4_next 168 = .ok (.iadd, 1) := by decide +kernel
theorem dX4_next_169 : decode cX4_next 169 = .ok (.bipush 48, 2) := by decide +kernel
theorem dX4_next_171 : decode cX4_next 171 = .ok (.isub, 1) := by decide +kernel
theorem dX4_next_172 : decode cX4_next 172 = .ok (.invokestatic 125, 3) := by decide +kernel
theorem dX4_next_175 : decode cX4_next 175 = .ok (.putfield 271, 3) := by decide +kernel
theorem dX4_next_178 : decode cX4_next 178 = .ok (.aload_n 0, 1) := by decide +kernel
theorem dX4_next_179 : decode cX4_next 179 = .ok (.dup, 1) := by decide +kernel
theorem dX4_next_180 : decode cX4_next 180 = .ok (.getfield 262, 3) := by decide +kernel
theorem dX4_next_183 : decode cX4_next 183 = .ok (.iconst 1, 1) := by decide +kernel
theorem dX4_next_184 : decode cX4_next 184 = .ok (.iadd, 1) := by decide +kernel
theorem dX4_next_185 : decode cX4_next 185 = .ok (.putfield 262, 3) := by decide +kernel
theorem dX4_next_188 : decode cX4_next 188 = .ok (.goto (-57), 3) := by decide +kernel
theorem dX4_next_191 : decode cX4_next 191 = .ok (.aload_n 0, 1) := by decide +kernel
theorem dX4_next_192 : decode cX4_next 192 = .ok (.iconst 3, 1) := by decide +kernel
theorem dX4_next_193 : decode cX4_next 193 = .ok (.putfield 274, 3) := by decide +kernel
theorem dX4_next_196 : decode cX4_next 196 = .ok (.aload_n 0, 1) := by decide +kernel
theorem dX4_next_197 : decode cX4_next 197 = .ok (.dup, 1) := by decide +kernel
theorem dX4_next_198 : decode cX4_next 198 = .ok (.getfield 262, 3) := by decide +kernel
theorem dX4_next_201 : decode cX4_next 201 = .ok (.iconst 1, 1) := by decide +kernel
theorem dX4_next_202 : decode cX4_next 202 = .ok (.iadd, 1) := by decide +kernel
theorem dX4_next_203 : decode cX4_next 203 = .ok (.putfield 262, 3) := by decide +kernel
theorem dX4_next_206 : decode cX4_next 206 = .ok (.return_, 1) := by decide +kernel
theorem dX4_isWord_0 : decode cX4_isWord 0 = .ok (.aload_n 0, 1) := by decide +kernel
theorem dX4_isWord_1 : decode cX4_isWord 1 = .ok (.getfield 274, 3) := by decide +kernel
theorem dX4_isWord_4 : decode cX4_isWord 4 = .ok (.iconst 1, 1) := by decide +kernel
theorem dX4_isWord_5 : decode cX4_isWord 5 = .ok (.if_icmp .ne 23, 3) := by decide +kernel
theorem dX4_isWord_8 : decode cX4_isWord 8 = .ok (.aload_n 0, 1) := by decide +kernel
theorem dX4_isWord_9 : decode cX4_isWord 9 = .ok (.getfield 262, 3) := by decide +kernel
theorem dX4_isWord_12 : decode cX4_isWord 12 = .ok (.aload_n 0, 1) := by decide +kernel
theorem dX4_isWord_13 : decode cX4_isWord 13 = .ok (.getfield 265, 3) := by decide +kernel
theorem dX4_isWord_16 : decode cX4_isWord 16 = .ok (.isub, 1) := by decide +kernel
theorem dX4_isWord_17 : decode cX4_isWord 17 = .ok (.aload_n 1, 1) := by decide +kernel
theorem dX4_isWord_18 : decode cX4_isWord 18 = .ok (.invokevirtual 277, 3) := by decide +kernel
theorem dX4_isWord_21 : decode cX4_isWord 21 = .ok (.if_icmp .ne 7, 3) := by decide +kernel
theorem dX4_isWord_24 : decode cX4_isWord 24 = .ok (.iconst 1, 1) := by decide +kernel
theorem dX4_isWord_25 : decode cX4_isWord 25 = .ok (.goto 4, 3) := by decide +kernel
theorem dX4_isWord_28 : decode cX4_isWord 28 = .ok (.iconst 0, 1) := by decide +kernel
theorem dX4_isWord_29 : decode cX4_isWord 29 = .ok (.istore_n 2, 1) := by decide +kernel
theorem dX4_isWord_30 : decode cX4_isWord 30 = .ok (.iconst 0, 1) := by decide +kernel
theorem dX4_isWord_31 : decode cX4_isWord 31 = .ok (.istore_n 3, 1) := by decide +kernel
theorem dX4_isWord_32 : decode cX4_isWord 32 = .ok (.iload_n 3, 1) := by decide +kernel
theorem dX4_isWord_33 : decode cX4_isWord 33 = .ok (.aload_n 1, 1) := by decide +kernel
theorem dX4_isWord_34 : decode cX4_isWord 34 = .ok (.invokevirtual 277, 3) := by decide +kernel
theorem dX4_isWord_37 : decode cX4_isWord 37 = .ok (.if_icmp .ge 38, 3) := by decide +kernel
theorem dX4_isWord_40 : decode cX4_isWord 40 = .ok (.iload_n 2, 1) := by decide +kernel
theorem dX4_isWord_41 : decode cX4_isWord 41 = .ok (.ifCond .eq 34, 3) := by decide +kernel
theorem dX4_isWord_44 : decode cX4_isWord 44 = .ok (.aload_n 0, 1) := by decide +kernel
theorem dX4_isWord_45 : decode cX4_isWord 45 = .ok (.getfield 31, 3) := by decide +kernel
theorem dX4_isWord_48 : decode cX4_isWord 48 = .ok (.aload_n 0, 1) := by decide +kernel
theorem dX4_isWord_49 : decode cX4_isWord 49 = .ok (.getfield 265, 3) := by decide +kernel
theorem dX4_isWord_52 : decode cX4_isWord 52 = .ok (.iload_n 3, 1) := by decide +kernel
theorem dX4_isWord_53 : decode cX4_isWord 53 = .ok (.iadd, 1) := by decide +kernel
theorem dX4_isWord_54 : decode cX4_isWord 54 = .ok (.iaload, 1) := by decide +kernel
theorem dX4_isWord_55 : decode cX4_isWord 55 = .ok (.aload_n 1, 1) := by decide +kernel
theorem dX4_isWord_56 : decode cX4_isWord 56 = .ok (.iload_n 3, 1) := by decide +kernel
theorem dX4_isWord_57 : decode cX4_isWord 57 = .ok (.invokevirtual 280, 3) := by decide +kernel
theorem dX4_isWord_60 : decode cX4_isWord 60 = .ok (.if_icmp .ne 7, 3) := by decide +kernel
theorem dX4_isWord_63 : decode cX4_isWord 63 = .ok (.iconst 1, 1) := by decide +kernel
theorem dX4_isWord_64 : decode cX4_isWord 64 = .ok (.goto 4, 3) := by decide +kernel
theorem dX4_isWord_67 : decode cX4_isWord 67 = .ok (.iconst 0, 1) := by decide +kernel
theorem dX4_isWord_68 : decode cX4_isWord 68 = .ok (.istore_n 2, 1) := by decide +kernel
theorem dX4_isWord_69 : decode cX4_isWord 69 = .ok (.iinc 3 1, 3) := by decide +kernel
theorem dX4_isWord_72 : decode cX4_isWord 72 = .ok (.goto (-40), 3) := by decide +kernel
theorem dX4_isWord_75 : decode cX4_isWord 75 = .ok (.iload_n 2, 1) := by decide +kernel
theorem dX4_isWord_76 : decode cX4_isWord 76 = .ok (.ireturn, 1) := by decide +kernel
theorem dX4_must_0 : decode cX4_must 0 = .ok (.aload_n 0, 1) := by decide +kernel
theorem dX4_must_1 : decode cX4_must 1 = .ok (.aload_n 0, 1) := by decide +kernel
theorem dX4_must_2 : decode cX4_must 2 = .ok (.getfield 284, 3) := by decide +kernel
theorem dX4_must_5 : decode cX4_must 5 = .ok (.ifCond .ne 7, 3) := by decide +kernel
theorem dX4_must_8 : decode cX4_must 8 = .ok (.iload_n 1, 1) := by decide +kernel
theorem dX4_must_9 : decode cX4_must 9 = .ok (.ifCond .ne 7, 3) := by decide +kernel
theorem dX4_must_12 : decode cX4_must 12 = .ok (.iconst 1, 1) := by decide +kernel
theorem dX4_must_13 : decode cX4_must 13 = .ok (.goto 4, 3) := by decide +kernel
theorem dX4_must_16 : decode cX4_must 16 = .ok (.iconst 0, 1) := by decide +kernel
theorem dX4_must_17 : decode cX4_must 17 = .ok (.putfield 284, 3) := by decide +kernel
theorem dX4_must_20 : decode cX4_must 20 = .ok (.aload_n 0, 1) := by decide +kernel
theorem dX4_must_21 : decode cX4_must 21 = .ok (.getfield 284, 3) := by decide +kernel
theorem dX4_must_24 : decode cX4_must 24 = .ok (.ifCond .ne 7, 3) := by decide +kernel
theorem dX4_must_27 : decode cX4_must 27 = .ok (.aload_n 0, 1) := by decide +kernel
theorem dX4_must_28 : decode cX4_must 28 = .ok (.invokevirtual 287, 3) := by decide +kernel
theorem dX4_must_31 : decode cX4_must 31 = .ok (.return_, 1) := by decide +kernel
theorem dX4_number_0 : decode cX4_number 0 = .ok (.aload_n 0, 1) := by decide +kernel
theorem dX4_number_1 : decode cX4_number 1 = .ok (.getfield 271, 3) := by decide +kernel
theorem dX4_number_4 : decode cX4_number 4 = .ok (.istore_n 3, 1) := by decide +kernel
theorem dX4_number_5 : decode cX4_number 5 = .ok (.aload_n 0, 1) := by decide +kernel
theorem dX4_number_6 : decode cX4_number 6 = .ok (.aload_n 0, 1) := by decide +kernel
theorem dX4_number_7 : decode cX4_number 7 = .ok (.getfield 274, 3) := by decide +kernel
theorem dX4_number_10 : decode cX4_number 10 = .ok (.iconst 2, 1) := by decide +kernel
theorem dX4_number_11 : decode cX4_number 11 = .ok (.if_icmp .ne 16, 3) := by decide +kernel
theorem dX4_number_14 : decode cX4_number 14 = .ok (.iload_n 3, 1) := by decide +kernel
theorem dX4_number_15 : decode cX4_number 15 = .ok (.iload_n 1, 1) := by decide +kernel
theorem dX4_number_16 : decode cX4_number 16 = .ok (.iload_n 2, 1) := by decide +kernel
theorem dX4_number_17 : decode cX4_number 17 = .ok (.invokestatic 74, 3) := by decide +kernel
theorem dX4_number_20 : decode cX4_number 20 = .ok (.ifCond .eq 7, 3) := by decide +kernel
theorem dX4_number_23 : decode cX4_number 23 = .ok (.iconst 1, 1) := by decide +kernel
theorem dX4_number_24 : decode cX4_number 24 = .ok (.goto 4, 3) := by decide +kernel
theorem dX4_number_27 : decode cX4_number 27 = .ok (.iconst 0, 1) := by decide +kernel
theorem dX4_number_28 : decode cX4_number 28 = .ok (.invokevirtual 290, 3) := by decide +kernel
theorem dX4_number_31 : decode cX4_number 31 = .ok (.iload_n 3, 1) := by decide +kernel
theorem dX4_number_32 : decode cX4_number 32 = .ok (.ireturn, 1) := by decide +kernel
theorem dX4_item_0 : decode cX4_item 0 = .ok (.iconst 4, 1) := by decide +kernel
theorem dX4_item_1 : decode cX4_item 1 = .ok (.aload_n 0, 1) := by decide +kernel
theorem dX4_item_2 : decode cX4_item 2 = .ok (.getfield 294, 3) := by decide +kernel
theorem dX4_item_5 : decode cX4_item 5 = .ok (.imul, 1) := by decide +kernel
theorem dX4_item_6 : decode cX4_item 6 = .ok (.istore 5, 2) := by decide +kernel
theorem dX4_item_8 : decode cX4_item 8 = .ok (.aload_n 0, 1) := by decide +kernel
theorem dX4_item_9 : decode cX4_item 9 = .ok (.getfield 54, 3) := by decide +kernel
theorem dX4_item_12 : decode cX4_item 12 = .ok (.iload 5, 2) := by decide +kernel
theorem dX4_item_14 : decode cX4_item 14 = .ok (.iload_n 1, 1) := by decide +kernel
theorem dX4_item_15 : decode cX4_item 15 = .ok (.iastore, 1) := by decide +kernel
theorem dX4_item_16 : decode cX4_item 16 = .ok (.aload_n 0, 1) := by decide +kernel
theorem dX4_item_17 : decode cX4_item 17 = .ok (.getfield 54, 3) := by decide +kernel
theorem dX4_item_20 : decode cX4_item 20 = .ok (.iload 5, 2) := by decide +kernel
theorem dX4_item_22 : decode cX4_item 22 = .ok (.iconst 1, 1) := by decide +kernel
theorem dX4_item_23 : decode cX4_item 23 = .ok (.iadd, 1) := by decide +kernel
theorem dX4_item_24 : decode cX4_item 24 = .ok (.iload_n 2, 1) := by decide +kernel
theorem dX4_item_25 : decode cX4_item 25 = .ok (.iastore, 1) := by decide +kernel
theorem dX4_item_26 : decode cX4_item 26 = .ok (.aload_n 0, 1) := by decide +kernel
theorem dX4_item_27 : decode cX4_item 27 = .ok (.getfield 54, 3) := by decide +kernel
theorem dX4_item_30 : decode cX4_item 30 = .ok (.iload 5, 2) := by decide +kernel
theorem dX4_item_32 : decode cX4_item 32 = .ok (.iconst 2, 1) := by decide +kernel
theorem dX4_item_33 : decode cX4_item 33 = .ok (.iadd, 1) := by decide +kernel
theorem dX4_item_34 : decode cX4_item 34 = .ok (.iload_n 3, 1) := by decide +kernel
theorem dX4_item_35 : decode cX4_item 35 = .ok (.iastore, 1) := by decide +kernel
theorem dX4_item_36 : decode cX4_item 36 = .ok (.aload_n 0, 1) := by decide +kernel
theorem dX4_item_37 : decode cX4_item 37 = .ok (.getfield 54, 3) := by decide +kernel
theorem dX4_item_40 : decode cX4_item 40 = .ok (.iload 5, 2) := by decide +kernel
theorem dX4_item_42 : decode cX4_item 42 = .ok (.iconst 3, 1) := by decide +kernel
theorem dX4_item_43 : decode cX4_item 43 = .ok (.iadd, 1) := by decide +kernel
theorem dX4_item_44 : decode cX4_item 44 = .ok (.iload 4, 2) := by decide +kernel
theorem dX4_item_46 : decode cX4_item 46 = .ok (.iastore, 1) := by decide +kernel
theorem dX4_item_47 : decode cX4_item 47 = .ok (.aload_n 0, 1) := by decide +kernel
theorem dX4_item_48 : decode cX4_item 48 = .ok (.dup, 1) := by decide +kernel
theorem dX4_item_49 : decode cX4_item 49 = .ok (.getfield 294, 3) := by decide +kernel
theorem dX4_item_52 : decode cX4_item 52 = .ok (.iconst 1, 1) := by decide +kernel
theorem dX4_item_53 : decode cX4_item 53 = .ok (.iadd, 1) := by decide +kernel
theorem dX4_item_54 : decode cX4_item 54 = .ok (.putfield 294, 3) := by decide +kernel
theorem dX4_item_57 : decode cX4_item 57 = .ok (.return_, 1) := by decide +kernel
theorem dX4_kindTold_0 : decode cX4_kindTold 0 = .ok (.iconst (-1), 1) := by decide +kernel
theorem dX4_kindTold_1 : decode cX4_kindTold 1 = .ok (.istore_n 1, 1) := by decide +kernel
theorem dX4_kindTold_2 : decode cX4_kindTold 2 = .ok (.iconst 0, 1) := by decide +kernel
theorem dX4_kindTold_3 : decode cX4_kindTold 3 = .ok (.istore_n 2, 1) := by decide +kernel
theorem dX4_kindTold_4 : decode cX4_kindTold 4 = .ok (.iload_n 2, 1) := by decide +kernel
theorem dX4_kindTold_5 : decode cX4_kindTold 5 = .ok (.aload_n 0, 1) := by decide +kernel
theorem dX4_kindTold_6 : decode cX4_kindTold 6 = .ok (.getfield 50, 3) := by decide +kernel
theorem dX4_kindTold_9 : decode cX4_kindTold 9 = .ok (.arraylength, 1) := by decide +kernel
theorem dX4_kindTold_10 : decode cX4_kindTold 10 = .ok (.if_icmp .ge 28, 3) := by decide +kernel
theorem dX4_kindTold_13 : decode cX4_kindTold 13 = .ok (.aload_n 0, 1) := by decide +kernel
theorem dX4_kindTold_14 : decode cX4_kindTold 14 = .ok (.aload_n 0, 1) := by decide +kernel
theorem dX4_kindTold_15 : decode cX4_kindTold 15 = .ok (.getfield 50, 3) := by decide +kernel
theorem dX4_kindTold_18 : decode cX4_kindTold 18 = .ok (.iload_n 2, 1) := by decide +kernel
theorem dX4_kindTold_19 : decode cX4_kindTold 19 = .ok (.aaload, 1) := by decide +kernel
theorem dX4_kindTold_20 : decode cX4_kindTold 20 = .ok (.invokevirtual 297, 3) := by decide +kernel
theorem dX4_kindTold_23 : decode cX4_kindTold 23 = .ok (.ifCond .eq 7, 3) := by decide +kernel
theorem dX4_kindTold_26 : decode cX4_kindTold 26 = .ok (.iload_n 2, 1) := by decide +kernel
theorem dX4_kindTold_27 : decode cX4_kindTold 27 = .ok (.goto 4, 3) := by decide +kernel
theorem dX4_kindTold_30 : decode cX4_kindTold 30 = .ok (.iload_n 1, 1) := by decide +kernel
theorem dX4_kindTold_31 : decode cX4_kindTold 31 = .ok (.istore_n 1, 1) := by decide +kernel
theorem dX4_kindTold_32 : decode cX4_kindTold 32 = .ok (.iinc 2 1, 3) := by decide +kernel
theorem dX4_kindTold_35 : decode cX4_kindTold 35 = .ok (.goto (-31), 3) := by decide +kernel
theorem dX4_kindTold_38 : decode cX4_kindTold 38 = .ok (.iload_n 1, 1) := by decide +kernel
theorem dX4_kindTold_39 : decode cX4_kindTold 39 = .ok (.ireturn, 1) := by decide +kernel
theorem dX4_isNext_0 : decode cX4_isNext 0 = .ok (.aload_n 0, 1) := by decide +kernel
theorem dX4_isNext_1 : decode cX4_isNext 1 = .ok (.getfield 284, 3) := by decide +kernel
theorem dX4_isNext_4 : decode cX4_isNext 4 = .ok (.ifCond .ne 15, 3) := by decide +kernel
theorem dX4_isNext_7 : decode cX4_isNext 7 = .ok (.aload_n 0, 1) := by decide +kernel
theorem dX4_isNext_8 : decode cX4_isNext 8 = .ok (.aload_n 1, 1) := by decide +kernel
theorem dX4_isNext_9 : decode cX4_isNext 9 = .ok (.invokevirtual 297, 3) := by decide +kernel
theorem dX4_isNext_12 : decode cX4_isNext 12 = .ok (.ifCond .eq 7, 3) := by decide +kernel
theorem dX4_isNext_15 : decode cX4_isNext 15 = .ok (.iconst 1, 1) := by decide +kernel
theorem dX4_isNext_16 : decode cX4_isNext 16 = .ok (.goto 4, 3) := by decide +kernel
theorem dX4_isNext_19 : decode cX4_isNext 19 = .ok (.iconst 0, 1) := by decide +kernel
theorem dX4_isNext_20 : decode cX4_isNext 20 = .ok (.istore_n 2, 1) := by decide +kernel
theorem dX4_isNext_21 : decode cX4_isNext 21 = .ok (.iload_n 2, 1) := by decide +kernel
theorem dX4_isNext_22 : decode cX4_isNext 22 = .ok (.ifCond .eq 8, 3) := by decide +kernel
theorem dX4_isNext_25 : decode cX4_isNext 25 = .ok (.aload_n 0, 1) := by decide +kernel
theorem dX4_isNext_26 : decode cX4_isNext 26 = .ok (.iconst 1, 1) := by decide +kernel
theorem dX4_isNext_27 : decode cX4_isNext 27 = .ok (.invokevirtual 290, 3) := by decide +kernel
theorem dX4_isNext_30 : decode cX4_isNext 30 = .ok (.iload_n 2, 1) := by decide +kernel
theorem dX4_isNext_31 : decode cX4_isNext 31 = .ok (.ireturn, 1) := by decide +kernel
theorem dX4_readItem_0 : decode cX4_readItem 0 = .ok (.aload_n 0, 1) := by decide +kernel
theorem dX4_readItem_1 : decode cX4_readItem 1 = .ok (.invokevirtual 301, 3) := by decide +kernel
theorem dX4_readItem_4 : decode cX4_readItem 4 = .ok (.istore_n 1, 1) := by decide +kernel
theorem dX4_readItem_5 : decode cX4_readItem 5 = .ok (.iload_n 1, 1) := by decide +kernel
theorem dX4_readItem_6 : decode cX4_readItem 6 = .ok (.ifCond .lt 107, 3) := by decide +kernel
theorem dX4_readItem_9 : decode cX4_readItem 9 = .ok (.aload_n 0, 1) := by decide +kernel
theorem dX4_readItem_10 : decode cX4_readItem 10 = .ok (.aload_n 0, 1) := by decide +kernel
theorem dX4_readItem_11 : decode cX4_readItem 11 = .ok (.getfield 304, 3) := by decide +kernel
theorem dX4_readItem_14 : decode cX4_readItem 14 = .ok (.bipush 8, 2) := by decide +kernel
theorem dX4_readItem_16 : decode cX4_readItem 16 = .ok (.if_icmp .ge 7, 3) := by decide +kernel
theorem dX4_readItem_19 : decode cX4_readItem 19 = .ok (.iconst 1, 1) := by decide +kernel
theorem dX4_readItem_20 : decode cX4_readItem 20 = .ok (.goto 4, 3) := by decide +kernel
theorem dX4_readItem_23 : decode cX4_readItem 23 = .ok (.iconst 0, 1) := by decide +kernel
theorem dX4_readItem_24 : decode cX4_readItem 24 = .ok (.invokevirtual 290, 3) := by decide +kernel
theorem dX4_readItem_27 : decode cX4_readItem 27 = .ok (.aload_n 0, 1) := by decide +kernel
theorem dX4_readItem_28 : decode cX4_readItem 28 = .ok (.dup, 1) := by decide +kernel
theorem dX4_readItem_29 : decode cX4_readItem 29 = .ok (.getfield 304, 3) := by decide +kernel
theorem dX4_readItem_32 : decode cX4_readItem 32 = .ok (.iconst 1, 1) := by decide +kernel
theorem dX4_readItem_33 : decode cX4_readItem 33 = .ok (.iadd, 1) := by decide +kernel
theorem dX4_readItem_34 : decode cX4_readItem 34 = .ok (.putfield 304, 3) := by decide +kernel
theorem dX4_readItem_37 : decode cX4_readItem 37 = .ok (.aload_n 0, 1) := by decide +kernel
theorem dX4_readItem_38 : decode cX4_readItem 38 = .ok (.ldc_w 307, 3) := by decide +kernel
theorem dX4_readItem_41 : decode cX4_readItem 41 = .ok (.invokevirtual 308, 3) := by decide +kernel
theorem dX4_readItem_44 : decode cX4_readItem 44 = .ok (.ifCond .eq 13, 3) := by decide +kernel
theorem dX4_readItem_47 : decode cX4_readItem 47 = .ok (.aload_n 0, 1) := by decide +kernel
theorem dX4_readItem_48 : decode cX4_readItem 48 = .ok (.iconst 0, 1) := by decide +kernel
theorem dX4_readItem_49 : decode cX4_readItem 49 = .ok (.bipush 63, 2) := by decide +kernel
theorem dX4_readItem_51 : decode cX4_readItem 51 = .ok (.invokevirtual 311, 3) := by decide +kernel
theorem dX4_readItem_54 : decode cX4_readItem 54 = .ok (.goto 4, 3) := by decide +kernel
theorem dX4_readItem_57 : decode cX4_readItem 57 = .ok (.iconst 0, 1) := by decide +kernel
theorem dX4_readItem_58 : decode cX4_readItem 58 = .ok (.istore_n 2, 1) := by decide +kernel
theorem dX4_readItem_59 : decode cX4_readItem 59 = .ok (.aload_n 0, 1) := by decide +kernel
theorem dX4_readItem_60 : decode cX4_readItem 60 = .ok (.ldc_w 314, 3) := by decide +kernel
theorem dX4_readItem_63 : decode cX4_readItem 63 = .ok (.invokevirtual 308, 3) := by decide +kernel
theorem dX4_readItem_66 : decode cX4_readItem 66 = .ok (.ifCond .eq 13, 3) := by decide +kernel
theorem dX4_readItem_69 : decode cX4_readItem 69 = .ok (.aload_n 0, 1) := by decide +kernel
theorem dX4_readItem_70 : decode cX4_readItem 70 = .ok (.iconst 0, 1) := by decide +kernel
theorem dX4_readItem_71 : decode cX4_readItem 71 = .ok (.bipush 11, 2) := by decide +kernel
theorem dX4_readItem_73 : decode cX4_readItem 73 = .ok (.invokevirtual 311, 3) := by decide +kernel
theorem dX4_readItem_76 : decode cX4_readItem 76 = .ok (.goto 4, 3) := by decide +kernel
theorem dX4_readItem_79 : decode cX4_readItem 79 = .ok (.iconst 0, 1) := by decide +kernel
theorem dX4_readItem_80 : decode cX4_readItem 80 = .ok (.istore_n 3, 1) := by decide +kernel
theorem dX4_readItem_81 : decode cX4_readItem 81 = .ok (.aload_n 0, 1) := by decide +kernel
theorem dX4_readItem_82 : decode cX4_readItem 82 = .ok (.iload_n 1, 1) := by decide +kernel
theorem dX4_readItem_83 : decode cX4_readItem 83 = .ok (.iload_n 2, 1) := by decide +kernel
theorem dX4_readItem_84 : decode cX4_readItem 84 = .ok (.iload_n 3, 1) := by decide +kernel
theorem dX4_readItem_85 : decode cX4_readItem 85 = .ok (.aload_n 0, 1) := by decide +kernel
theorem dX4_readItem_86 : decode cX4_readItem 86 = .ok (.ldc_w 316, 3) := by decide +kernel
theorem dX4_readItem_89 : decode cX4_readItem 89 = .ok (.invokevirtual 308, 3) := by decide +kernel
theorem dX4_readItem_92 : decode cX4_readItem 92 = .ok (.ifCond .eq 13, 3) := by decide +kernel
theorem dX4_readItem_95 : decode cX4_readItem 95 = .ok (.aload_n 0, 1) := by decide +kernel
theorem dX4_readItem_96 : decode cX4_readItem 96 = .ok (.iconst 1, 1) := by decide +kernel
theorem dX4_readItem_97 : decode cX4_readItem 97 = .ok (.bipush 99, 2) := by decide +kernel
theorem dX4_readItem_99 : decode cX4_readItem 99 = .ok (.invokevirtual 311, 3) := by decide +kernel
theorem dX4_readItem_102 : decode cX4_readItem 102 = .ok (.goto 5, 3) := by decide +kernel
theorem dX4_readItem_105 : decode cX4_readItem 105 = .ok (.bipush 10, 2) := by decide +kernel
theorem dX4_readItem_107 : decode cX4_readItem 107 = .ok (.invokevirtual 318, 3) := by decide +kernel
theorem dX4_readItem_110 : decode cX4_readItem 110 = .ok (.goto 148, 3) := by decide +kernel
theorem dX4_readItem_113 : decode cX4_readItem 113 = .ok (.aload_n 0, 1) := by decide +kernel
theorem dX4_readItem_114 : decode cX4_readItem 114 = .ok (.ldc_w 322, 3) := by decide +kernel
theorem dX4_readItem_117 : decode cX4_readItem 117 = .ok (.invokevirtual 308, 3) := by decide +kernel
theorem dX4_readItem_120 : decode cX4_readItem 120 = .ok (.ifCond .eq 23, 3) := by decide +kernel
theorem dX4_readItem_123 : decode cX4_readItem 123 = .ok (.aload_n 0, 1) := by decide +kernel
theorem dX4_readItem_124 : decode cX4_readItem 124 = .ok (.bipush 38, 2) := by decide +kernel
theorem dX4_readItem_126 : decode cX4_readItem 126 = .ok (.aload_n 0, 1) := by decide +kernel
theorem dX4_readItem_127 : decode cX4_readItem 127 = .ok (.iconst 0, 1) := by decide +kernel
theorem dX4_readItem_128 : decode cX4_readItem 128 = .ok (.bipush 63, 2) := by decide +kernel
theorem dX4_readItem_130 : decode cX4_readItem 130 = .ok (.invokevirtual 311, 3) := by decide +kernel
theorem dX4_readItem_133 : decode cX4_readItem 133 = .ok (.iadd, 1) := by decide +kernel
theorem dX4_readItem_134 : decode cX4_readItem 134 = .ok (.iconst 1, 1) := by decide +kernel
theorem dX4_readItem_135 : decode cX4_readItem 135 = .ok (.iconst 0, 1) := by decide +kernel
theorem dX4_readItem_136 : decode cX4_readItem 136 = .ok (.iconst 0, 1) := by decide +kernel
theorem dX4_readItem_137 : decode cX4_readItem 137 = .ok (.invokevirtual 318, 3) := by decide +kernel
theorem dX4_readItem_140 : decode cX4_readItem 140 = .ok (.goto 118, 3) := by decide +kernel
theorem dX4_readItem_143 : decode cX4_readItem 143 = .ok (.aload_n 0, 1) := by decide +kernel
theorem dX4_readItem_144 : decode cX4_readItem 144 = .ok (.ldc_w 324, 3) := by decide +kernel
theorem dX4_readItem_147 : decode cX4_readItem 147 = .ok (.invokevirtual 308, 3) := by decide +kernel
theorem dX4_readItem_150 : decode cX4_readItem 150 = .ok (.ifCond .eq 31, 3) := by decide +kernel
theorem dX4_readItem_153 : decode cX4_readItem 153 = .ok (.aload_n 0, 1) := by decide +kernel
theorem dX4_readItem_154 : decode cX4_readItem 154 = .ok (.iconst 0, 1) := by decide +kernel
theorem dX4_readItem_155 : decode cX4_readItem 155 = .ok (.bipush 63, 2) := by decide +kernel
theorem dX4_readItem_157 : decode cX4_readItem 157 = .ok (.invokevirtual 311, 3) := by decide +kernel
theorem dX4_readItem_160 : decode cX4_readItem 160 = .ok (.istore_n 2, 1) := by decide +kernel
theorem dX4_readItem_161 : decode cX4_readItem 161 = .ok (.aload_n 0, 1) := by decide +kernel
theorem dX4_readItem_162 : decode cX4_readItem 162 = .ok (.bipush 102, 2) := by decide +kernel
theorem dX4_readItem_164 : decode cX4_readItem 164 = .ok (.iload_n 2, 1) := by decide +kernel
theorem dX4_readItem_165 : decode cX4_readItem 165 = .ok (.iadd, 1) := by decide +kernel
theorem dX4_readItem_166 : decode cX4_readItem 166 = .ok (.aload_n 0, 1) := by decide +kernel
theorem dX4_readItem_167 : decode cX4_readItem 167 = .ok (.iconst 0, 1) := by decide +kernel
theorem dX4_readItem_168 : decode cX4_readItem 168 = .ok (.bipush 9, 2) := by decide +kernel
theorem dX4_readItem_170 : decode cX4_readItem 170 = .ok (.invokevirtual 311, 3) := by decide +kernel
theorem dX4_readItem_173 : decode cX4_readItem 173 = .ok (.iconst 0, 1) := by decide +kernel
theorem dX4_readItem_174 : decode cX4_readItem 174 = .ok (.iconst 0, 1) := by decide +kernel
theorem dX4_readItem_175 : decode cX4_readItem 175 = .ok (.invokevirtual 318, 3) := by decide +kernel
theorem dX4_readItem_178 : decode cX4_readItem 178 = .ok (.goto 80, 3) := by decide +kernel
theorem dX4_readItem_181 : decode cX4_readItem 181 = .ok (.aload_n 0, 1) := by decide +kernel
theorem dX4_readItem_182 : decode cX4_readItem 182 = .ok (.ldc_w 326, 3) := by decide +kernel
theorem dX4_readItem_185 : decode cX4_readItem 185 = .ok (.invokevirtual 308, 3) := by decide +kernel
theorem dX4_readItem_188 : decode cX4_readItem 188 = .ok (.ifCond .eq 44, 3) := by decide +kernel
theorem dX4_readItem_191 : decode cX4_readItem 191 = .ok (.aload_n 0, 1) := by decide +kernel
theorem dX4_readItem_192 : decode cX4_readItem 192 = .ok (.iconst 0, 1) := by decide +kernel
theorem dX4_readItem_193 : decode cX4_readItem 193 = .ok (.iconst 3, 1) := by decide +kernel
theorem dX4_readItem_194 : decode cX4_readItem 194 = .ok (.invokevirtual 311, 3) := by decide +kernel
theorem dX4_readItem_197 : decode cX4_readItem 197 = .ok (.istore_n 2, 1) := by decide +kernel
theorem dX4_readItem_198 : decode cX4_readItem 198 = .ok (.aload_n 0, 1) := by decide +kernel
theorem dX4_readItem_199 : decode cX4_readItem 199 = .ok (.bipush 34, 2) := by decide +kernel
theorem dX4_readItem_201 : decode cX4_readItem 201 = .ok (.iload_n 2, 1) := by decide +kernel
theorem dX4_readItem_202 : decode cX4_readItem 202 = .ok (.iadd, 1) := by decide +kernel
theorem dX4_readItem_203 : decode cX4_readItem 203 = .ok (.aload_n 0, 1) := by decide +kernel
theorem dX4_readItem_204 : decode cX4_readItem 204 = .ok (.ldc_w 307, 3) := by decide +kernel
theorem dX4_readItem_207 : decode cX4_readItem 207 = .ok (.invokevirtual 308, 3) := by decide +kernel
theorem dX4_readItem_210 : decode cX4_readItem 210 = .ok (.ifCond .eq 13, 3) := by decide +kernel
theorem dX4_readItem_213 : decode cX4_readItem 213 = .ok (.aload_n 0, 1) := by decide +kernel
theorem dX4_readItem_214 : decode cX4_readItem 214 = .ok (.iconst 0, 1) := by decide +kernel
theorem dX4_readItem_215 : decode cX4_readItem 215 = .ok (.bipush 63, 2) := by decide +kernel
theorem dX4_readItem_217 : decode cX4_readItem 217 = .ok (.invokevirtual 311, 3) := by decide +kernel
theorem dX4_readItem_220 : decode cX4_readItem 220 = .ok (.goto 4, 3) := by decide +kernel
theorem dX4_readItem_223 : decode cX4_readItem 223 = .ok (.iconst (-1), 1) := by decide +kernel
theorem dX4_readItem_224 : decode cX4_readItem 224 = .ok (.iconst 0, 1) := by decide +kernel
theorem dX4_readItem_225 : decode cX4_readItem 225 = .ok (.iconst 0, 1) := by decide +kernel
theorem dX4_readItem_226 : decode cX4_readItem 226 = .ok (.invokevirtual 318, 3) := by decide +kernel
theorem dX4_readItem_229 : decode cX4_readItem 229 = .ok (.goto 29, 3) := by decide +kernel
theorem dX4_readItem_232 : decode cX4_readItem 232 = .ok (.aload_n 0, 1) := by decide +kernel
theorem dX4_readItem_233 : decode cX4_readItem 233 = .ok (.aload_n 0, 1) := by decide +kernel
theorem dX4_readItem_234 : decode cX4_readItem 234 = .ok (.ldc_w 328, 3) := by decide +kernel
theorem dX4_readItem_237 : decode cX4_readItem 237 = .ok (.invokevirtual 297, 3) := by decide +kernel
theorem dX4_readItem_240 : decode cX4_readItem 240 = .ok (.invokevirtual 290, 3) := by decide +kernel
theorem dX4_readItem_243 : decode cX4_readItem 243 = .ok (.aload_n 0, 1) := by decide +kernel
theorem dX4_readItem_244 : decode cX4_readItem 244 = .ok (.bipush 21, 2) := by decide +kernel
theorem dX4_readItem_246 : decode cX4_readItem 246 = .ok (.aload_n 0, 1) := by decide +kernel
theorem dX4_readItem_247 : decode cX4_readItem 247 = .ok (.iconst 0, 1) := by decide +kernel
theorem dX4_readItem_248 : decode cX4_readItem 248 = .ok (.bipush 9, 2) := by decide +kernel
theorem dX4_readItem_250 : decode cX4_readItem 250 = .ok (.invokevirtual 311, 3) := by decide +kernel
theorem dX4_readItem_253 : decode cX4_readItem 253 = .ok (.iconst 0, 1) := by decide +kernel
theorem dX4_readItem_254 : decode cX4_readItem 254 = .ok (.iconst 0, 1) := by decide +kernel
theorem dX4_readItem_255 : decode cX4_readItem 255 = .ok (.invokevirtual 318, 3) := by decide +kernel
theorem dX4_readItem_258 : decode cX4_readItem 258 = .ok (.return_, 1) := by decide +kernel
theorem dX4_isToldSo_0 : decode cX4_isToldSo 0 = .ok (.aload_n 0, 1) := by decide +kernel
theorem dX4_isToldSo_1 : decode cX4_isToldSo 1 = .ok (.getfield 54, 3) := by decide +kernel
theorem dX4_isToldSo_4 : decode cX4_isToldSo 4 = .ok (.iload_n 1, 1) := by decide +kernel
theorem dX4_isToldSo_5 : decode cX4_isToldSo 5 = .ok (.iaload, 1) := by decide +kernel
theorem dX4_isToldSo_6 : decode cX4_isToldSo 6 = .ok (.istore_n 2, 1) := by decide +kernel
theorem dX4_isToldSo_7 : decode cX4_isToldSo 7 = .ok (.aload_n 0, 1) := by decide +kernel
theorem dX4_isToldSo_8 : decode cX4_isToldSo 8 = .ok (.getfield 54, 3) := by decide +kernel
theorem dX4_isToldSo_11 : decode cX4_isToldSo 11 = .ok (.iload_n 1, 1) := by decide +kernel
theorem dX4_isToldSo_12 : decode cX4_isToldSo 12 = .ok (.iconst 1, 1) := by decide +kernel
theorem dX4_isToldSo_13 : decode cX4_isToldSo 13 = .ok (.iadd, 1) := by decide +kernel
theorem dX4_isToldSo_14 : decode cX4_isToldSo 14 = .ok (.iaload, 1) := by decide +kernel
theorem dX4_isToldSo_15 : decode cX4_isToldSo 15 = .ok (.istore_n 3, 1) := by decide +kernel
theorem dX4_isToldSo_16 : decode cX4_isToldSo 16 = .ok (.iload_n 2, 1) := by decide +kernel
theorem dX4_isToldSo_17 : decode cX4_isToldSo 17 = .ok (.bipush 20, 2) := by decide +kernel
theorem dX4_isToldSo_19 : decode cX4_isToldSo 19 = .ok (.if_icmp .lt 15, 3) := by decide +kernel
theorem dX4_isToldSo_22 : decode cX4_isToldSo 22 = .ok (.aload_n 0, 1) := by decide +kernel
theorem dX4_isToldSo_23 : decode cX4_isToldSo 23 = .ok (.iload_n 2, 1) := by decide +kernel
theorem dX4_isToldSo_24 : decode cX4_isToldSo 24 = .ok (.bipush 20, 2) := by decide +kernel
theorem dX4_isToldSo_26 : decode cX4_isToldSo 26 = .ok (.isub, 1) := by decide +kernel
theorem dX4_isToldSo_27 : decode cX4_isToldSo 27 = .ok (.iload_n 3, 1) := by decide +kernel
theorem dX4_isToldSo_28 : decode cX4_isToldSo 28 = .ok (.invokevirtual 91, 3) := by decide +kernel
theorem dX4_isToldSo_31 : decode cX4_isToldSo 31 = .ok (.goto 25, 3) := by decide +kernel
theorem dX4_isToldSo_34 : decode cX4_isToldSo 34 = .ok (.aload_n 0, 1) := by decide +kernel
theorem dX4_isToldSo_35 : decode cX4_isToldSo 35 = .ok (.iload_n 2, 1) := by decide +kernel
theorem dX4_isToldSo_36 : decode cX4_isToldSo 36 = .ok (.iload_n 3, 1) := by decide +kernel
theorem dX4_isToldSo_37 : decode cX4_isToldSo 37 = .ok (.aload_n 0, 1) := by decide +kernel
theorem dX4_isToldSo_38 : decode cX4_isToldSo 38 = .ok (.getfield 54, 3) := by decide +kernel
theorem dX4_isToldSo_41 : decode cX4_isToldSo 41 = .ok (.iload_n 1, 1) := by decide +kernel
theorem dX4_isToldSo_42 : decode cX4_isToldSo 42 = .ok (.iconst 2, 1) := by decide +kernel
theorem dX4_isToldSo_43 : decode cX4_isToldSo 43 = .ok (.iadd, 1) := by decide +kernel
theorem dX4_isToldSo_44 : decode cX4_isToldSo 44 = .ok (.iaload, 1) := by decide +kernel
theorem dX4_isToldSo_45 : decode cX4_isToldSo 45 = .ok (.aload_n 0, 1) := by decide +kernel
theorem dX4_isToldSo_46 : decode cX4_isToldSo 46 = .ok (.getfield 54, 3) := by decide +kernel
theorem dX4_isToldSo_49 : decode cX4_isToldSo 49 = .ok (.iload_n 1, 1) := by decide +kernel
theorem dX4_isToldSo_50 : decode cX4_isToldSo 50 = .ok (.iconst 3, 1) := by decide +kernel
theorem dX4_isToldSo_51 : decode cX4_isToldSo 51 = .ok (.iadd, 1) := by decide +kernel
theorem dX4_isToldSo_52 : decode cX4_isToldSo 52 = .ok (.iaload, 1) := by decide +kernel
theorem dX4_isToldSo_53 : decode cX4_isToldSo 53 = .ok (.invokevirtual 108, 3) := by decide +kernel
theorem dX4_isToldSo_56 : decode cX4_isToldSo 56 = .ok (.ireturn, 1) := by decide +kernel
theorem dX4_text_0 : decode cX4_text 0 = .ok (.aload_n 0, 1) := by decide +kernel
theorem dX4_text_1 : decode cX4_text 1 = .ok (.iconst 0, 1) := by decide +kernel
theorem dX4_text_2 : decode cX4_text 2 = .ok (.putfield 262, 3) := by decide +kernel
theorem dX4_text_5 : decode cX4_text 5 = .ok (.aload_n 0, 1) := by decide +kernel
theorem dX4_text_6 : decode cX4_text 6 = .ok (.iconst 0, 1) := by decide +kernel
theorem dX4_text_7 : decode cX4_text 7 = .ok (.putfield 284, 3) := by decide +kernel
theorem dX4_text_10 : decode cX4_text 10 = .ok (.aload_n 0, 1) := by decide +kernel
theorem dX4_text_11 : decode cX4_text 11 = .ok (.iconst 0, 1) := by decide +kernel
theorem dX4_text_12 : decode cX4_text 12 = .ok (.putfield 294, 3) := by decide +kernel
theorem dX4_text_15 : decode cX4_text 15 = .ok (.aload_n 0, 1) := by decide +kernel
theorem dX4_text_16 : decode cX4_text 16 = .ok (.aload_n 0, 1) := by decide +kernel
theorem dX4_text_17 : decode cX4_text 17 = .ok (.getfield 9, 3) := by decide +kernel
theorem dX4_text_20 : decode cX4_text 20 = .ok (.iconst 2, 1) := by decide +kernel
theorem dX4_text_21 : decode cX4_text 21 = .ok (.iaload, 1) := by decide +kernel
theorem dX4_text_22 : decode cX4_text 22 = .ok (.putfield 304, 3) := by decide +kernel
theorem dX4_text_25 : decode cX4_text 25 = .ok (.aload_n 0, 1) := by decide +kernel
theorem dX4_text_26 : decode cX4_text 26 = .ok (.invokevirtual 287, 3) := by decide +kernel
theorem dX4_text_29 : decode cX4_text 29 = .ok (.aload_n 0, 1) := by decide +kernel
theorem dX4_text_30 : decode cX4_text 30 = .ok (.invokevirtual 330, 3) := by decide +kernel
theorem dX4_text_33 : decode cX4_text 33 = .ok (.aload_n 0, 1) := by decide +kernel
theorem dX4_text_34 : decode cX4_text 34 = .ok (.getfield 284, 3) := by decide +kernel
theorem dX4_text_37 : decode cX4_text 37 = .ok (.ifCond .ne 37, 3) := by decide +kernel
theorem dX4_text_40 : decode cX4_text 40 = .ok (.aload_n 0, 1) := by decide +kernel
theorem dX4_text_41 : decode cX4_text 41 = .ok (.getfield 274, 3) := by decide +kernel
theorem dX4_text_44 : decode cX4_text 44 = .ok (.iconst 3, 1) := by decide +kernel
theorem dX4_text_45 : decode cX4_text 45 = .ok (.if_icmp .ne 29, 3) := by decide +kernel
theorem dX4_text_48 : decode cX4_text 48 = .ok (.aload_n 0, 1) := by decide +kernel
theorem dX4_text_49 : decode cX4_text 49 = .ok (.getfield 31, 3) := by decide +kernel
theorem dX4_text_52 : decode cX4_text 52 = .ok (.aload_n 0, 1) := by decide +kernel
theorem dX4_text_53 : decode cX4_text 53 = .ok (.getfield 265, 3) := by decide +kernel
theorem dX4_text_56 : decode cX4_text 56 = .ok (.iaload, 1) := by decide +kernel
theorem dX4_text_57 : decode cX4_text 57 = .ok (.bipush 59, 2) := by decide +kernel
theorem dX4_text_59 : decode cX4_text 59 = .ok (.if_icmp .ne 15, 3) := by decide +kernel
theorem dX4_text_62 : decode cX4_text 62 = .ok (.aload_n 0, 1) := by decide +kernel
theorem dX4_text_63 : decode cX4_text 63 = .ok (.iconst 1, 1) := by decide +kernel
theorem dX4_text_64 : decode cX4_text 64 = .ok (.invokevirtual 290, 3) := by decide +kernel
theorem dX4_text_67 : decode cX4_text 67 = .ok (.aload_n 0, 1) := by decide +kernel
theorem dX4_text_68 : decode cX4_text 68 = .ok (.invokevirtual 330, 3) := by decide +kernel
theorem dX4_text_71 : decode cX4_text 71 = .ok (.goto (-38), 3) := by decide +kernel
theorem dX4_text_74 : decode cX4_text 74 = .ok (.aload_n 0, 1) := by decide +kernel
theorem dX4_text_75 : decode cX4_text 75 = .ok (.aload_n 0, 1) := by decide +kernel
theorem dX4_text_76 : decode cX4_text 76 = .ok (.getfield 274, 3) := by decide +kernel
theorem dX4_text_79 : decode cX4_text 79 = .ok (.ifCond .ne 7, 3) := by decide +kernel
theorem dX4_text_82 : decode cX4_text 82 = .ok (.iconst 1, 1) := by decide +kernel
theorem dX4_text_83 : decode cX4_text 83 = .ok (.goto 4, 3) := by decide +kernel
theorem dX4_text_86 : decode cX4_text 86 = .ok (.iconst 0, 1) := by decide +kernel
theorem dX4_text_87 : decode cX4_text 87 = .ok (.invokevirtual 290, 3) := by decide +kernel
theorem dX4_text_90 : decode cX4_text 90 = .ok (.aload_n 0, 1) := by decide +kernel
theorem dX4_text_91 : decode cX4_text 91 = .ok (.iconst 0, 1) := by decide +kernel
theorem dX4_text_92 : decode cX4_text 92 = .ok (.putfield 258, 3) := by decide +kernel
theorem dX4_text_95 : decode cX4_text 95 = .ok (.aload_n 0, 1) := by decide +kernel
theorem dX4_text_96 : decode cX4_text 96 = .ok (.getfield 284, 3) := by decide +kernel
theorem dX4_text_99 : decode cX4_text 99 = .ok (.ifCond .eq 10, 3) := by decide +kernel
theorem dX4_text_102 : decode cX4_text 102 = .ok (.iconst (-1), 1) := by decide +kernel
theorem dX4_text_103 : decode cX4_text 103 = .ok (.aload_n 0, 1) := by decide +kernel
theorem dX4_text_104 : decode cX4_text 104 = .ok (.getfield 265, 3) := by decide +kernel
theorem dX4_text_107 : decode cX4_text 107 = .ok (.isub, 1) := by decide +kernel
theorem dX4_text_108 : decode cX4_text 108 = .ok (.ireturn, 1) := by decide +kernel
theorem dX4_text_109 : decode cX4_text 109 = .ok (.iconst 0, 1) := by decide +kernel
theorem dX4_text_110 : decode cX4_text 110 = .ok (.istore_n 1, 1) := by decide +kernel
theorem dX4_text_111 : decode cX4_text 111 = .ok (.iconst 0, 1) := by decide +kernel
theorem dX4_text_112 : decode cX4_text 112 = .ok (.istore_n 2, 1) := by decide +kernel
theorem dX4_text_113 : decode cX4_text 113 = .ok (.iload_n 2, 1) := by decide +kernel
theorem dX4_text_114 : decode cX4_text 114 = .ok (.aload_n 0, 1) := by decide +kernel
theorem dX4_text_115 : decode cX4_text 115 = .ok (.getfield 294, 3) := by decide +kernel
theorem dX4_text_118 : decode cX4_text 118 = .ok (.if_icmp .ge 28, 3) := by decide +kernel
theorem dX4_text_121 : decode cX4_text 121 = .ok (.iload_n 1, 1) := by decide +kernel
theorem dX4_text_122 : decode cX4_text 122 = .ok (.aload_n 0, 1) := by decide +kernel
theorem dX4_text_123 : decode cX4_text 123 = .ok (.iconst 4, 1) := by decide +kernel
theorem dX4_text_124 : decode cX4_text 124 = .ok (.iload_n 2, 1) := by decide +kernel
theorem dX4_text_125 : decode cX4_text 125 = .ok (.imul, 1) := by decide +kernel
theorem dX4_text_126 : decode cX4_text 126 = .ok (.invokevirtual 333, 3) := by decide +kernel
theorem dX4_text_129 : decode cX4_text 129 = .ok (.iconst (-1), 1) := by decide +kernel
theorem dX4_text_130 : decode cX4_text 130 = .ok (.if_icmp .ge 7, 3) := by decide +kernel
theorem dX4_text_133 : decode cX4_text 133 = .ok (.iconst 0, 1) := by decide +kernel
theorem dX4_text_134 : decode cX4_text 134 = .ok (.goto 4, 3) := by decide +kernel
theorem dX4_text_137 : decode cX4_text 137 = .ok (.iconst 1, 1) := by decide +kernel
theorem dX4_text_138 : decode cX4_text 138 = .ok (.iadd, 1) := by decide +kernel
theorem dX4_text_139 : decode cX4_text 139 = .ok (.istore_n 1, 1) := by decide +kernel
theorem dX4_text_140 : decode cX4_text 140 = .ok (.iinc 2 1, 3) := by decide +kernel
theorem dX4_text_143 : decode cX4_text 143 = .ok (.goto (-30), 3) := by decide +kernel
theorem dX4_text_146 : decode cX4_text 146 = .ok (.iload_n 1, 1) := by decide +kernel
theorem dX4_text_147 : decode cX4_text 147 = .ok (.ireturn, 1) := by decide +kernel
theorem dX4_isSpot_0 : decode cX4_isSpot 0 = .ok (.iload_n 0, 1) := by decide +kernel
theorem dX4_isSpot_1 : decode cX4_isSpot 1 = .ok (.iconst 0, 1) := by decide +kernel
theorem dX4_isSpot_2 : decode cX4_isSpot 2 = .ok (.bipush 9, 2) := by decide +kernel
theorem dX4_isSpot_4 : decode cX4_isSpot 4 = .ok (.invokestatic 74, 3) := by decide +kernel
theorem dX4_isSpot_7 : decode cX4_isSpot 7 = .ok (.ireturn, 1) := by decide +kernel
theorem dX4_hold_0 : decode cX4_hold 0 = .ok (.iload_n 1, 1) := by decide +kernel
theorem dX4_hold_1 : decode cX4_hold 1 = .ok (.invokestatic 336, 3) := by decide +kernel
theorem dX4_hold_4 : decode cX4_hold 4 = .ok (.ifCond .eq 16, 3) := by decide +kernel
theorem dX4_hold_7 : decode cX4_hold 7 = .ok (.iload_n 2, 1) := by decide +kernel
theorem dX4_hold_8 : decode cX4_hold 8 = .ok (.iconst (-1), 1) := by decide +kernel
theorem dX4_hold_9 : decode cX4_hold 9 = .ok (.if_icmp .eq 18, 3) := by decide +kernel
theorem dX4_hold_12 : decode cX4_hold 12 = .ok (.aload_n 0, 1) := by decide +kernel
theorem dX4_hold_13 : decode cX4_hold 13 = .ok (.iload_n 2, 1) := by decide +kernel
theorem dX4_hold_14 : decode cX4_hold 14 = .ok (.invokevirtual 141, 3) := by decide +kernel
theorem dX4_hold_17 : decode cX4_hold 17 = .ok (.ifCond .ne 10, 3) := by decide +kernel
theorem dX4_hold_20 : decode cX4_hold 20 = .ok (.aload_n 0, 1) := by decide +kernel
theorem dX4_hold_21 : decode cX4_hold 21 = .ok (.ldc 69, 2) := by decide +kernel
theorem dX4_hold_23 : decode cX4_hold 23 = .ok (.invokevirtual 88, 3) := by decide +kernel
theorem dX4_hold_26 : decode cX4_hold 26 = .ok (.ireturn, 1) := by decide +kernel
theorem dX4_hold_27 : decode cX4_hold 27 = .ok (.aload_n 0, 1) := by decide +kernel
theorem dX4_hold_28 : decode cX4_hold 28 = .ok (.getfield 9, 3) := by decide +kernel
theorem dX4_hold_31 : decode cX4_hold 31 = .ok (.iconst 4, 1) := by decide +kernel
theorem dX4_hold_32 : decode cX4_hold 32 = .ok (.iload_n 1, 1) := by decide +kernel
theorem dX4_hold_33 : decode cX4_hold 33 = .ok (.iadd, 1) := by decide +kernel
theorem dX4_hold_34 : decode cX4_hold 34 = .ok (.iload_n 2, 1) := by decide +kernel
theorem dX4_hold_35 : decode cX4_hold 35 = .ok (.iastore, 1) := by decide +kernel
theorem dX4_hold_36 : decode cX4_hold 36 = .ok (.iconst 1, 1) := by decide +kernel
theorem dX4_hold_37 : decode cX4_hold 37 = .ok (.ireturn, 1) := by decide +kernel
theorem dX4_as_0 : decode cX4_as 0 = .ok (.iload_n 1, 1) := by decide +kernel
theorem dX4_as_1 : decode cX4_as 1 = .ok (.invokestatic 336, 3) := by decide +kernel
theorem dX4_as_4 : decode cX4_as 4 = .ok (.ifCond .eq 10, 3) := by decide +kernel
theorem dX4_as_7 : decode cX4_as 7 = .ok (.iload_n 2, 1) := by decide +kernel
theorem dX4_as_8 : decode cX4_as 8 = .ok (.invokestatic 104, 3) := by decide +kernel
theorem dX4_as_11 : decode cX4_as 11 = .ok (.ifCond .ne 10, 3) := by decide +kernel
theorem dX4_as_14 : decode cX4_as 14 = .ok (.aload_n 0, 1) := by decide +kernel
theorem dX4_as_15 : decode cX4_as 15 = .ok (.ldc 69, 2) := by decide +kernel
theorem dX4_as_17 : decode cX4_as 17 = .ok (.invokevirtual 88, 3) := by decide +kernel
theorem dX4_as_20 : decode cX4_as 20 = .ok (.ireturn, 1) := by decide +kernel
theorem dX4_as_21 : decode cX4_as 21 = .ok (.aload_n 0, 1) := by decide +kernel
theorem dX4_as_22 : decode cX4_as 22 = .ok (.getfield 9, 3) := by decide +kernel
theorem dX4_as_25 : decode cX4_as 25 = .ok (.iconst 4, 1) := by decide +kernel
theorem dX4_as_26 : decode cX4_as 26 = .ok (.iload_n 1, 1) := by decide +kernel
theorem dX4_as_27 : decode cX4_as 27 = .ok (.iadd, 1) := by decide +kernel
theorem dX4_as_28 : decode cX4_as 28 = .ok (.iaload, 1) := by decide +kernel
theorem dX4_as_29 : decode cX4_as 29 = .ok (.istore_n 3, 1) := by decide +kernel
theorem dX4_as_30 : decode cX4_as 30 = .ok (.iload_n 3, 1) := by decide +kernel
theorem dX4_as_31 : decode cX4_as 31 = .ok (.ifCond .ge 10, 3) := by decide +kernel
theorem dX4_as_34 : decode cX4_as 34 = .ok (.aload_n 0, 1) := by decide +kernel
theorem dX4_as_35 : decode cX4_as 35 = .ok (.ldc 214, 2) := by decide +kernel
theorem dX4_as_37 : decode cX4_as 37 = .ok (.invokevirtual 88, 3) := by decide +kernel
theorem dX4_as_40 : decode cX4_as 40 = .ok (.ireturn, 1) := by decide +kernel
theorem dX4_as_41 : decode cX4_as 41 = .ok (.aload_n 0, 1) := by decide +kernel
theorem dX4_as_42 : decode cX4_as 42 = .ok (.iload_n 3, 1) := by decide +kernel
theorem dX4_as_43 : decode cX4_as 43 = .ok (.iconst 0, 1) := by decide +kernel
theorem dX4_as_44 : decode cX4_as 44 = .ok (.invokevirtual 101, 3) := by decide +kernel
theorem dX4_as_47 : decode cX4_as 47 = .ok (.iload_n 2, 1) := by decide +kernel
theorem dX4_as_48 : decode cX4_as 48 = .ok (.invokestatic 118, 3) := by decide +kernel
theorem dX4_as_51 : decode cX4_as 51 = .ok (.ifCond .eq 7, 3) := by decide +kernel
theorem dX4_as_54 : decode cX4_as 54 = .ok (.iload_n 3, 1) := by decide +kernel
theorem dX4_as_55 : decode cX4_as 55 = .ok (.goto 10, 3) := by decide +kernel
theorem dX4_as_58 : decode cX4_as 58 = .ok (.aload_n 0, 1) := by decide +kernel
theorem dX4_as_59 : decode cX4_as 59 = .ok (.ldc_w 339, 3) := by decide +kernel
theorem dX4_as_62 : decode cX4_as 62 = .ok (.invokevirtual 88, 3) := by decide +kernel
theorem dX4_as_65 : decode cX4_as 65 = .ok (.ireturn, 1) := by decide +kernel
theorem dX4_isSheet_0 : decode cX4_isSheet 0 = .ok (.iload_n 0, 1) := by decide +kernel
theorem dX4_isSheet_1 : decode cX4_isSheet 1 = .ok (.iconst 0, 1) := by decide +kernel
theorem dX4_isSheet_2 : decode cX4_isSheet 2 = .ok (.iconst 3, 1) := by decide +kernel
theorem dX4_isSheet_3 : decode cX4_isSheet 3 = .ok (.invokestatic 74, 3) := by decide +kernel
theorem dX4_isSheet_6 : decode cX4_isSheet 6 = .ok (.ireturn, 1) := by decide +kernel
theorem dX4_cutTo_0 : decode cX4_cutTo 0 = .ok (.iload_n 1, 1) := by decide +kernel
theorem dX4_cutTo_1 : decode cX4_cutTo 1 = .ok (.bipush 8, 2) := by decide +kernel
theorem dX4_cutTo_3 : decode cX4_cutTo 3 = .ok (.if_icmp .ne 8, 3) := by decide +kernel
theorem dX4_cutTo_6 : decode cX4_cutTo 6 = .ok (.iload_n 0, 1) := by decide +kernel
theorem dX4_cutTo_7 : decode cX4_cutTo 7 = .ok (.i2b, 1) := by decide +kernel
theorem dX4_cutTo_8 : decode cX4_cutTo 8 = .ok (.goto 15, 3) := by decide +kernel
theorem dX4_cutTo_11 : decode cX4_cutTo 11 = .ok (.iload_n 1, 1) := by decide +kernel
theorem dX4_cutTo_12 : decode cX4_cutTo 12 = .ok (.bipush 16, 2) := by decide +kernel
theorem dX4_cutTo_14 : decode cX4_cutTo 14 = .ok (.if_icmp .ne 8, 3) := by decide +kernel
theorem dX4_cutTo_17 : decode cX4_cutTo 17 = .ok (.iload_n 0, 1) := by decide +kernel
theorem dX4_cutTo_18 : decode cX4_cutTo 18 = .ok (.i2s, 1) := by decide +kernel
theorem dX4_cutTo_19 : decode cX4_cutTo 19 = .ok (.goto 4, 3) := by decide +kernel
theorem dX4_cutTo_22 : decode cX4_cutTo 22 = .ok (.iload_n 0, 1) := by decide +kernel
theorem dX4_cutTo_23 : decode cX4_cutTo 23 = .ok (.ireturn, 1) := by decide +kernel
theorem dX4_sheet_0 : decode cX4_sheet 0 = .ok (.iload_n 1, 1) := by decide +kernel
theorem dX4_sheet_1 : decode cX4_sheet 1 = .ok (.invokestatic 211, 3) := by decide +kernel
theorem dX4_sheet_4 : decode cX4_sheet 4 = .ok (.ifCond .eq 25, 3) := by decide +kernel
theorem dX4_sheet_7 : decode cX4_sheet 7 = .ok (.iload_n 2, 1) := by decide +kernel
theorem dX4_sheet_8 : decode cX4_sheet 8 = .ok (.ifCond .eq 28, 3) := by decide +kernel
theorem dX4_sheet_11 : decode cX4_sheet 11 = .ok (.iload_n 2, 1) := by decide +kernel
theorem dX4_sheet_12 : decode cX4_sheet 12 = .ok (.bipush 8, 2) := by decide +kernel
theorem dX4_sheet_14 : decode cX4_sheet 14 = .ok (.if_icmp .eq 22, 3) := by decide +kernel
theorem dX4_sheet_17 : decode cX4_sheet 17 = .ok (.iload_n 2, 1) := by decide +kernel
theorem dX4_sheet_18 : decode cX4_sheet 18 = .ok (.bipush 16, 2) := by decide +kernel
theorem dX4_sheet_20 : decode cX4_sheet 20 = .ok (.if_icmp .eq 16, 3) := by decide +kernel
theorem dX4_sheet_23 : decode cX4_sheet 23 = .ok (.iload_n 2, 1) := by decide +kernel
theorem dX4_sheet_24 : decode cX4_sheet 24 = .ok (.bipush 32, 2) := by decide +kernel
theorem dX4_sheet_26 : decode cX4_sheet 26 = .ok (.if_icmp .eq 10, 3) := by decide +kernel
theorem dX4_sheet_29 : decode cX4_sheet 29 = .ok (.aload_n 0, 1) := by decide +kernel
theorem dX4_sheet_30 : decode cX4_sheet 30 = .ok (.ldc 69, 2) := by decide +kernel
theorem dX4_sheet_32 : decode cX4_sheet 32 = .ok (.invokevirtual 88, 3) := by decide +kernel
theorem dX4_sheet_35 : decode cX4_sheet 35 = .ok (.ireturn, 1) := by decide +kernel
theorem dX4_sheet_36 : decode cX4_sheet 36 = .ok (.iload_n 3, 1) := by decide +kernel
theorem dX4_sheet_37 : decode cX4_sheet 37 = .ok (.ifCond .ge 11, 3) := by decide +kernel
theorem dX4_sheet_40 : decode cX4_sheet 40 = .ok (.aload_n 0, 1) := by decide +kernel
theorem dX4_sheet_41 : decode cX4_sheet 41 = .ok (.ldc_w 340, 3) := by decide +kernel
theorem dX4_sheet_44 : decode cX4_sheet 44 = .ok (.invokevirtual 88, 3) := by decide +kernel
theorem dX4_sheet_47 : decode cX4_sheet 47 = .ok (.ireturn, 1) := by decide +kernel
theorem dX4_sheet_48 : decode cX4_sheet 48 = .ok (.iload_n 3, 1) := by decide +kernel
theorem dX4_sheet_49 : decode cX4_sheet 49 = .ok (.bipush 40, 2) := by decide +kernel
theorem dX4_sheet_51 : decode cX4_sheet 51 = .ok (.if_icmp .le 10, 3) := by decide +kernel
theorem dX4_sheet_54 : decode cX4_sheet 54 = .ok (.aload_n 0, 1) := by decide +kernel
theorem dX4_sheet_55 : decode cX4_sheet 55 = .ok (.ldc 69, 2) := by decide +kernel
theorem dX4_sheet_57 : decode cX4_sheet 57 = .ok (.invokevirtual 88, 3) := by decide +kernel
theorem dX4_sheet_60 : decode cX4_sheet 60 = .ok (.ireturn, 1) := by decide +kernel
theorem dX4_sheet_61 : decode cX4_sheet 61 = .ok (.aload_n 0, 1) := by decide +kernel
theorem dX4_sheet_62 : decode cX4_sheet 62 = .ok (.getfield 57, 3) := by decide +kernel
theorem dX4_sheet_65 : decode cX4_sheet 65 = .ok (.iload_n 1, 1) := by decide +kernel
theorem dX4_sheet_66 : decode cX4_sheet 66 = .ok (.iload_n 2, 1) := by decide +kernel
theorem dX4_sheet_67 : decode cX4_sheet 67 = .ok (.iastore, 1) := by decide +kernel
theorem dX4_sheet_68 : decode cX4_sheet 68 = .ok (.aload_n 0, 1) := by decide +kernel
theorem dX4_sheet_69 : decode cX4_sheet 69 = .ok (.getfield 60, 3) := by decide +kernel
theorem dX4_sheet_72 : decode cX4_sheet 72 = .ok (.iload_n 1, 1) := by decide +kernel
theorem dX4_sheet_73 : decode cX4_sheet 73 = .ok (.iload_n 2, 1) := by decide +kernel
theorem dX4_sheet_74 : decode cX4_sheet 74 = .ok (.ifCond .ne 7, 3) := by decide +kernel
theorem dX4_sheet_77 : decode cX4_sheet 77 = .ok (.iconst 0, 1) := by decide +kernel
theorem dX4_sheet_78 : decode cX4_sheet 78 = .ok (.goto 4, 3) := by decide +kernel
theorem dX4_sheet_81 : decode cX4_sheet 81 = .ok (.iload_n 3, 1) := by decide +kernel
theorem dX4_sheet_82 : decode cX4_sheet 82 = .ok (.iastore, 1) := by decide +kernel
theorem dX4_sheet_83 : decode cX4_sheet 83 = .ok (.iconst 0, 1) := by decide +kernel
theorem dX4_sheet_84 : decode cX4_sheet 84 = .ok (.istore 4, 2) := by decide +kernel
theorem dX4_sheet_86 : decode cX4_sheet 86 = .ok (.iload 4, 2) := by decide +kernel
theorem dX4_sheet_88 : decode cX4_sheet 88 = .ok (.bipush 40, 2) := by decide +kernel
theorem dX4_sheet_90 : decode cX4_sheet 90 = .ok (.if_icmp .ge 22, 3) := by decide +kernel
theorem dX4_sheet_93 : decode cX4_sheet 93 = .ok (.aload_n 0, 1) := by decide +kernel
theorem dX4_sheet_94 : decode cX4_sheet 94 = .ok (.getfield 63, 3) := by decide +kernel
theorem dX4_sheet_97 : decode cX4_sheet 97 = .ok (.bipush 40, 2) := by decide +kernel
theorem dX4_sheet_99 : decode cX4_sheet 99 = .ok (.iload_n 1, 1) := by decide +kernel
theorem dX4_sheet_100 : decode cX4_sheet 100 = .ok (.imul, 1) := by decide +kernel
theorem dX4_sheet_101 : decode cX4_sheet 101 = .ok (.iload 4, 2) := by decide +kernel
theorem dX4_sheet_103 : decode cX4_sheet 103 = .ok (.iadd, 1) := by decide +kernel
theorem dX4_sheet_104 : decode cX4_sheet 104 = .ok (.iconst 0, 1) := by decide +kernel
theorem dX4_sheet_105 : decode cX4_sheet 105 = .ok (.iastore, 1) := by decide +kernel
theorem dX4_sheet_106 : decode cX4_sheet 106 = .ok (.iinc 4 1, 3) := by decide +kernel
theorem dX4_sheet_109 : decode cX4_sheet 109 = .ok (.goto (-23), 3) := by decide +kernel
theorem dX4_sheet_112 : decode cX4_sheet 112 = .ok (.aload_n 0, 1) := by decide +kernel
theorem dX4_sheet_113 : decode cX4_sheet 113 = .ok (.getfield 60, 3) := by decide +kernel
theorem dX4_sheet_116 : decode cX4_sheet 116 = .ok (.iload_n 1, 1) := by decide +kernel
theorem dX4_sheet_117 : decode cX4_sheet 117 = .ok (.iaload, 1) := by decide +kernel
theorem dX4_sheet_118 : decode cX4_sheet 118 = .ok (.ireturn, 1) := by decide +kernel
theorem dX4_write_0 : decode cX4_write 0 = .ok (.iload_n 1, 1) := by decide +kernel
theorem dX4_write_1 : decode cX4_write 1 = .ok (.invokestatic 211, 3) := by decide +kernel
theorem dX4_write_4 : decode cX4_write 4 = .ok (.ifCond .ne 10, 3) := by decide +kernel
theorem dX4_write_7 : decode cX4_write 7 = .ok (.aload_n 0, 1) := by decide +kernel
theorem dX4_write_8 : decode cX4_write 8 = .ok (.ldc 69, 2) := by decide +kernel
theorem dX4_write_10 : decode cX4_write 10 = .ok (.invokevirtual 88, 3) := by decide +kernel
theorem dX4_write_13 : decode cX4_write 13 = .ok (.ireturn, 1) := by decide +kernel
theorem dX4_write_14 : decode cX4_write 14 = .ok (.aload_n 0, 1) := by decide +kernel
theorem dX4_write_15 : decode cX4_write 15 = .ok (.getfield 57, 3) := by decide +kernel
theorem dX4_write_18 : decode cX4_write 18 = .ok (.iload_n 1, 1) := by decide +kernel
theorem dX4_write_19 : decode cX4_write 19 = .ok (.iaload, 1) := by decide +kernel
theorem dX4_write_20 : decode cX4_write 20 = .ok (.ifCond .ne 10, 3) := by decide +kernel
theorem dX4_write_23 : decode cX4_write 23 = .ok (.aload_n 0, 1) := by decide +kernel
theorem dX4_write_24 : decode cX4_write 24 = .ok (.ldc 214, 2) := by decide +kernel
theorem dX4_write_26 : decode cX4_write 26 = .ok (.invokevirtual 88, 3) := by decide +kernel
theorem dX4_write_29 : decode cX4_write 29 = .ok (.ireturn, 1) := by decide +kernel
theorem dX4_write_30 : decode cX4_write 30 = .ok (.iload_n 2, 1) := by decide +kernel
theorem dX4_write_31 : decode cX4_write 31 = .ok (.iconst 0, 1) := by decide +kernel
theorem dX4_write_32 : decode cX4_write 32 = .ok (.aload_n 0, 1) := by decide +kernel
theorem dX4_write_33 : decode cX4_write 33 = .ok (.getfield 60, 3) := by decide +kernel
theorem dX4_write_36 : decode cX4_write 36 = .ok (.iload_n 1, 1) := by decide +kernel
theorem dX4_write_37 : decode cX4_write 37 = .ok (.iaload, 1) := by decide +kernel
theorem dX4_write_38 : decode cX4_write 38 = .ok (.iconst 1, 1) := by decide +kernel
theorem dX4_write_39 : decode cX4_write 39 = .ok (.isub, 1) := by decide +kernel
theorem dX4_write_40 : decode cX4_write 40 = .ok (.invokestatic 74, 3) := by decide +kernel
theorem dX4_write_43 : decode cX4_write 43 = .ok (.ifCond .ne 10, 3) := by decide +kernel
theorem dX4_write_46 : decode cX4_write 46 = .ok (.aload_n 0, 1) := by decide +kernel
theorem dX4_write_47 : decode cX4_write 47 = .ok (.ldc 69, 2) := by decide +kernel
theorem dX4_write_49 : decode cX4_write 49 = .ok (.invokevirtual 88, 3) := by decide +kernel
theorem dX4_write_52 : decode cX4_write 52 = .ok (.ireturn, 1) := by decide +kernel
theorem dX4_write_53 : decode cX4_write 53 = .ok (.aload_n 0, 1) := by decide +kernel
theorem dX4_write_54 : decode cX4_write 54 = .ok (.getfield 63, 3) := by decide +kernel
theorem dX4_write_57 : decode cX4_write 57 = .ok (.bipush 40, 2) := by decide +kernel
theorem dX4_write_59 : decode cX4_write 59 = .ok (.iload_n 1, 1) := by decide +kernel
theorem dX4_write_60 : decode cX4_write 60 = .ok (.imul, 1) := by decide +kernel
theorem dX4_write_61 : decode cX4_write 61 = .ok (.iload_n 2, 1) := by decide +kernel
theorem dX4_write_62 : decode cX4_write 62 = .ok (.iadd, 1) := by decide +kernel
theorem dX4_write_63 : decode cX4_write 63 = .ok (.iload_n 3, 1) := by decide +kernel
theorem dX4_write_64 : decode cX4_write 64 = .ok (.aload_n 0, 1) := by decide +kernel
theorem dX4_write_65 : decode cX4_write 65 = .ok (.getfield 57, 3) := by decide +kernel
theorem dX4_write_68 : decode cX4_write 68 = .ok (.iload_n 1, 1) := by decide +kernel
theorem dX4_write_69 : decode cX4_write 69 = .ok (.iaload, 1) := by decide +kernel
theorem dX4_write_70 : decode cX4_write 70 = .ok (.invokestatic 341, 3) := by decide +kernel
theorem dX4_write_73 : decode cX4_write 73 = .ok (.iastore, 1) := by decide +kernel
theorem dX4_write_74 : decode cX4_write 74 = .ok (.iconst 1, 1) := by decide +kernel
theorem dX4_write_75 : decode cX4_write 75 = .ok (.ireturn, 1) := by decide +kernel
theorem dX4_copy_0 : decode cX4_copy 0 = .ok (.iload_n 1, 1) := by decide +kernel
theorem dX4_copy_1 : decode cX4_copy 1 = .ok (.invokestatic 211, 3) := by decide +kernel
theorem dX4_copy_4 : decode cX4_copy 4 = .ok (.ifCond .eq 10, 3) := by decide +kernel
theorem dX4_copy_7 : decode cX4_copy 7 = .ok (.iload_n 3, 1) := by decide +kernel
theorem dX4_copy_8 : decode cX4_copy 8 = .ok (.invokestatic 211, 3) := by decide +kernel
theorem dX4_copy_11 : decode cX4_copy 11 = .ok (.ifCond .ne 10, 3) := by decide +kernel
theorem dX4_copy_14 : decode cX4_copy 14 = .ok (.aload_n 0, 1) := by decide +kernel
theorem dX4_copy_15 : decode cX4_copy 15 = .ok (.ldc 69, 2) := by decide +kernel
theorem dX4_copy_17 : decode cX4_copy 17 = .ok (.invokevirtual 88, 3) := by decide +kernel
theorem dX4_copy_20 : decode cX4_copy 20 = .ok (.ireturn, 1) := by decide +kernel
theorem dX4_copy_21 : decode cX4_copy 21 = .ok (.aload_n 0, 1) := by decide +kernel
theorem dX4_copy_22 : decode cX4_copy 22 = .ok (.getfield 57, 3) := by decide +kernel
theorem dX4_copy_25 : decode cX4_copy 25 = .ok (.iload_n 1, 1) := by decide +kernel
theorem dX4_copy_26 : decode cX4_copy 26 = .ok (.iaload, 1) := by decide +kernel
theorem dX4_copy_27 : decode cX4_copy 27 = .ok (.ifCond .eq 12, 3) := by decide +kernel
theorem dX4_copy_30 : decode cX4_copy 30 = .ok (.aload_n 0, 1) := by decide +kernel
theorem dX4_copy_31 : decode cX4_copy 31 = .ok (.getfield 57, 3) := by decide +kernel
theorem dX4_copy_34 : decode cX4_copy 34 = .ok (.iload_n 3, 1) := by decide +kernel
theorem dX4_copy_35 : decode cX4_copy 35 = .ok (.iaload, 1) := by decide +kernel
theorem dX4_copy_36 : decode cX4_copy 36 = .ok (.ifCond .ne 10, 3) := by decide +kernel
theorem dX4_copy_39 : decode cX4_copy 39 = .ok (.aload_n 0, 1) := by decide +kernel
theorem dX4_copy_40 : decode cX4_copy 40 = .ok (.ldc 214, 2) := by decide +kernel
theorem dX4_copy_42 : decode cX4_copy 42 = .ok (.invokevirtual 88, 3) := by decide +kernel
theorem dX4_copy_45 : decode cX4_copy 45 = .ok (.ireturn, 1) := by decide +kernel
theorem dX4_copy_46 : decode cX4_copy 46 = .ok (.aload_n 0, 1) := by decide +kernel
theorem dX4_copy_47 : decode cX4_copy 47 = .ok (.getfield 57, 3) := by decide +kernel
theorem dX4_copy_50 : decode cX4_copy 50 = .ok (.iload_n 1, 1) := by decide +kernel
theorem dX4_copy_51 : decode cX4_copy 51 = .ok (.iaload, 1) := by decide +kernel
theorem dX4_copy_52 : decode cX4_copy 52 = .ok (.aload_n 0, 1) := by decide +kernel
theorem dX4_copy_53 : decode cX4_copy 53 = .ok (.getfield 57, 3) := by decide +kernel
theorem dX4_copy_56 : decode cX4_copy 56 = .ok (.iload_n 3, 1) := by decide +kernel
theorem dX4_copy_57 : decode cX4_copy 57 = .ok (.iaload, 1) := by decide +kernel
theorem dX4_copy_58 : decode cX4_copy 58 = .ok (.if_icmp .eq 11, 3) := by decide +kernel
theorem dX4_copy_61 : decode cX4_copy 61 = .ok (.aload_n 0, 1) := by decide +kernel
theorem dX4_copy_62 : decode cX4_copy 62 = .ok (.ldc_w 339, 3) := by decide +kernel
theorem dX4_copy_65 : decode cX4_copy 65 = .ok (.invokevirtual 88, 3) := by decide +kernel
theorem dX4_copy_68 : decode cX4_copy 68 = .ok (.ireturn, 1) := by decide +kernel
theorem dX4_copy_69 : decode cX4_copy 69 = .ok (.iload_n 2, 1) := by decide +kernel
theorem dX4_copy_70 : decode cX4_copy 70 = .ok (.ifCond .lt 48, 3) := by decide +kernel
theorem dX4_copy_73 : decode cX4_copy 73 = .ok (.iload 4, 2) := by decide +kernel
theorem dX4_copy_75 : decode cX4_copy 75 = .ok (.ifCond .lt 43, 3) := by decide +kernel
theorem dX4_copy_78 : decode cX4_copy 78 = .ok (.iload 5, 2) := by decide +kernel
theorem dX4_copy_80 : decode cX4_copy 80 = .ok (.ifCond .lt 38, 3) := by decide +kernel
theorem dX4_copy_83 : decode cX4_copy 83 = .ok (.iload_n 2, 1) := by decide +kernel
theorem dX4_copy_84 : decode cX4_copy 84 = .ok (.i2l, 1) := by decide +kernel
theorem dX4_copy_85 : decode cX4_copy 85 = .ok (.iload 5, 2) := by decide +kernel
theorem dX4_copy_87 : decode cX4_copy 87 = .ok (.i2l, 1) := by decide +kernel
theorem dX4_copy_88 : decode cX4_copy 88 = .ok (.ladd, 1) := by decide +kernel
theorem dX4_copy_89 : decode cX4_copy 89 = .ok (.aload_n 0, 1) := by decide +kernel
theorem dX4_copy_90 : decode cX4_copy 90 = .ok (.getfield 60, 3) := by decide +kernel
theorem dX4_copy_93 : decode cX4_copy 93 = .ok (.iload_n 1, 1) := by decide +kernel
theorem dX4_copy_94 : decode cX4_copy 94 = .ok (.iaload, 1) := by decide +kernel
theorem dX4_copy_95 : decode cX4_copy 95 = .ok (.i2l, 1) := by decide +kernel
theorem dX4_copy_96 : decode cX4_copy 96 = .ok (.lcmp, 1) := by decide +kernel
theorem dX4_copy_97 : decode cX4_copy 97 = .ok (.ifCond .gt 21, 3) := by decide +kernel
theorem dX4_copy_100 : decode cX4_copy 100 = .ok (.iload 4, 2) := by decide +kernel
theorem dX4_copy_102 : decode cX4_copy 102 = .ok (.i2l, 1) := by decide +kernel
theorem dX4_copy_103 : decode cX4_copy 103 = .ok (.iload 5, 2) := by decide +kernel
theorem dX4_copy_105 : decode cX4_copy 105 = .ok (.i2l, 1) := by decide +kernel
theorem dX4_copy_106 : decode cX4_copy 106 = .ok (.ladd, 1) := by decide +kernel
theorem dX4_copy_107 : decode cX4_copy 107 = .ok (.aload_n 0, 1) := by decide +kernel
theorem dX4_copy_108 : decode cX4_copy 108 = .ok (.getfield 60, 3) := by decide +kernel
theorem dX4_copy_111 : decode cX4_copy 111 = .ok (.iload_n 3, 1) := by decide +kernel
theorem dX4_copy_112 : decode cX4_copy 112 = .ok (.iaload, 1) := by decide +kernel
theorem dX4_copy_113 : decode cX4_copy 113 = .ok (.i2l, 1) := by decide +kernel
theorem dX4_copy_114 : decode cX4_copy 114 = .ok (.lcmp, 1) := by decide +kernel
theorem dX4_copy_115 : decode cX4_copy 115 = .ok (.ifCond .le 10, 3) := by decide +kernel
theorem dX4_copy_118 : decode cX4_copy 118 = .ok (.aload_n 0, 1) := by decide +kernel
theorem dX4_copy_119 : decode cX4_copy 119 = .ok (.ldc 69, 2) := by decide +kernel
theorem dX4_copy_121 : decode cX4_copy 121 = .ok (.invokevirtual 88, 3) := by decide +kernel
theorem dX4_copy_124 : decode cX4_copy 124 = .ok (.ireturn, 1) := by decide +kernel
theorem dX4_copy_125 : decode cX4_copy 125 = .ok (.iconst 0, 1) := by decide +kernel
theorem dX4_copy_126 : decode cX4_copy 126 = .ok (.istore 6, 2) := by decide +kernel
theorem dX4_copy_128 : decode cX4_copy 128 = .ok (.iload 6, 2) := by decide +kernel
theorem dX4_copy_130 : decode cX4_copy 130 = .ok (.iload 5, 2) := by decide +kernel
theorem dX4_copy_132 : decode cX4_copy 132 = .ok (.if_icmp .ge 30, 3) := by decide +kernel
theorem dX4_copy_135 : decode cX4_copy 135 = .ok (.aload_n 0, 1) := by decide +kernel
theorem dX4_copy_136 : decode cX4_copy 136 = .ok (.getfield 66, 3) := by decide +kernel
theorem dX4_copy_139 : decode cX4_copy 139 = .ok (.iload 6, 2) := by decide +kernel
theorem dX4_copy_141 : decode cX4_copy 141 = .ok (.aload_n 0, 1) := by decide +kernel
theorem dX4_copy_142 : decode cX4_copy 142 = .ok (.getfield 63, 3) := by decide +kernel
theorem dX4_copy_145 : decode cX4_copy 145 = .ok (.bipush 40, 2) := by decide +kernel
theorem dX4_copy_147 : decode cX4_copy 147 = .ok (.iload_n 1, 1) := by decide +kernel
theorem dX4_copy_148 : decode cX4_copy 148 = .ok (.imul, 1) := by decide +kernel
theorem dX4_copy_149 : decode cX4_copy 149 = .ok (.iload_n 2, 1) := by decide +kernel
theorem dX4_copy_150 : decode cX4_copy 150 = .ok (.iadd, 1) := by decide +kernel
theorem dX4_copy_151 : decode cX4_copy 151 = .ok (.iload 6, 2) := by decide +kernel
theorem dX4_copy_153 : decode cX4_copy 153 = .ok (.iadd, 1) := by decide +kernel
theorem dX4_copy_154 : decode cX4_copy 154 = .ok (.iaload, 1) := by decide +kernel
theorem dX4_copy_155 : decode cX4_copy 155 = .ok (.iastore, 1) := by decide +kernel
theorem dX4_copy_156 : decode cX4_copy 156 = .ok (.iinc 6 1, 3) := by decide +kernel
theorem dX4_copy_159 : decode cX4_copy 159 = .ok (.goto (-31), 3) := by decide +kernel
theorem dX4_copy_162 : decode cX4_copy 162 = .ok (.iconst 0, 1) := by decide +kernel
theorem dX4_copy_163 : decode cX4_copy 163 = .ok (.istore 6, 2) := by decide +kernel
theorem dX4_copy_165 : decode cX4_copy 165 = .ok (.iload 6, 2) := by decide +kernel
theorem dX4_copy_167 : decode cX4_copy 167 = .ok (.iload 5, 2) := by decide +kernel
theorem dX4_copy_169 : decode cX4_copy 169 = .ok (.if_icmp .ge 31, 3) := by decide +kernel
theorem dX4_copy_172 : decode cX4_copy 172 = .ok (.aload_n 0, 1) := by decide +kernel
theorem dX4_copy_173 : decode cX4_copy 173 = .ok (.getfield 63, 3) := by decide +kernel
theorem dX4_copy_176 : decode cX4_copy 176 = .ok (.bipush 40, 2) := by decide +kernel
theorem dX4_copy_178 : decode cX4_copy 178 = .ok (.iload_n 3, 1) := by decide +kernel
theorem dX4_copy_179 : decode cX4_copy 179 = .ok (.imul, 1) := by decide +kernel
theorem dX4_copy_180 : decode cX4_copy 180 = .ok (.iload 4, 2) := by decide +kernel
theorem dX4_copy_182 : decode cX4_copy 182 = .ok (.iadd, 1) := by decide +kernel
theorem dX4_copy_183 : decode cX4_copy 183 = .ok (.iload 6, 2) := by decide +kernel
theorem dX4_copy_185 : decode cX4_copy 185 = .ok (.iadd, 1) := by decide +kernel
theorem dX4_copy_186 : decode cX4_copy 186 = .ok (.aload_n 0, 1) := by decide +kernel
theorem dX4_copy_187 : decode cX4_copy 187 = .ok (.getfield 66, 3) := by decide +kernel
theorem dX4_copy_190 : decode cX4_copy 190 = .ok (.iload 6, 2) := by decide +kernel
theorem dX4_copy_192 : decode cX4_copy 192 = .ok (.iaload, 1) := by decide +kernel
theorem dX4_copy_193 : decode cX4_copy 193 = .ok (.iastore, 1) := by decide +kernel
theorem dX4_copy_194 : decode cX4_copy 194 = .ok (.iinc 6 1, 3) := by decide +kernel
theorem dX4_copy_197 : decode cX4_copy 197 = .ok (.goto (-32), 3) := by decide +kernel
theorem dX4_copy_200 : decode cX4_copy 200 = .ok (.iload 5, 2) := by decide +kernel
theorem dX4_copy_202 : decode cX4_copy 202 = .ok (.ireturn, 1) := by decide +kernel
theorem dX4_load_0 : decode cX4_load 0 = .ok (.aload_n 0, 1) := by decide +kernel
theorem dX4_load_1 : decode cX4_load 1 = .ok (.iload_n 1, 1) := by decide +kernel
theorem dX4_load_2 : decode cX4_load 2 = .ok (.invokevirtual 221, 3) := by decide +kernel
theorem dX4_load_5 : decode cX4_load 5 = .ok (.ifCond .eq 13, 3) := by decide +kernel
theorem dX4_load_8 : decode cX4_load 8 = .ok (.aload_n 0, 1) := by decide +kernel
theorem dX4_load_9 : decode cX4_load 9 = .ok (.aload_n 0, 1) := by decide +kernel
theorem dX4_load_10 : decode cX4_load 10 = .ok (.iload_n 1, 1) := by decide +kernel
theorem dX4_load_11 : decode cX4_load 11 = .ok (.invokevirtual 221, 3) := by decide +kernel
theorem dX4_load_14 : decode cX4_load 14 = .ok (.invokevirtual 88, 3) := by decide +kernel
theorem dX4_load_17 : decode cX4_load 17 = .ok (.ireturn, 1) := by decide +kernel
theorem dX4_load_18 : decode cX4_load 18 = .ok (.iconst 0, 1) := by decide +kernel
theorem dX4_load_19 : decode cX4_load 19 = .ok (.istore_n 2, 1) := by decide +kernel
theorem dX4_load_20 : decode cX4_load 20 = .ok (.iload_n 2, 1) := by decide +kernel
theorem dX4_load_21 : decode cX4_load 21 = .ok (.aload_n 0, 1) := by decide +kernel
theorem dX4_load_22 : decode cX4_load 22 = .ok (.getfield 60, 3) := by decide +kernel
theorem dX4_load_25 : decode cX4_load 25 = .ok (.iload_n 1, 1) := by decide +kernel
theorem dX4_load_26 : decode cX4_load 26 = .ok (.iaload, 1) := by decide +kernel
theorem dX4_load_27 : decode cX4_load 27 = .ok (.if_icmp .ge 58, 3) := by decide +kernel
theorem dX4_load_30 : decode cX4_load 30 = .ok (.aload_n 0, 1) := by decide +kernel
theorem dX4_load_31 : decode cX4_load 31 = .ok (.iload_n 2, 1) := by decide +kernel
theorem dX4_load_32 : decode cX4_load 32 = .ok (.invokevirtual 141, 3) := by decide +kernel
theorem dX4_load_35 : decode cX4_load 35 = .ok (.ifCond .eq 50, 3) := by decide +kernel
theorem dX4_load_38 : decode cX4_load 38 = .ok (.aload_n 0, 1) := by decide +kernel
theorem dX4_load_39 : decode cX4_load 39 = .ok (.getfield 63, 3) := by decide +kernel
theorem dX4_load_42 : decode cX4_load 42 = .ok (.bipush 40, 2) := by decide +kernel
theorem dX4_load_44 : decode cX4_load 44 = .ok (.iload_n 1, 1) := by decide +kernel
theorem dX4_load_45 : decode cX4_load 45 = .ok (.imul, 1) := by decide +kernel
theorem dX4_load_46 : decode cX4_load 46 = .ok (.iload_n 2, 1) := by decide +kernel
theorem dX4_load_47 : decode cX4_load 47 = .ok (.iadd, 1) := by decide +kernel
theorem dX4_load_48 : decode cX4_load 48 = .ok (.iaload, 1) := by decide +kernel
theorem dX4_load_49 : decode cX4_load 49 = .ok (.iconst 0, 1) := by decide +kernel
theorem dX4_load_50 : decode cX4_load 50 = .ok (.bipush 11, 2) := by decide +kernel
theorem dX4_load_52 : decode cX4_load 52 = .ok (.invokestatic 74, 3) := by decide +kernel
theorem dX4_load_55 : decode cX4_load 55 = .ok (.ifCond .eq 30, 3) := by decide +kernel
theorem dX4_load_58 : decode cX4_load 58 = .ok (.aload_n 0, 1) := by decide +kernel
theorem dX4_load_59 : decode cX4_load 59 = .ok (.getfield 9, 3) := by decide +kernel
theorem dX4_load_62 : decode cX4_load 62 = .ok (.iload_n 2, 1) := by decide +kernel
theorem dX4_load_63 : decode cX4_load 63 = .ok (.iconst 2, 1) := by decide +kernel
theorem dX4_load_64 : decode cX4_load 64 = .ok (.invokestatic 98, 3) := by decide +kernel
theorem dX4_load_67 : decode cX4_load 67 = .ok (.aload_n 0, 1) := by decide +kernel
theorem dX4_load_68 : decode cX4_load 68 = .ok (.getfield 63, 3) := by decide +kernel
theorem dX4_load_71 : decode cX4_load 71 = .ok (.bipush 40, 2) := by decide +kernel
theorem dX4_load_73 : decode cX4_load 73 = .ok (.iload_n 1, 1) := by decide +kernel
theorem dX4_load_74 : decode cX4_load 74 = .ok (.imul, 1) := by decide +kernel
theorem dX4_load_75 : decode cX4_load 75 = .ok (.iload_n 2, 1) := by decide +kernel
theorem dX4_load_76 : decode cX4_load 76 = .ok (.iadd, 1) := by decide +kernel
theorem dX4_load_77 : decode cX4_load 77 = .ok (.iaload, 1) := by decide +kernel
theorem dX4_load_78 : decode cX4_load 78 = .ok (.iastore, 1) := by decide +kernel
theorem dX4_load_79 : decode cX4_load 79 = .ok (.iinc 2 1, 3) := by decide +kernel
theorem dX4_load_82 : decode cX4_load 82 = .ok (.goto (-62), 3) := by decide +kernel
theorem dX4_load_85 : decode cX4_load 85 = .ok (.iload_n 2, 1) := by decide +kernel
theorem dX4_load_86 : decode cX4_load 86 = .ok (.ireturn, 1) := by decide +kernel
theorem dX4_judge_0 : decode cX4_judge 0 = .ok (.aload_n 0, 1) := by decide +kernel
theorem dX4_judge_1 : decode cX4_judge 1 = .ok (.iload_n 1, 1) := by decide +kernel
theorem dX4_judge_2 : decode cX4_judge 2 = .ok (.invokevirtual 221, 3) := by decide +kernel
theorem dX4_judge_5 : decode cX4_judge 5 = .ok (.ifCond .eq 13, 3) := by decide +kernel
theorem dX4_judge_8 : decode cX4_judge 8 = .ok (.aload_n 0, 1) := by decide +kernel
theorem dX4_judge_9 : decode cX4_judge 9 = .ok (.aload_n 0, 1) := by decide +kernel
theorem dX4_judge_10 : decode cX4_judge 10 = .ok (.iload_n 1, 1) := by decide +kernel
theorem dX4_judge_11 : decode cX4_judge 11 = .ok (.invokevirtual 221, 3) := by decide +kernel
theorem dX4_judge_14 : decode cX4_judge 14 = .ok (.invokevirtual 88, 3) := by decide +kernel
theorem dX4_judge_17 : decode cX4_judge 17 = .ok (.ireturn, 1) := by decide +kernel
theorem dX4_judge_18 : decode cX4_judge 18 = .ok (.iconst 0, 1) := by decide +kernel
theorem dX4_judge_19 : decode cX4_judge 19 = .ok (.istore_n 2, 1) := by decide +kernel
theorem dX4_judge_20 : decode cX4_judge 20 = .ok (.iconst (-1), 1) := by decide +kernel
theorem dX4_judge_21 : decode cX4_judge 21 = .ok (.istore_n 3, 1) := by decide +kernel
theorem dX4_judge_22 : decode cX4_judge 22 = .ok (.iconst 1, 1) := by decide +kernel
theorem dX4_judge_23 : decode cX4_judge 23 = .ok (.istore 4, 2) := by decide +kernel
theorem dX4_judge_25 : decode cX4_judge 25 = .ok (.iload_n 2, 1) := by decide +kernel
theorem dX4_judge_26 : decode cX4_judge 26 = .ok (.aload_n 0, 1) := by decide +kernel
theorem dX4_judge_27 : decode cX4_judge 27 = .ok (.getfield 60, 3) := by decide +kernel
theorem dX4_judge_30 : decode cX4_judge 30 = .ok (.iload_n 1, 1) := by decide +kernel
theorem dX4_judge_31 : decode cX4_judge 31 = .ok (.iaload, 1) := by decide +kernel
theorem dX4_judge_32 : decode cX4_judge 32 = .ok (.if_icmp .ge 91, 3) := by decide +kernel
theorem dX4_judge_35 : decode cX4_judge 35 = .ok (.iload 4, 2) := by decide +kernel
theorem dX4_judge_37 : decode cX4_judge 37 = .ok (.ifCond .eq 86, 3) := by decide +kernel
theorem dX4_judge_40 : decode cX4_judge 40 = .ok (.aload_n 0, 1) := by decide +kernel
theorem dX4_judge_41 : decode cX4_judge 41 = .ok (.getfield 63, 3) := by decide +kernel
theorem dX4_judge_44 : decode cX4_judge 44 = .ok (.bipush 40, 2) := by decide +kernel
theorem dX4_judge_46 : decode cX4_judge 46 = .ok (.iload_n 1, 1) := by decide +kernel
theorem dX4_judge_47 : decode cX4_judge 47 = .ok (.imul, 1) := by decide +kernel
theorem dX4_judge_48 : decode cX4_judge 48 = .ok (.iload_n 2, 1) := by decide +kernel
theorem dX4_judge_49 : decode cX4_judge 49 = .ok (.iadd, 1) := by decide +kernel
theorem dX4_judge_50 : decode cX4_judge 50 = .ok (.iaload, 1) := by decide +kernel
theorem dX4_judge_51 : decode cX4_judge 51 = .ok (.istore 5, 2) := by decide +kernel
theorem dX4_judge_53 : decode cX4_judge 53 = .ok (.aload_n 0, 1) := by decide +kernel
theorem dX4_judge_54 : decode cX4_judge 54 = .ok (.iload 5, 2) := by decide +kernel
theorem dX4_judge_56 : decode cX4_judge 56 = .ok (.invokevirtual 141, 3) := by decide +kernel
theorem dX4_judge_59 : decode cX4_judge 59 = .ok (.ifCond .eq 28, 3) := by decide +kernel
theorem dX4_judge_62 : decode cX4_judge 62 = .ok (.iload_n 2, 1) := by decide +kernel
theorem dX4_judge_63 : decode cX4_judge 63 = .ok (.ifCond .eq 20, 3) := by decide +kernel
theorem dX4_judge_66 : decode cX4_judge 66 = .ok (.aload_n 0, 1) := by decide +kernel
theorem dX4_judge_67 : decode cX4_judge 67 = .ok (.iload 5, 2) := by decide +kernel
theorem dX4_judge_69 : decode cX4_judge 69 = .ok (.iconst 2, 1) := by decide +kernel
theorem dX4_judge_70 : decode cX4_judge 70 = .ok (.invokevirtual 101, 3) := by decide +kernel
theorem dX4_judge_73 : decode cX4_judge 73 = .ok (.iload_n 3, 1) := by decide +kernel
theorem dX4_judge_74 : decode cX4_judge 74 = .ok (.isub, 1) := by decide +kernel
theorem dX4_judge_75 : decode cX4_judge 75 = .ok (.iconst 1, 1) := by decide +kernel
theorem dX4_judge_76 : decode cX4_judge 76 = .ok (.iconst 2, 1) := by decide +kernel
theorem dX4_judge_77 : decode cX4_judge 77 = .ok (.invokestatic 74, 3) := by decide +kernel
theorem dX4_judge_80 : decode cX4_judge 80 = .ok (.ifCond .eq 7, 3) := by decide +kernel
theorem dX4_judge_83 : decode cX4_judge 83 = .ok (.iconst 1, 1) := by decide +kernel
theorem dX4_judge_84 : decode cX4_judge 84 = .ok (.goto 4, 3) := by decide +kernel
theorem dX4_judge_87 : decode cX4_judge 87 = .ok (.iconst 0, 1) := by decide +kernel
theorem dX4_judge_88 : decode cX4_judge 88 = .ok (.istore 4, 2) := by decide +kernel
theorem dX4_judge_90 : decode cX4_judge 90 = .ok (.iload 4, 2) := by decide +kernel
theorem dX4_judge_92 : decode cX4_judge 92 = .ok (.ifCond .eq 13, 3) := by decide +kernel
theorem dX4_judge_95 : decode cX4_judge 95 = .ok (.aload_n 0, 1) := by decide +kernel
theorem dX4_judge_96 : decode cX4_judge 96 = .ok (.iload 5, 2) := by decide +kernel
theorem dX4_judge_98 : decode cX4_judge 98 = .ok (.iconst 2, 1) := by decide +kernel
theorem dX4_judge_99 : decode cX4_judge 99 = .ok (.invokevirtual 101, 3) := by decide +kernel
theorem dX4_judge_102 : decode cX4_judge 102 = .ok (.goto 4, 3) := by decide +kernel
theorem dX4_judge_105 : decode cX4_judge 105 = .ok (.iload_n 3, 1) := by decide +kernel
theorem dX4_judge_106 : decode cX4_judge 106 = .ok (.istore_n 3, 1) := by decide +kernel
theorem dX4_judge_107 : decode cX4_judge 107 = .ok (.iload_n 2, 1) := by decide +kernel
theorem dX4_judge_108 : decode cX4_judge 108 = .ok (.iload 4, 2) := by decide +kernel
theorem dX4_judge_110 : decode cX4_judge 110 = .ok (.ifCond .eq 7, 3) := by decide +kernel
theorem dX4_judge_113 : decode cX4_judge 113 = .ok (.iconst 1, 1) := by decide +kernel
theorem dX4_judge_114 : decode cX4_judge 114 = .ok (.goto 4, 3) := by decide +kernel
theorem dX4_judge_117 : decode cX4_judge 117 = .ok (.iconst 0, 1) := by decide +kernel
theorem dX4_judge_118 : decode cX4_judge 118 = .ok (.iadd, 1) := by decide +kernel
theorem dX4_judge_119 : decode cX4_judge 119 = .ok (.istore_n 2, 1) := by decide +kernel
theorem dX4_judge_120 : decode cX4_judge 120 = .ok (.goto (-95), 3) := by decide +kernel
theorem dX4_judge_123 : decode cX4_judge 123 = .ok (.iload 4, 2) := by decide +kernel
theorem dX4_judge_125 : decode cX4_judge 125 = .ok (.ifCond .eq 7, 3) := by decide +kernel
theorem dX4_judge_128 : decode cX4_judge 128 = .ok (.iconst 0, 1) := by decide +kernel
theorem dX4_judge_129 : decode cX4_judge 129 = .ok (.goto 6, 3) := by decide +kernel
theorem dX4_judge_132 : decode cX4_judge 132 = .ok (.iconst 1, 1) := by decide +kernel
theorem dX4_judge_133 : decode cX4_judge 133 = .ok (.iload_n 2, 1) := by decide +kernel
theorem dX4_judge_134 : decode cX4_judge 134 = .ok (.iadd, 1) := by decide +kernel
theorem dX4_judge_135 : decode cX4_judge 135 = .ok (.ireturn, 1) := by decide +kernel
theorem dX4_image_0 : decode cX4_image 0 = .ok (.aload_n 0, 1) := by decide +kernel
theorem dX4_image_1 : decode cX4_image 1 = .ok (.getfield 9, 3) := by decide +kernel
theorem dX4_image_4 : decode cX4_image 4 = .ok (.aload_n 0, 1) := by decide +kernel
theorem dX4_image_5 : decode cX4_image 5 = .ok (.getfield 13, 3) := by decide +kernel
theorem dX4_image_8 : decode cX4_image 8 = .ok (.invokestatic 70, 3) := by decide +kernel
theorem dX4_image_11 : decode cX4_image 11 = .ok (.aload_n 0, 1) := by decide +kernel
theorem dX4_image_12 : decode cX4_image 12 = .ok (.iconst 1, 1) := by decide +kernel
theorem dX4_image_13 : decode cX4_image 13 = .ok (.putfield 344, 3) := by decide +kernel
theorem dX4_image_16 : decode cX4_image 16 = .ok (.iconst 1, 1) := by decide +kernel
theorem dX4_image_17 : decode cX4_image 17 = .ok (.ireturn, 1) := by decide +kernel
theorem dX4_undo_0 : decode cX4_undo 0 = .ok (.aload_n 0, 1) := by decide +kernel
theorem dX4_undo_1 : decode cX4_undo 1 = .ok (.getfield 344, 3) := by decide +kernel
theorem dX4_undo_4 : decode cX4_undo 4 = .ok (.ifCond .ne 10, 3) := by decide +kernel
theorem dX4_undo_7 : decode cX4_undo 7 = .ok (.aload_n 0, 1) := by decide +kernel
theorem dX4_undo_8 : decode cX4_undo 8 = .ok (.ldc 198, 2) := by decide +kernel
theorem dX4_undo_10 : decode cX4_undo 10 = .ok (.invokevirtual 88, 3) := by decide +kernel
theorem dX4_undo_13 : decode cX4_undo 13 = .ok (.ireturn, 1) := by decide +kernel
theorem dX4_undo_14 : decode cX4_undo 14 = .ok (.aload_n 0, 1) := by decide +kernel
theorem dX4_undo_15 : decode cX4_undo 15 = .ok (.getfield 13, 3) := by decide +kernel
theorem dX4_undo_18 : decode cX4_undo 18 = .ok (.aload_n 0, 1) := by decide +kernel
theorem dX4_undo_19 : decode cX4_undo 19 = .ok (.getfield 9, 3) := by decide +kernel
theorem dX4_undo_22 : decode cX4_undo 22 = .ok (.invokestatic 70, 3) := by decide +kernel
theorem dX4_undo_25 : decode cX4_undo 25 = .ok (.aload_n 0, 1) := by decide +kernel
theorem dX4_undo_26 : decode cX4_undo 26 = .ok (.getfield 9, 3) := by decide +kernel
theorem dX4_undo_29 : decode cX4_undo 29 = .ok (.iconst 0, 1) := by decide +kernel
theorem dX4_undo_30 : decode cX4_undo 30 = .ok (.iaload, 1) := by decide +kernel
theorem dX4_undo_31 : decode cX4_undo 31 = .ok (.ireturn, 1) := by decide +kernel
theorem dX4_tear_0 : decode cX4_tear 0 = .ok (.aload_n 0, 1) := by decide +kernel
theorem dX4_tear_1 : decode cX4_tear 1 = .ok (.getfield 344, 3) := by decide +kernel
theorem dX4_tear_4 : decode cX4_tear 4 = .ok (.ifCond .eq 7, 3) := by decide +kernel
theorem dX4_tear_7 : decode cX4_tear 7 = .ok (.iconst 1, 1) := by decide +kernel
theorem dX4_tear_8 : decode cX4_tear 8 = .ok (.goto 4, 3) := by decide +kernel
theorem dX4_tear_11 : decode cX4_tear 11 = .ok (.iconst 0, 1) := by decide +kernel
theorem dX4_tear_12 : decode cX4_tear 12 = .ok (.istore_n 1, 1) := by decide +kernel
theorem dX4_tear_13 : decode cX4_tear 13 = .ok (.aload_n 0, 1) := by decide +kernel
theorem dX4_tear_14 : decode cX4_tear 14 = .ok (.iconst 0, 1) := by decide +kernel
theorem dX4_tear_15 : decode cX4_tear 15 = .ok (.putfield 344, 3) := by decide +kernel
theorem dX4_tear_18 : decode cX4_tear 18 = .ok (.iload_n 1, 1) := by decide +kernel
theorem dX4_tear_19 : decode cX4_tear 19 = .ok (.ireturn, 1) := by decide +kernel
theorem dX4_count_0 : decode cX4_count 0 = .ok (.iconst 0, 1) := by decide +kernel
theorem dX4_count_1 : decode cX4_count 1 = .ok (.istore_n 2, 1) := by decide +kernel
theorem dX4_count_2 : decode cX4_count 2 = .ok (.iload_n 1, 1) := by decide +kernel
theorem dX4_count_3 : decode cX4_count 3 = .ok (.tableswitch 148 0 7 #[45, 52, 59, 67, 72, 101, 106, 113], 45) := by decide +kernel
theorem dX4_count_48 : decode cX4_count 48 = .ok (.aload_n 0, 1) := by decide +kernel
theorem dX4_count_49 : decode cX4_count 49 = .ok (.getfield 9, 3) := by decide +kernel
theorem dX4_count_52 : decode cX4_count 52 = .ok (.iconst 0, 1) := by decide +kernel
theorem dX4_count_53 : decode cX4_count 53 = .ok (.iaload, 1) := by decide +kernel
theorem dX4_count_54 : decode cX4_count 54 = .ok (.ireturn, 1) := by decide +kernel
theorem dX4_count_55 : decode cX4_count 55 = .ok (.aload_n 0, 1) := by decide +kernel
theorem dX4_count_56 : decode cX4_count 56 = .ok (.getfield 9, 3) := by decide +kernel
theorem dX4_count_59 : decode cX4_count 59 = .ok (.iconst 2, 1) := by decide +kernel
theorem dX4_count_60 : decode cX4_count 60 = .ok (.iaload, 1) := by decide +kernel
theorem dX4_count_61 : decode cX4_count 61 = .ok (.ireturn, 1) := by decide +kernel
theorem dX4_count_62 : decode cX4_count 62 = .ok (.aload_n 0, 1) := by decide +kernel
theorem dX4_count_63 : decode cX4_count 63 = .ok (.invokevirtual 178, 3) := by decide +kernel
theorem dX4_count_66 : decode cX4_count 66 = .ok (.invokestatic 182, 3) := by decide +kernel
theorem dX4_count_69 : decode cX4_count 69 = .ok (.ireturn, 1) := by decide +kernel
theorem dX4_count_70 : decode cX4_count 70 = .ok (.aload_n 0, 1) := by decide +kernel
theorem dX4_count_71 : decode cX4_count 71 = .ok (.invokevirtual 185, 3) := by decide +kernel
theorem dX4_count_74 : decode cX4_count 74 = .ok (.ireturn, 1) := by decide +kernel
theorem dX4_count_75 : decode cX4_count 75 = .ok (.iconst 0, 1) := by decide +kernel
theorem dX4_count_76 : decode cX4_count 76 = .ok (.istore_n 3, 1) := by decide +kernel
theorem dX4_count_77 : decode cX4_count 77 = .ok (.iload_n 3, 1) := by decide +kernel
theorem dX4_count_78 : decode cX4_count 78 = .ok (.aload_n 0, 1) := by decide +kernel
theorem dX4_count_79 : decode cX4_count 79 = .ok (.getfield 9, 3) := by decide +kernel
theorem dX4_count_82 : decode cX4_count 82 = .ok (.iconst 2, 1) := by decide +kernel
theorem dX4_count_83 : decode cX4_count 83 = .ok (.iaload, 1) := by decide +kernel
theorem dX4_count_84 : decode cX4_count 84 = .ok (.if_icmp .ge 18, 3) := by decide +kernel
theorem dX4_count_87 : decode cX4_count 87 = .ok (.iload_n 2, 1) := by decide +kernel
theorem dX4_count_88 : decode cX4_count 88 = .ok (.aload_n 0, 1) := by decide +kernel
theorem dX4_count_89 : decode cX4_count 89 = .ok (.iload_n 3, 1) := by decide +kernel
theorem dX4_count_90 : decode cX4_count 90 = .ok (.iconst 3, 1) := by decide +kernel
theorem dX4_count_91 : decode cX4_count 91 = .ok (.invokevirtual 101, 3) := by decide +kernel
theorem dX4_count_94 : decode cX4_count 94 = .ok (.iadd, 1) := by decide +kernel
theorem dX4_count_95 : decode cX4_count 95 = .ok (.istore_n 2, 1) := by decide +kernel
theorem dX4_count_96 : decode cX4_count 96 = .ok (.iinc 3 1, 3) := by decide +kernel
theorem dX4_count_99 : decode cX4_count 99 = .ok (.goto (-22), 3) := by decide +kernel
theorem dX4_count_102 : decode cX4_count 102 = .ok (.iload_n 2, 1) := by decide +kernel
theorem dX4_count_103 : decode cX4_count 103 = .ok (.ireturn, 1) := by decide +kernel
theorem dX4_count_104 : decode cX4_count 104 = .ok (.aload_n 0, 1) := by decide +kernel
theorem dX4_count_105 : decode cX4_count 105 = .ok (.getfield 258, 3) := by decide +kernel
theorem dX4_count_108 : decode cX4_count 108 = .ok (.ireturn, 1) := by decide +kernel
theorem dX4_count_109 : decode cX4_count 109 = .ok (.aload_n 0, 1) := by decide +kernel
theorem dX4_count_110 : decode cX4_count 110 = .ok (.getfield 9, 3) := by decide +kernel
theorem dX4_count_113 : decode cX4_count 113 = .ok (.iconst 3, 1) := by decide +kernel
theorem dX4_count_114 : decode cX4_count 114 = .ok (.iaload, 1) := by decide +kernel
theorem dX4_count_115 : decode cX4_count 115 = .ok (.ireturn, 1) := by decide +kernel
theorem dX4_count_116 : decode cX4_count 116 = .ok (.iconst 0, 1) := by decide +kernel
theorem dX4_count_117 : decode cX4_count 117 = .ok (.istore_n 3, 1) := by decide +kernel
theorem dX4_count_118 : decode cX4_count 118 = .ok (.iload_n 3, 1) := by decide +kernel
theorem dX4_count_119 : decode cX4_count 119 = .ok (.bipush 10, 2) := by decide +kernel
theorem dX4_count_121 : decode cX4_count 121 = .ok (.if_icmp .ge 28, 3) := by decide +kernel
theorem dX4_count_124 : decode cX4_count 124 = .ok (.iload_n 2, 1) := by decide +kernel
theorem dX4_count_125 : decode cX4_count 125 = .ok (.aload_n 0, 1) := by decide +kernel
theorem dX4_count_126 : decode cX4_count 126 = .ok (.getfield 9, 3) := by decide +kernel
theorem dX4_count_129 : decode cX4_count 129 = .ok (.iconst 4, 1) := by decide +kernel
theorem dX4_count_130 : decode cX4_count 130 = .ok (.iload_n 3, 1) := by decide +kernel
theorem dX4_count_131 : decode cX4_count 131 = .ok (.iadd, 1) := by decide +kernel
theorem dX4_count_132 : decode cX4_count 132 = .ok (.iaload, 1) := by decide +kernel
theorem dX4_count_133 : decode cX4_count 133 = .ok (.ifCond .ge 7, 3) := by decide +kernel
theorem dX4_count_136 : decode cX4_count 136 = .ok (.iconst 0, 1) := by decide +kernel
theorem dX4_count_137 : decode cX4_count 137 = .ok (.goto 4, 3) := by decide +kernel
theorem dX4_count_140 : decode cX4_count 140 = .ok (.iconst 1, 1) := by decide +kernel
theorem dX4_count_141 : decode cX4_count 141 = .ok (.iadd, 1) := by decide +kernel
theorem dX4_count_142 : decode cX4_count 142 = .ok (.istore_n 2, 1) := by decide +kernel
theorem dX4_count_143 : decode cX4_count 143 = .ok (.iinc 3 1, 3) := by decide +kernel
theorem dX4_count_146 : decode cX4_count 146 = .ok (.goto (-28), 3) := by decide +kernel
theorem dX4_count_149 : decode cX4_count 149 = .ok (.iload_n 2, 1) := by decide +kernel
theorem dX4_count_150 : decode cX4_count 150 = .ok (.ireturn, 1) := by decide +kernel
theorem dX4_count_151 : decode cX4_count 151 = .ok (.aload_n 0, 1) := by decide +kernel
theorem dX4_count_152 : decode cX4_count 152 = .ok (.ldc 69, 2) := by decide +kernel
theorem dX4_count_154 : decode cX4_count 154 = .ok (.invokevirtual 88, 3) := by decide +kernel
theorem dX4_count_157 : decode cX4_count 157 = .ok (.ireturn, 1) := by decide +kernel
theorem dX4_status_0 : decode cX4_status 0 = .ok (.iload_n 1, 1) := by decide +kernel
theorem dX4_status_1 : decode cX4_status 1 = .ok (.iconst (-1), 1) := by decide +kernel
theorem dX4_status_2 : decode cX4_status 2 = .ok (.bipush 6, 2) := by decide +kernel
theorem dX4_status_4 : decode cX4_status 4 = .ok (.invokestatic 74, 3) := by decide +kernel
theorem dX4_status_7 : decode cX4_status 7 = .ok (.ifCond .eq 14, 3) := by decide +kernel
theorem dX4_status_10 : decode cX4_status 10 = .ok (.aload_n 0, 1) := by decide +kernel
theorem dX4_status_11 : decode cX4_status 11 = .ok (.getfield 19, 3) := by decide +kernel
theorem dX4_status_14 : decode cX4_status 14 = .ok (.iload_n 1, 1) := by decide +kernel
theorem dX4_status_15 : decode cX4_status 15 = .ok (.iconst 1, 1) := by decide +kernel
theorem dX4_status_16 : decode cX4_status 16 = .ok (.iadd, 1) := by decide +kernel
theorem dX4_status_17 : decode cX4_status 17 = .ok (.iaload, 1) := by decide +kernel
theorem dX4_status_18 : decode cX4_status 18 = .ok (.goto 9, 3) := by decide +kernel
theorem dX4_status_21 : decode cX4_status 21 = .ok (.aload_n 0, 1) := by decide +kernel
theorem dX4_status_22 : decode cX4_status 22 = .ok (.ldc 69, 2) := by decide +kernel
theorem dX4_status_24 : decode cX4_status 24 = .ok (.invokevirtual 88, 3) := by decide +kernel
theorem dX4_status_27 : decode cX4_status 27 = .ok (.ireturn, 1) := by decide +kernel
