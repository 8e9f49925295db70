theorem dX12_init_0 : decode cX12_init 0 = .ok (.aload_n 0, 1) := by decide +kernel
theorem dX12_init_1 : decode cX12_init 1 = .ok (.invokespecial 3, 3) := by decide +kernel
theorem dX12_init_4 : decode cX12_init 4 = .ok (.aload_n 0, 1) := by decide +kernel
theorem dX12_init_5 : decode cX12_init 5 = .ok (.sipush 369, 3) := by decide +kernel
theorem dX12_init_8 : decode cX12_init 8 = .ok (.newarray .int, 2) := by decide +kernel
theorem dX12_init_10 : decode cX12_init 10 = .ok (.putfield 9, 3) := by decide +kernel
theorem dX12_init_13 : decode cX12_init 13 = .ok (.aload_n 0, 1) := by decide +kernel
theorem dX12_init_14 : decode cX12_init 14 = .ok (.sipush 369, 3) := by decide +kernel
theorem dX12_init_17 : decode cX12_init 17 = .ok (.newarray .int, 2) := by decide +kernel
theorem dX12_init_19 : decode cX12_init 19 = .ok (.putfield 13, 3) := by decide +kernel
theorem dX12_init_22 : decode cX12_init 22 = .ok (.aload_n 0, 1) := by decide +kernel
theorem dX12_init_23 : decode cX12_init 23 = .ok (.sipush 369, 3) := by decide +kernel
theorem dX12_init_26 : decode cX12_init 26 = .ok (.newarray .int, 2) := by decide +kernel
theorem dX12_init_28 : decode cX12_init 28 = .ok (.putfield 16, 3) := by decide +kernel
theorem dX12_init_31 : decode cX12_init 31 = .ok (.aload_n 0, 1) := by decide +kernel
theorem dX12_init_32 : decode cX12_init 32 = .ok (.bipush 6, 2) := by decide +kernel
theorem dX12_init_34 : decode cX12_init 34 = .ok (.newarray .int, 2) := by decide +kernel
theorem dX12_init_36 : decode cX12_init 36 = .ok (.putfield 19, 3) := by decide +kernel
theorem dX12_init_39 : decode cX12_init 39 = .ok (.aload_n 0, 1) := by decide +kernel
theorem dX12_init_40 : decode cX12_init 40 = .ok (.bipush 8, 2) := by decide +kernel
theorem dX12_init_42 : decode cX12_init 42 = .ok (.newarray .int, 2) := by decide +kernel
theorem dX12_init_44 : decode cX12_init 44 = .ok (.dup, 1) := by decide +kernel
theorem dX12_init_45 : decode cX12_init 45 = .ok (.iconst 0, 1) := by decide +kernel
theorem dX12_init_46 : decode cX12_init 46 = .ok (.iconst 1, 1) := by decide +kernel
theorem dX12_init_47 : decode cX12_init 47 = .ok (.iastore, 1) := by decide +kernel
theorem dX12_init_48 : decode cX12_init 48 = .ok (.dup, 1) := by decide +kernel
theorem dX12_init_49 : decode cX12_init 49 = .ok (.iconst 1, 1) := by decide +kernel
theorem dX12_init_50 : decode cX12_init 50 = .ok (.iconst 1, 1) := by decide +kernel
theorem dX12_init_51 : decode cX12_init 51 = .ok (.iastore, 1) := by decide +kernel
theorem dX12_init_52 : decode cX12_init 52 = .ok (.dup, 1) := by decide +kernel
theorem dX12_init_53 : decode cX12_init 53 = .ok (.iconst 2, 1) := by decide +kernel
theorem dX12_init_54 : decode cX12_init 54 = .ok (.iconst 0, 1) := by decide +kernel
theorem dX12_init_55 : decode cX12_init 55 = .ok (.iastore, 1) := by decide +kernel
theorem dX12_init_56 : decode cX12_init 56 = .ok (.dup, 1) := by decide +kernel
theorem dX12_init_57 : decode cX12_init 57 = .ok (.iconst 3, 1) := by decide +kernel
theorem dX12_init_58 : decode cX12_init 58 = .ok (.iconst (-1), 1) := by decide +kernel
theorem dX12_init_59 : decode cX12_init 59 = .ok (.iastore, 1) := by decide +kernel
theorem dX12_init_60 : decode cX12_init 60 = .ok (.dup, 1) := by decide +kernel
theorem dX12_init_61 : decode cX12_init 61 = .ok (.iconst 4, 1) := by decide +kernel
theorem dX12_init_62 : decode cX12_init 62 = .ok (.iconst (-1), 1) := by decide +kernel
theorem dX12_init_63 : decode cX12_init 63 = .ok (.iastore, 1) := by decide +kernel
theorem dX12_init_64 : decode cX12_init 64 = .ok (.dup, 1) := by decide +kernel
theorem dX12_init_65 : decode cX12_init 65 = .ok (.iconst 5, 1) := by decide +kernel
theorem dX12_init_66 : decode cX12_init 66 = .ok (.iconst (-1), 1) := by decide +kernel
theorem dX12_init_67 : decode cX12_init 67 = .ok (.iastore, 1) := by decide +kernel
theorem dX12_init_68 : decode cX12_init 68 = .ok (.dup, 1) := by decide +kernel
theorem dX12_init_69 : decode cX12_init 69 = .ok (.bipush 6, 2) := by decide +kernel
theorem dX12_init_71 : decode cX12_init 71 = .ok (.iconst 0, 1) := by decide +kernel
theorem dX12_init_72 : decode cX12_init 72 = .ok (.iastore, 1) := by decide +kernel
theorem dX12_init_73 : decode cX12_init 73 = .ok (.dup, 1) := by decide +kernel
theorem dX12_init_74 : decode cX12_init 74 = .ok (.bipush 7, 2) := by decide +kernel
theorem dX12_init_76 : decode cX12_init 76 = .ok (.iconst 1, 1) := by decide +kernel
theorem dX12_init_77 : decode cX12_init 77 = .ok (.iastore, 1) := by decide +kernel
theorem dX12_init_78 : decode cX12_init 78 = .ok (.putfield 22, 3) := by decide +kernel
theorem dX12_init_81 : decode cX12_init 81 = .ok (.aload_n 0, 1) := by decide +kernel
theorem dX12_init_82 : decode cX12_init 82 = .ok (.bipush 8, 2) := by decide +kernel
theorem dX12_init_84 : decode cX12_init 84 = .ok (.newarray .int, 2) := by decide +kernel
theorem dX12_init_86 : decode cX12_init 86 = .ok (.dup, 1) := by decide +kernel
theorem dX12_init_87 : decode cX12_init 87 = .ok (.iconst 0, 1) := by decide +kernel
theorem dX12_init_88 : decode cX12_init 88 = .ok (.iconst 0, 1) := by decide +kernel
theorem dX12_init_89 : decode cX12_init 89 = .ok (.iastore, 1) := by decide +kernel
theorem dX12_init_90 : decode cX12_init 90 = .ok (.dup, 1) := by decide +kernel
theorem dX12_init_91 : decode cX12_init 91 = .ok (.iconst 1, 1) := by decide +kernel
theorem dX12_init_92 : decode cX12_init 92 = .ok (.iconst 1, 1) := by decide +kernel
theorem dX12_init_93 : decode cX12_init 93 = .ok (.iastore, 1) := by decide +kernel
theorem dX12_init_94 : decode cX12_init 94 = .ok (.dup, 1) := by decide +kernel
theorem dX12_init_95 : decode cX12_init 95 = .ok (.iconst 2, 1) := by decide +kernel
theorem dX12_init_96 : decode cX12_init 96 = .ok (.iconst 1, 1) := by decide +kernel
theorem dX12_init_97 : decode cX12_init 97 = .ok (.iastore, 1) := by decide +kernel
theorem dX12_init_98 : decode cX12_init 98 = .ok (.dup, 1) := by decide +kernel
theorem dX12_init_99 : decode cX12_init 99 = .ok (.iconst 3, 1) := by decide +kernel
theorem dX12_init_100 : decode cX12_init 100 = .ok (.iconst 1, 1) := by decide +kernel
theorem dX12_init_101 : decode cX12_init 101 = .ok (.iastore, 1) := by decide +kernel
theorem dX12_init_102 : decode cX12_init 102 = .ok (.dup, 1) := by decide +kernel
theorem dX12_init_103 : decode cX12_init 103 = .ok (.iconst 4, 1) := by decide +kernel
theorem dX12_init_104 : decode cX12_init 104 = .ok (.iconst 0, 1) := by decide +kernel
theorem dX12_init_105 : decode cX12_init 105 = .ok (.iastore, 1) := by decide +kernel
theorem dX12_init_106 : decode cX12_init 106 = .ok (.dup, 1) := by decide +kernel
theorem dX12_init_107 : decode cX12_init 107 = .ok (.iconst 5, 1) := by decide +kernel
theorem dX12_init_108 : decode cX12_init 108 = .ok (.iconst (-1), 1) := by decide +kernel
theorem dX12_init_109 : decode cX12_init 109 = .ok (.iastore, 1) := by decide +kernel
theorem dX12_init_110 : decode cX12_init 110 = .ok (.dup, 1) := by decide +kernel
theorem dX12_init_111 : decode cX12_init 111 = .ok (.bipush 6, 2) := by decide +kernel
theorem dX12_init_113 : decode cX12_init 113 = .ok (.iconst (-1), 1) := by decide +kernel
theorem dX12_init_114 : decode cX12_init 114 = .ok (.iastore, 1) := by decide +kernel
theorem dX12_init_115 : decode cX12_init 115 = .ok (.dup, 1) := by decide +kernel
theorem dX12_init_116 : decode cX12_init 116 = .ok (.bipush 7, 2) := by decide +kernel
theorem dX12_init_118 : decode cX12_init 118 = .ok (.iconst (-1), 1) := by decide +kernel
theorem dX12_init_119 : decode cX12_init 119 = .ok (.iastore, 1) := by decide +kernel
theorem dX12_init_120 : decode cX12_init 120 = .ok (.putfield 25, 3) := by decide +kernel
theorem dX12_init_123 : decode cX12_init 123 = .ok (.aload_n 0, 1) := by decide +kernel
theorem dX12_init_124 : decode cX12_init 124 = .ok (.iconst 2, 1) := by decide +kernel
theorem dX12_init_125 : decode cX12_init 125 = .ok (.anewarray 28, 3) := by decide +kernel
theorem dX12_init_128 : decode cX12_init 128 = .ok (.dup, 1) := by decide +kernel
theorem dX12_init_129 : decode cX12_init 129 = .ok (.iconst 0, 1) := by decide +kernel
theorem dX12_init_130 : decode cX12_init 130 = .ok (.ldc 30, 2) := by decide +kernel
theorem dX12_init_132 : decode cX12_init 132 = .ok (.aastore, 1) := by decide +kernel
theorem dX12_init_133 : decode cX12_init 133 = .ok (.dup, 1) := by decide +kernel
theorem dX12_init_134 : decode cX12_init 134 = .ok (.iconst 1, 1) := by decide +kernel
theorem dX12_init_135 : decode cX12_init 135 = .ok (.ldc 32, 2) := by decide +kernel
theorem dX12_init_137 : decode cX12_init 137 = .ok (.aastore, 1) := by decide +kernel
theorem dX12_init_138 : decode cX12_init 138 = .ok (.putfield 34, 3) := by decide +kernel
theorem dX12_init_141 : decode cX12_init 141 = .ok (.aload_n 0, 1) := by decide +kernel
theorem dX12_init_142 : decode cX12_init 142 = .ok (.bipush 60, 2) := by decide +kernel
theorem dX12_init_144 : decode cX12_init 144 = .ok (.newarray .int, 2) := by decide +kernel
theorem dX12_init_146 : decode cX12_init 146 = .ok (.putfield 38, 3) := by decide +kernel
theorem dX12_init_149 : decode cX12_init 149 = .ok (.aload_n 0, 1) := by decide +kernel
theorem dX12_init_150 : decode cX12_init 150 = .ok (.iconst 4, 1) := by decide +kernel
theorem dX12_init_151 : decode cX12_init 151 = .ok (.newarray .int, 2) := by decide +kernel
theorem dX12_init_153 : decode cX12_init 153 = .ok (.putfield 41, 3) := by decide +kernel
theorem dX12_init_156 : decode cX12_init 156 = .ok (.aload_n 0, 1) := by decide +kernel
theorem dX12_init_157 : decode cX12_init 157 = .ok (.bipush 60, 2) := by decide +kernel
theorem dX12_init_159 : decode cX12_init 159 = .ok (.newarray .int, 2) := by decide +kernel
theorem dX12_init_161 : decode cX12_init 161 = .ok (.putfield 44, 3) := by decide +kernel
theorem dX12_init_164 : decode cX12_init 164 = .ok (.aload_n 0, 1) := by decide +kernel
theorem dX12_init_165 : decode cX12_init 165 = .ok (.bipush 12, 2) := by decide +kernel
theorem dX12_init_167 : decode cX12_init 167 = .ok (.newarray .int, 2) := by decide +kernel
theorem dX12_init_169 : decode cX12_init 169 = .ok (.putfield 47, 3) := by decide +kernel
theorem dX12_init_172 : decode cX12_init 172 = .ok (.aload_n 0, 1) := by decide +kernel
theorem dX12_init_173 : decode cX12_init 173 = .ok (.bipush 40, 2) := by decide +kernel
theorem dX12_init_175 : decode cX12_init 175 = .ok (.newarray .int, 2) := by decide +kernel
theorem dX12_init_177 : decode cX12_init 177 = .ok (.putfield 50, 3) := by decide +kernel
theorem dX12_init_180 : decode cX12_init 180 = .ok (.aload_n 0, 1) := by decide +kernel
theorem dX12_init_181 : decode cX12_init 181 = .ok (.iconst 4, 1) := by decide +kernel
theorem dX12_init_182 : decode cX12_init 182 = .ok (.newarray .int, 2) := by decide +kernel
theorem dX12_init_184 : decode cX12_init 184 = .ok (.putfield 53, 3) := by decide +kernel
theorem dX12_init_187 : decode cX12_init 187 = .ok (.aload_n 0, 1) := by decide +kernel
theorem dX12_init_188 : decode cX12_init 188 = .ok (.iconst 4, 1) := by decide +kernel
theorem dX12_init_189 : decode cX12_init 189 = .ok (.newarray .int, 2) := by decide +kernel
theorem dX12_init_191 : decode cX12_init 191 = .ok (.putfield 56, 3) := by decide +kernel
theorem dX12_init_194 : decode cX12_init 194 = .ok (.aload_n 0, 1) := by decide +kernel
theorem dX12_init_195 : decode cX12_init 195 = .ok (.sipush 160, 3) := by decide +kernel
theorem dX12_init_198 : decode cX12_init 198 = .ok (.newarray .int, 2) := by decide +kernel
theorem dX12_init_200 : decode cX12_init 200 = .ok (.putfield 59, 3) := by decide +kernel
theorem dX12_init_203 : decode cX12_init 203 = .ok (.aload_n 0, 1) := by decide +kernel
theorem dX12_init_204 : decode cX12_init 204 = .ok (.bipush 40, 2) := by decide +kernel
theorem dX12_init_206 : decode cX12_init 206 = .ok (.newarray .int, 2) := by decide +kernel
theorem dX12_init_208 : decode cX12_init 208 = .ok (.putfield 62, 3) := by decide +kernel
theorem dX12_init_211 : decode cX12_init 211 = .ok (.aload_n 0, 1) := by decide +kernel
theorem dX12_init_212 : decode cX12_init 212 = .ok (.getfield 9, 3) := by decide +kernel
theorem dX12_init_215 : decode cX12_init 215 = .ok (.bipush 8, 2) := by decide +kernel
theorem dX12_init_217 : decode cX12_init 217 = .ok (.iconst 1, 1) := by decide +kernel
theorem dX12_init_218 : decode cX12_init 218 = .ok (.iastore, 1) := by decide +kernel
theorem dX12_init_219 : decode cX12_init 219 = .ok (.iconst 0, 1) := by decide +kernel
theorem dX12_init_220 : decode cX12_init 220 = .ok (.istore_n 1, 1) := by decide +kernel
theorem dX12_init_221 : decode cX12_init 221 = .ok (.iload_n 1, 1) := by decide +kernel
theorem dX12_init_222 : decode cX12_init 222 = .ok (.bipush 24, 2) := by decide +kernel
theorem dX12_init_224 : decode cX12_init 224 = .ok (.if_icmp .ge 19, 3) := by decide +kernel
theorem dX12_init_227 : decode cX12_init 227 = .ok (.aload_n 0, 1) := by decide +kernel
theorem dX12_init_228 : decode cX12_init 228 = .ok (.getfield 9, 3) := by decide +kernel
theorem dX12_init_231 : decode cX12_init 231 = .ok (.bipush 27, 2) := by decide +kernel
theorem dX12_init_233 : decode cX12_init 233 = .ok (.iload_n 1, 1) := by decide +kernel
theorem dX12_init_234 : decode cX12_init 234 = .ok (.iadd, 1) := by decide +kernel
theorem dX12_init_235 : decode cX12_init 235 = .ok (.iconst 3, 1) := by decide +kernel
theorem dX12_init_236 : decode cX12_init 236 = .ok (.iastore, 1) := by decide +kernel
theorem dX12_init_237 : decode cX12_init 237 = .ok (.iinc 1 1, 3) := by decide +kernel
theorem dX12_init_240 : decode cX12_init 240 = .ok (.goto (-19), 3) := by decide +kernel
theorem dX12_init_243 : decode cX12_init 243 = .ok (.return_, 1) := by decide +kernel
theorem dX12_finding_0 : decode cX12_finding 0 = .ok (.aload_n 0, 1) := by decide +kernel
theorem dX12_finding_1 : decode cX12_finding 1 = .ok (.getfield 19, 3) := by decide +kernel
theorem dX12_finding_4 : decode cX12_finding 4 = .ok (.ldc 65, 2) := by decide +kernel
theorem dX12_finding_6 : decode cX12_finding 6 = .ok (.iload_n 1, 1) := by decide +kernel
theorem dX12_finding_7 : decode cX12_finding 7 = .ok (.isub, 1) := by decide +kernel
theorem dX12_finding_8 : decode cX12_finding 8 = .ok (.dup2, 1) := by decide +kernel
theorem dX12_finding_9 : decode cX12_finding 9 = .ok (.iaload, 1) := by decide +kernel
theorem dX12_finding_10 : decode cX12_finding 10 = .ok (.iconst 1, 1) := by decide +kernel
theorem dX12_finding_11 : decode cX12_finding 11 = .ok (.iadd, 1) := by decide +kernel
theorem dX12_finding_12 : decode cX12_finding 12 = .ok (.iastore, 1) := by decide +kernel
theorem dX12_finding_13 : decode cX12_finding 13 = .ok (.iload_n 1, 1) := by decide +kernel
theorem dX12_finding_14 : decode cX12_finding 14 = .ok (.ireturn, 1) := by decide +kernel
theorem dX12_within_0 : decode cX12_within 0 = .ok (.iload_n 0, 1) := by decide +kernel
theorem dX12_within_1 : decode cX12_within 1 = .ok (.iload_n 1, 1) := by decide +kernel
theorem dX12_within_2 : decode cX12_within 2 = .ok (.if_icmp .lt 12, 3) := by decide +kernel
theorem dX12_within_5 : decode cX12_within 5 = .ok (.iload_n 0, 1) := by decide +kernel
theorem dX12_within_6 : decode cX12_within 6 = .ok (.iload_n 2, 1) := by decide +kernel
theorem dX12_within_7 : decode cX12_within 7 = .ok (.if_icmp .gt 7, 3) := by decide +kernel
theorem dX12_within_10 : decode cX12_within 10 = .ok (.iconst 1, 1) := by decide +kernel
theorem dX12_within_11 : decode cX12_within 11 = .ok (.goto 4, 3) := by decide +kernel
theorem dX12_within_14 : decode cX12_within 14 = .ok (.iconst 0, 1) := by decide +kernel
theorem dX12_within_15 : decode cX12_within 15 = .ok (.ireturn, 1) := by decide +kernel
theorem dX12_hasBit_0 : decode cX12_hasBit 0 = .ok (.iload_n 0, 1) := by decide +kernel
theorem dX12_hasBit_1 : decode cX12_hasBit 1 = .ok (.iload_n 1, 1) := by decide +kernel
theorem dX12_hasBit_2 : decode cX12_hasBit 2 = .ok (.ishr, 1) := by decide +kernel
theorem dX12_hasBit_3 : decode cX12_hasBit 3 = .ok (.iconst 1, 1) := by decide +kernel
theorem dX12_hasBit_4 : decode cX12_hasBit 4 = .ok (.iand, 1) := by decide +kernel
theorem dX12_hasBit_5 : decode cX12_hasBit 5 = .ok (.iconst 1, 1) := by decide +kernel
theorem dX12_hasBit_6 : decode cX12_hasBit 6 = .ok (.if_icmp .ne 7, 3) := by decide +kernel
theorem dX12_hasBit_9 : decode cX12_hasBit 9 = .ok (.iconst 1, 1) := by decide +kernel
theorem dX12_hasBit_10 : decode cX12_hasBit 10 = .ok (.goto 4, 3) := by decide +kernel
theorem dX12_hasBit_13 : decode cX12_hasBit 13 = .ok (.iconst 0, 1) := by decide +kernel
theorem dX12_hasBit_14 : decode cX12_hasBit 14 = .ok (.ireturn, 1) := by decide +kernel
theorem dX12_held_0 : decode cX12_held 0 = .ok (.iload_n 1, 1) := by decide +kernel
theorem dX12_held_1 : decode cX12_held 1 = .ok (.iload_n 2, 1) := by decide +kernel
theorem dX12_held_2 : decode cX12_held 2 = .ok (.iload_n 0, 1) := by decide +kernel
theorem dX12_held_3 : decode cX12_held 3 = .ok (.invokestatic 66, 3) := by decide +kernel
theorem dX12_held_6 : decode cX12_held 6 = .ok (.invokestatic 72, 3) := by decide +kernel
theorem dX12_held_9 : decode cX12_held 9 = .ok (.ireturn, 1) := by decide +kernel
theorem dX12_is_0 : decode cX12_is 0 = .ok (.iload_n 1, 1) := by decide +kernel
theorem dX12_is_1 : decode cX12_is 1 = .ok (.iconst 0, 1) := by decide +kernel
theorem dX12_is_2 : decode cX12_is 2 = .ok (.aload_n 0, 1) := by decide +kernel
theorem dX12_is_3 : decode cX12_is 3 = .ok (.getfield 9, 3) := by decide +kernel
theorem dX12_is_6 : decode cX12_is 6 = .ok (.iload_n 2, 1) := by decide +kernel
theorem dX12_is_7 : decode cX12_is 7 = .ok (.iaload, 1) := by decide +kernel
theorem dX12_is_8 : decode cX12_is 8 = .ok (.iconst 1, 1) := by decide +kernel
theorem dX12_is_9 : decode cX12_is 9 = .ok (.isub, 1) := by decide +kernel
theorem dX12_is_10 : decode cX12_is 10 = .ok (.invokestatic 75, 3) := by decide +kernel
theorem dX12_is_13 : decode cX12_is 13 = .ok (.ireturn, 1) := by decide +kernel
theorem dX12_copy_0 : decode cX12_copy 0 = .ok (.iconst 0, 1) := by decide +kernel
theorem dX12_copy_1 : decode cX12_copy 1 = .ok (.istore_n 2, 1) := by decide +kernel
theorem dX12_copy_2 : decode cX12_copy 2 = .ok (.iload_n 2, 1) := by decide +kernel
theorem dX12_copy_3 : decode cX12_copy 3 = .ok (.sipush 369, 3) := by decide +kernel
theorem dX12_copy_6 : decode cX12_copy 6 = .ok (.if_icmp .ge 15, 3) := by decide +kernel
theorem dX12_copy_9 : decode cX12_copy 9 = .ok (.aload_n 1, 1) := by decide +kernel
theorem dX12_copy_10 : decode cX12_copy 10 = .ok (.iload_n 2, 1) := by decide +kernel
theorem dX12_copy_11 : decode cX12_copy 11 = .ok (.aload_n 0, 1) := by decide +kernel
theorem dX12_copy_12 : decode cX12_copy 12 = .ok (.iload_n 2, 1) := by decide +kernel
theorem dX12_copy_13 : decode cX12_copy 13 = .ok (.iaload, 1) := by decide +kernel
theorem dX12_copy_14 : decode cX12_copy 14 = .ok (.iastore, 1) := by decide +kernel
theorem dX12_copy_15 : decode cX12_copy 15 = .ok (.iinc 2 1, 3) := by decide +kernel
theorem dX12_copy_18 : decode cX12_copy 18 = .ok (.goto (-16), 3) := by decide +kernel
theorem dX12_copy_21 : decode cX12_copy 21 = .ok (.return_, 1) := by decide +kernel
theorem dX12_become_0 : decode cX12_become 0 = .ok (.aload_n 0, 1) := by decide +kernel
theorem dX12_become_1 : decode cX12_become 1 = .ok (.getfield 9, 3) := by decide +kernel
theorem dX12_become_4 : decode cX12_become 4 = .ok (.iload_n 1, 1) := by decide +kernel
theorem dX12_become_5 : decode cX12_become 5 = .ok (.iaload, 1) := by decide +kernel
theorem dX12_become_6 : decode cX12_become 6 = .ok (.istore_n 3, 1) := by decide +kernel
theorem dX12_become_7 : decode cX12_become 7 = .ok (.aload_n 0, 1) := by decide +kernel
theorem dX12_become_8 : decode cX12_become 8 = .ok (.getfield 9, 3) := by decide +kernel
theorem dX12_become_11 : decode cX12_become 11 = .ok (.iload_n 1, 1) := by decide +kernel
theorem dX12_become_12 : decode cX12_become 12 = .ok (.iload_n 2, 1) := by decide +kernel
theorem dX12_become_13 : decode cX12_become 13 = .ok (.iastore, 1) := by decide +kernel
theorem dX12_become_14 : decode cX12_become 14 = .ok (.iload_n 3, 1) := by decide +kernel
theorem dX12_become_15 : decode cX12_become 15 = .ok (.ireturn, 1) := by decide +kernel
theorem dX12_putBack_0 : decode cX12_putBack 0 = .ok (.aload_n 0, 1) := by decide +kernel
theorem dX12_putBack_1 : decode cX12_putBack 1 = .ok (.getfield 16, 3) := by decide +kernel
theorem dX12_putBack_4 : decode cX12_putBack 4 = .ok (.aload_n 0, 1) := by decide +kernel
theorem dX12_putBack_5 : decode cX12_putBack 5 = .ok (.getfield 9, 3) := by decide +kernel
theorem dX12_putBack_8 : decode cX12_putBack 8 = .ok (.invokestatic 79, 3) := by decide +kernel
theorem dX12_putBack_11 : decode cX12_putBack 11 = .ok (.iload_n 1, 1) := by decide +kernel
theorem dX12_putBack_12 : decode cX12_putBack 12 = .ok (.ireturn, 1) := by decide +kernel
theorem dX12_xOf_0 : decode cX12_xOf 0 = .ok (.aload_n 0, 1) := by decide +kernel
theorem dX12_xOf_1 : decode cX12_xOf 1 = .ok (.getfield 9, 3) := by decide +kernel
theorem dX12_xOf_4 : decode cX12_xOf 4 = .ok (.bipush 9, 2) := by decide +kernel
theorem dX12_xOf_6 : decode cX12_xOf 6 = .ok (.iconst 2, 1) := by decide +kernel
theorem dX12_xOf_7 : decode cX12_xOf 7 = .ok (.iload_n 1, 1) := by decide +kernel
theorem dX12_xOf_8 : decode cX12_xOf 8 = .ok (.imul, 1) := by decide +kernel
theorem dX12_xOf_9 : decode cX12_xOf 9 = .ok (.iadd, 1) := by decide +kernel
theorem dX12_xOf_10 : decode cX12_xOf 10 = .ok (.iaload, 1) := by decide +kernel
theorem dX12_xOf_11 : decode cX12_xOf 11 = .ok (.bipush 16, 2) := by decide +kernel
theorem dX12_xOf_13 : decode cX12_xOf 13 = .ok (.idiv, 1) := by decide +kernel
theorem dX12_xOf_14 : decode cX12_xOf 14 = .ok (.ireturn, 1) := by decide +kernel
theorem dX12_yOf_0 : decode cX12_yOf 0 = .ok (.aload_n 0, 1) := by decide +kernel
theorem dX12_yOf_1 : decode cX12_yOf 1 = .ok (.getfield 9, 3) := by decide +kernel
theorem dX12_yOf_4 : decode cX12_yOf 4 = .ok (.bipush 9, 2) := by decide +kernel
theorem dX12_yOf_6 : decode cX12_yOf 6 = .ok (.iconst 2, 1) := by decide +kernel
theorem dX12_yOf_7 : decode cX12_yOf 7 = .ok (.iload_n 1, 1) := by decide +kernel
theorem dX12_yOf_8 : decode cX12_yOf 8 = .ok (.imul, 1) := by decide +kernel
theorem dX12_yOf_9 : decode cX12_yOf 9 = .ok (.iadd, 1) := by decide +kernel
theorem dX12_yOf_10 : decode cX12_yOf 10 = .ok (.iaload, 1) := by decide +kernel
theorem dX12_yOf_11 : decode cX12_yOf 11 = .ok (.bipush 16, 2) := by decide +kernel
theorem dX12_yOf_13 : decode cX12_yOf 13 = .ok (.irem, 1) := by decide +kernel
theorem dX12_yOf_14 : decode cX12_yOf 14 = .ok (.ireturn, 1) := by decide +kernel
theorem dX12_highOf_0 : decode cX12_highOf 0 = .ok (.aload_n 0, 1) := by decide +kernel
theorem dX12_highOf_1 : decode cX12_highOf 1 = .ok (.getfield 9, 3) := by decide +kernel
theorem dX12_highOf_4 : decode cX12_highOf 4 = .ok (.bipush 9, 2) := by decide +kernel
theorem dX12_highOf_6 : decode cX12_highOf 6 = .ok (.iconst 2, 1) := by decide +kernel
theorem dX12_highOf_7 : decode cX12_highOf 7 = .ok (.iload_n 1, 1) := by decide +kernel
theorem dX12_highOf_8 : decode cX12_highOf 8 = .ok (.imul, 1) := by decide +kernel
theorem dX12_highOf_9 : decode cX12_highOf 9 = .ok (.iadd, 1) := by decide +kernel
theorem dX12_highOf_10 : decode cX12_highOf 10 = .ok (.iconst 1, 1) := by decide +kernel
theorem dX12_highOf_11 : decode cX12_highOf 11 = .ok (.iadd, 1) := by decide +kernel
theorem dX12_highOf_12 : decode cX12_highOf 12 = .ok (.iaload, 1) := by decide +kernel
theorem dX12_highOf_13 : decode cX12_highOf 13 = .ok (.ireturn, 1) := by decide +kernel
theorem dX12_isTaken_0 : decode cX12_isTaken 0 = .ok (.iconst 0, 1) := by decide +kernel
theorem dX12_isTaken_1 : decode cX12_isTaken 1 = .ok (.istore_n 2, 1) := by decide +kernel
theorem dX12_isTaken_2 : decode cX12_isTaken 2 = .ok (.iconst 0, 1) := by decide +kernel
theorem dX12_isTaken_3 : decode cX12_isTaken 3 = .ok (.istore_n 3, 1) := by decide +kernel
theorem dX12_isTaken_4 : decode cX12_isTaken 4 = .ok (.iload_n 3, 1) := by decide +kernel
theorem dX12_isTaken_5 : decode cX12_isTaken 5 = .ok (.aload_n 0, 1) := by decide +kernel
theorem dX12_isTaken_6 : decode cX12_isTaken 6 = .ok (.getfield 9, 3) := by decide +kernel
theorem dX12_isTaken_9 : decode cX12_isTaken 9 = .ok (.iconst 1, 1) := by decide +kernel
theorem dX12_isTaken_10 : decode cX12_isTaken 10 = .ok (.iaload, 1) := by decide +kernel
theorem dX12_isTaken_11 : decode cX12_isTaken 11 = .ok (.if_icmp .ge 34, 3) := by decide +kernel
theorem dX12_isTaken_14 : decode cX12_isTaken 14 = .ok (.iload_n 2, 1) := by decide +kernel
theorem dX12_isTaken_15 : decode cX12_isTaken 15 = .ok (.ifCond .ne 18, 3) := by decide +kernel
theorem dX12_isTaken_18 : decode cX12_isTaken 18 = .ok (.aload_n 0, 1) := by decide +kernel
theorem dX12_isTaken_19 : decode cX12_isTaken 19 = .ok (.getfield 9, 3) := by decide +kernel
theorem dX12_isTaken_22 : decode cX12_isTaken 22 = .ok (.bipush 9, 2) := by decide +kernel
theorem dX12_isTaken_24 : decode cX12_isTaken 24 = .ok (.iconst 2, 1) := by decide +kernel
theorem dX12_isTaken_25 : decode cX12_isTaken 25 = .ok (.iload_n 3, 1) := by decide +kernel
theorem dX12_isTaken_26 : decode cX12_isTaken 26 = .ok (.imul, 1) := by decide +kernel
theorem dX12_isTaken_27 : decode cX12_isTaken 27 = .ok (.iadd, 1) := by decide +kernel
theorem dX12_isTaken_28 : decode cX12_isTaken 28 = .ok (.iaload, 1) := by decide +kernel
theorem dX12_isTaken_29 : decode cX12_isTaken 29 = .ok (.iload_n 1, 1) := by decide +kernel
theorem dX12_isTaken_30 : decode cX12_isTaken 30 = .ok (.if_icmp .ne 7, 3) := by decide +kernel
theorem dX12_isTaken_33 : decode cX12_isTaken 33 = .ok (.iconst 1, 1) := by decide +kernel
theorem dX12_isTaken_34 : decode cX12_isTaken 34 = .ok (.goto 4, 3) := by decide +kernel
theorem dX12_isTaken_37 : decode cX12_isTaken 37 = .ok (.iconst 0, 1) := by decide +kernel
theorem dX12_isTaken_38 : decode cX12_isTaken 38 = .ok (.istore_n 2, 1) := by decide +kernel
theorem dX12_isTaken_39 : decode cX12_isTaken 39 = .ok (.iinc 3 1, 3) := by decide +kernel
theorem dX12_isTaken_42 : decode cX12_isTaken 42 = .ok (.goto (-38), 3) := by decide +kernel
theorem dX12_isTaken_45 : decode cX12_isTaken 45 = .ok (.iload_n 2, 1) := by decide +kernel
theorem dX12_isTaken_46 : decode cX12_isTaken 46 = .ok (.ireturn, 1) := by decide +kernel
theorem dX12_rises_0 : decode cX12_rises 0 = .ok (.aload_n 0, 1) := by decide +kernel
theorem dX12_rises_1 : decode cX12_rises 1 = .ok (.getfield 9, 3) := by decide +kernel
theorem dX12_rises_4 : decode cX12_rises 4 = .ok (.iconst 1, 1) := by decide +kernel
theorem dX12_rises_5 : decode cX12_rises 5 = .ok (.iaload, 1) := by decide +kernel
theorem dX12_rises_6 : decode cX12_rises 6 = .ok (.istore_n 3, 1) := by decide +kernel
theorem dX12_rises_7 : decode cX12_rises 7 = .ok (.aload_n 0, 1) := by decide +kernel
theorem dX12_rises_8 : decode cX12_rises 8 = .ok (.getfield 9, 3) := by decide +kernel
theorem dX12_rises_11 : decode cX12_rises 11 = .ok (.bipush 9, 2) := by decide +kernel
theorem dX12_rises_13 : decode cX12_rises 13 = .ok (.iconst 2, 1) := by decide +kernel
theorem dX12_rises_14 : decode cX12_rises 14 = .ok (.iload_n 3, 1) := by decide +kernel
theorem dX12_rises_15 : decode cX12_rises 15 = .ok (.imul, 1) := by decide +kernel
theorem dX12_rises_16 : decode cX12_rises 16 = .ok (.iadd, 1) := by decide +kernel
theorem dX12_rises_17 : decode cX12_rises 17 = .ok (.iload_n 1, 1) := by decide +kernel
theorem dX12_rises_18 : decode cX12_rises 18 = .ok (.iastore, 1) := by decide +kernel
theorem dX12_rises_19 : decode cX12_rises 19 = .ok (.aload_n 0, 1) := by decide +kernel
theorem dX12_rises_20 : decode cX12_rises 20 = .ok (.getfield 9, 3) := by decide +kernel
theorem dX12_rises_23 : decode cX12_rises 23 = .ok (.bipush 9, 2) := by decide +kernel
theorem dX12_rises_25 : decode cX12_rises 25 = .ok (.iconst 2, 1) := by decide +kernel
theorem dX12_rises_26 : decode cX12_rises 26 = .ok (.iload_n 3, 1) := by decide +kernel
theorem dX12_rises_27 : decode cX12_rises 27 = .ok (.imul, 1) := by decide +kernel
theorem dX12_rises_28 : decode cX12_rises 28 = .ok (.iadd, 1) := by decide +kernel
theorem dX12_rises_29 : decode cX12_rises 29 = .ok (.iconst 1, 1) := by decide +kernel
theorem dX12_rises_30 : decode cX12_rises 30 = .ok (.iadd, 1) := by decide +kernel
theorem dX12_rises_31 : decode cX12_rises 31 = .ok (.iload_n 2, 1) := by decide +kernel
theorem dX12_rises_32 : decode cX12_rises 32 = .ok (.iastore, 1) := by decide +kernel
theorem dX12_rises_33 : decode cX12_rises 33 = .ok (.aload_n 0, 1) := by decide +kernel
theorem dX12_rises_34 : decode cX12_rises 34 = .ok (.getfield 9, 3) := by decide +kernel
theorem dX12_rises_37 : decode cX12_rises 37 = .ok (.iconst 1, 1) := by decide +kernel
theorem dX12_rises_38 : decode cX12_rises 38 = .ok (.dup2, 1) := by decide +kernel
theorem dX12_rises_39 : decode cX12_rises 39 = .ok (.iaload, 1) := by decide +kernel
theorem dX12_rises_40 : decode cX12_rises 40 = .ok (.iconst 1, 1) := by decide +kernel
theorem dX12_rises_41 : decode cX12_rises 41 = .ok (.iadd, 1) := by decide +kernel
theorem dX12_rises_42 : decode cX12_rises 42 = .ok (.iastore, 1) := by decide +kernel
theorem dX12_rises_43 : decode cX12_rises 43 = .ok (.iload_n 3, 1) := by decide +kernel
theorem dX12_rises_44 : decode cX12_rises 44 = .ok (.ireturn, 1) := by decide +kernel
theorem dX12_hill_0 : decode cX12_hill 0 = .ok (.iload_n 1, 1) := by decide +kernel
theorem dX12_hill_1 : decode cX12_hill 1 = .ok (.iconst 0, 1) := by decide +kernel
theorem dX12_hill_2 : decode cX12_hill 2 = .ok (.sipush 255, 3) := by decide +kernel
theorem dX12_hill_5 : decode cX12_hill 5 = .ok (.invokestatic 75, 3) := by decide +kernel
theorem dX12_hill_8 : decode cX12_hill 8 = .ok (.ifCond .eq 13, 3) := by decide +kernel
theorem dX12_hill_11 : decode cX12_hill 11 = .ok (.iload_n 2, 1) := by decide +kernel
theorem dX12_hill_12 : decode cX12_hill 12 = .ok (.iconst 0, 1) := by decide +kernel
theorem dX12_hill_13 : decode cX12_hill 13 = .ok (.bipush 9, 2) := by decide +kernel
theorem dX12_hill_15 : decode cX12_hill 15 = .ok (.invokestatic 75, 3) := by decide +kernel
theorem dX12_hill_18 : decode cX12_hill 18 = .ok (.ifCond .ne 10, 3) := by decide +kernel
theorem dX12_hill_21 : decode cX12_hill 21 = .ok (.aload_n 0, 1) := by decide +kernel
theorem dX12_hill_22 : decode cX12_hill 22 = .ok (.ldc 83, 2) := by decide +kernel
theorem dX12_hill_24 : decode cX12_hill 24 = .ok (.invokevirtual 84, 3) := by decide +kernel
theorem dX12_hill_27 : decode cX12_hill 27 = .ok (.ireturn, 1) := by decide +kernel
theorem dX12_hill_28 : decode cX12_hill 28 = .ok (.aload_n 0, 1) := by decide +kernel
theorem dX12_hill_29 : decode cX12_hill 29 = .ok (.iload_n 1, 1) := by decide +kernel
theorem dX12_hill_30 : decode cX12_hill 30 = .ok (.invokevirtual 88, 3) := by decide +kernel
theorem dX12_hill_33 : decode cX12_hill 33 = .ok (.ifCond .eq 10, 3) := by decide +kernel
theorem dX12_hill_36 : decode cX12_hill 36 = .ok (.aload_n 0, 1) := by decide +kernel
theorem dX12_hill_37 : decode cX12_hill 37 = .ok (.ldc 92, 2) := by decide +kernel
theorem dX12_hill_39 : decode cX12_hill 39 = .ok (.invokevirtual 84, 3) := by decide +kernel
theorem dX12_hill_42 : decode cX12_hill 42 = .ok (.ireturn, 1) := by decide +kernel
theorem dX12_hill_43 : decode cX12_hill 43 = .ok (.aload_n 0, 1) := by decide +kernel
theorem dX12_hill_44 : decode cX12_hill 44 = .ok (.getfield 9, 3) := by decide +kernel
theorem dX12_hill_47 : decode cX12_hill 47 = .ok (.iconst 1, 1) := by decide +kernel
theorem dX12_hill_48 : decode cX12_hill 48 = .ok (.iaload, 1) := by decide +kernel
theorem dX12_hill_49 : decode cX12_hill 49 = .ok (.bipush 9, 2) := by decide +kernel
theorem dX12_hill_51 : decode cX12_hill 51 = .ok (.if_icmp .ne 12, 3) := by decide +kernel
theorem dX12_hill_54 : decode cX12_hill 54 = .ok (.aload_n 0, 1) := by decide +kernel
theorem dX12_hill_55 : decode cX12_hill 55 = .ok (.ldc 93, 2) := by decide +kernel
theorem dX12_hill_57 : decode cX12_hill 57 = .ok (.invokevirtual 84, 3) := by decide +kernel
theorem dX12_hill_60 : decode cX12_hill 60 = .ok (.goto 9, 3) := by decide +kernel
theorem dX12_hill_63 : decode cX12_hill 63 = .ok (.aload_n 0, 1) := by decide +kernel
theorem dX12_hill_64 : decode cX12_hill 64 = .ok (.iload_n 1, 1) := by decide +kernel
theorem dX12_hill_65 : decode cX12_hill 65 = .ok (.iload_n 2, 1) := by decide +kernel
theorem dX12_hill_66 : decode cX12_hill 66 = .ok (.invokevirtual 94, 3) := by decide +kernel
theorem dX12_hill_69 : decode cX12_hill 69 = .ok (.ireturn, 1) := by decide +kernel
theorem dX12_lettersOn_0 : decode cX12_lettersOn 0 = .ok (.iconst 0, 1) := by decide +kernel
theorem dX12_lettersOn_1 : decode cX12_lettersOn 1 = .ok (.istore_n 2, 1) := by decide +kernel
theorem dX12_lettersOn_2 : decode cX12_lettersOn 2 = .ok (.iconst 0, 1) := by decide +kernel
theorem dX12_lettersOn_3 : decode cX12_lettersOn 3 = .ok (.istore_n 3, 1) := by decide +kernel
theorem dX12_lettersOn_4 : decode cX12_lettersOn 4 = .ok (.iload_n 3, 1) := by decide +kernel
theorem dX12_lettersOn_5 : decode cX12_lettersOn 5 = .ok (.aload_n 0, 1) := by decide +kernel
theorem dX12_lettersOn_6 : decode cX12_lettersOn 6 = .ok (.getfield 9, 3) := by decide +kernel
theorem dX12_lettersOn_9 : decode cX12_lettersOn 9 = .ok (.iconst 3, 1) := by decide +kernel
theorem dX12_lettersOn_10 : decode cX12_lettersOn 10 = .ok (.iaload, 1) := by decide +kernel
theorem dX12_lettersOn_11 : decode cX12_lettersOn 11 = .ok (.if_icmp .ge 39, 3) := by decide +kernel
theorem dX12_lettersOn_14 : decode cX12_lettersOn 14 = .ok (.iload_n 2, 1) := by decide +kernel
theorem dX12_lettersOn_15 : decode cX12_lettersOn 15 = .ok (.aload_n 0, 1) := by decide +kernel
theorem dX12_lettersOn_16 : decode cX12_lettersOn 16 = .ok (.iload_n 3, 1) := by decide +kernel
theorem dX12_lettersOn_17 : decode cX12_lettersOn 17 = .ok (.iconst 5, 1) := by decide +kernel
theorem dX12_lettersOn_18 : decode cX12_lettersOn 18 = .ok (.invokevirtual 97, 3) := by decide +kernel
theorem dX12_lettersOn_21 : decode cX12_lettersOn 21 = .ok (.iload_n 1, 1) := by decide +kernel
theorem dX12_lettersOn_22 : decode cX12_lettersOn 22 = .ok (.if_icmp .ne 19, 3) := by decide +kernel
theorem dX12_lettersOn_25 : decode cX12_lettersOn 25 = .ok (.aload_n 0, 1) := by decide +kernel
theorem dX12_lettersOn_26 : decode cX12_lettersOn 26 = .ok (.iload_n 3, 1) := by decide +kernel
theorem dX12_lettersOn_27 : decode cX12_lettersOn 27 = .ok (.bipush 6, 2) := by decide +kernel
theorem dX12_lettersOn_29 : decode cX12_lettersOn 29 = .ok (.invokevirtual 97, 3) := by decide +kernel
theorem dX12_lettersOn_32 : decode cX12_lettersOn 32 = .ok (.ifCond .ge 9, 3) := by decide +kernel
theorem dX12_lettersOn_35 : decode cX12_lettersOn 35 = .ok (.iconst 1, 1) := by decide +kernel
theorem dX12_lettersOn_36 : decode cX12_lettersOn 36 = .ok (.iload_n 3, 1) := by decide +kernel
theorem dX12_lettersOn_37 : decode cX12_lettersOn 37 = .ok (.ishl, 1) := by decide +kernel
theorem dX12_lettersOn_38 : decode cX12_lettersOn 38 = .ok (.goto 4, 3) := by decide +kernel
theorem dX12_lettersOn_41 : decode cX12_lettersOn 41 = .ok (.iconst 0, 1) := by decide +kernel
theorem dX12_lettersOn_42 : decode cX12_lettersOn 42 = .ok (.ior, 1) := by decide +kernel
theorem dX12_lettersOn_43 : decode cX12_lettersOn 43 = .ok (.istore_n 2, 1) := by decide +kernel
theorem dX12_lettersOn_44 : decode cX12_lettersOn 44 = .ok (.iinc 3 1, 3) := by decide +kernel
theorem dX12_lettersOn_47 : decode cX12_lettersOn 47 = .ok (.goto (-43), 3) := by decide +kernel
theorem dX12_lettersOn_50 : decode cX12_lettersOn 50 = .ok (.iload_n 2, 1) := by decide +kernel
theorem dX12_lettersOn_51 : decode cX12_lettersOn 51 = .ok (.ireturn, 1) := by decide +kernel
theorem dX12_ofHill_0 : decode cX12_ofHill 0 = .ok (.aload_n 0, 1) := by decide +kernel
theorem dX12_ofHill_1 : decode cX12_ofHill 1 = .ok (.iload_n 1, 1) := by decide +kernel
theorem dX12_ofHill_2 : decode cX12_ofHill 2 = .ok (.iconst 1, 1) := by decide +kernel
theorem dX12_ofHill_3 : decode cX12_ofHill 3 = .ok (.invokevirtual 100, 3) := by decide +kernel
theorem dX12_ofHill_6 : decode cX12_ofHill 6 = .ok (.ifCond .eq 12, 3) := by decide +kernel
theorem dX12_ofHill_9 : decode cX12_ofHill 9 = .ok (.iload_n 2, 1) := by decide +kernel
theorem dX12_ofHill_10 : decode cX12_ofHill 10 = .ok (.iconst 0, 1) := by decide +kernel
theorem dX12_ofHill_11 : decode cX12_ofHill 11 = .ok (.iconst 2, 1) := by decide +kernel
theorem dX12_ofHill_12 : decode cX12_ofHill 12 = .ok (.invokestatic 75, 3) := by decide +kernel
theorem dX12_ofHill_15 : decode cX12_ofHill 15 = .ok (.ifCond .ne 10, 3) := by decide +kernel
theorem dX12_ofHill_18 : decode cX12_ofHill 18 = .ok (.aload_n 0, 1) := by decide +kernel
theorem dX12_ofHill_19 : decode cX12_ofHill 19 = .ok (.ldc 83, 2) := by decide +kernel
theorem dX12_ofHill_21 : decode cX12_ofHill 21 = .ok (.invokevirtual 84, 3) := by decide +kernel
theorem dX12_ofHill_24 : decode cX12_ofHill 24 = .ok (.ireturn, 1) := by decide +kernel
theorem dX12_ofHill_25 : decode cX12_ofHill 25 = .ok (.iload_n 2, 1) := by decide +kernel
theorem dX12_ofHill_26 : decode cX12_ofHill 26 = .ok (.iconst 2, 1) := by decide +kernel
theorem dX12_ofHill_27 : decode cX12_ofHill 27 = .ok (.if_icmp .ge 19, 3) := by decide +kernel
theorem dX12_ofHill_30 : decode cX12_ofHill 30 = .ok (.aload_n 0, 1) := by decide +kernel
theorem dX12_ofHill_31 : decode cX12_ofHill 31 = .ok (.getfield 9, 3) := by decide +kernel
theorem dX12_ofHill_34 : decode cX12_ofHill 34 = .ok (.bipush 9, 2) := by decide +kernel
theorem dX12_ofHill_36 : decode cX12_ofHill 36 = .ok (.iconst 2, 1) := by decide +kernel
theorem dX12_ofHill_37 : decode cX12_ofHill 37 = .ok (.iload_n 1, 1) := by decide +kernel
theorem dX12_ofHill_38 : decode cX12_ofHill 38 = .ok (.imul, 1) := by decide +kernel
theorem dX12_ofHill_39 : decode cX12_ofHill 39 = .ok (.iadd, 1) := by decide +kernel
theorem dX12_ofHill_40 : decode cX12_ofHill 40 = .ok (.iload_n 2, 1) := by decide +kernel
theorem dX12_ofHill_41 : decode cX12_ofHill 41 = .ok (.iadd, 1) := by decide +kernel
theorem dX12_ofHill_42 : decode cX12_ofHill 42 = .ok (.iaload, 1) := by decide +kernel
theorem dX12_ofHill_43 : decode cX12_ofHill 43 = .ok (.goto 8, 3) := by decide +kernel
theorem dX12_ofHill_46 : decode cX12_ofHill 46 = .ok (.aload_n 0, 1) := by decide +kernel
theorem dX12_ofHill_47 : decode cX12_ofHill 47 = .ok (.iload_n 1, 1) := by decide +kernel
theorem dX12_ofHill_48 : decode cX12_ofHill 48 = .ok (.invokevirtual 104, 3) := by decide +kernel
theorem dX12_ofHill_51 : decode cX12_ofHill 51 = .ok (.ireturn, 1) := by decide +kernel
theorem dX12_isWind_0 : decode cX12_isWind 0 = .ok (.iload_n 0, 1) := by decide +kernel
theorem dX12_isWind_1 : decode cX12_isWind 1 = .ok (.iconst 0, 1) := by decide +kernel
theorem dX12_isWind_2 : decode cX12_isWind 2 = .ok (.bipush 79, 2) := by decide +kernel
theorem dX12_isWind_4 : decode cX12_isWind 4 = .ok (.invokestatic 75, 3) := by decide +kernel
theorem dX12_isWind_7 : decode cX12_isWind 7 = .ok (.ireturn, 1) := by decide +kernel
theorem dX12_wind_0 : decode cX12_wind 0 = .ok (.iload_n 1, 1) := by decide +kernel
theorem dX12_wind_1 : decode cX12_wind 1 = .ok (.iconst 0, 1) := by decide +kernel
theorem dX12_wind_2 : decode cX12_wind 2 = .ok (.bipush 23, 2) := by decide +kernel
theorem dX12_wind_4 : decode cX12_wind 4 = .ok (.invokestatic 75, 3) := by decide +kernel
theorem dX12_wind_7 : decode cX12_wind 7 = .ok (.ifCond .eq 22, 3) := by decide +kernel
theorem dX12_wind_10 : decode cX12_wind 10 = .ok (.iload_n 2, 1) := by decide +kernel
theorem dX12_wind_11 : decode cX12_wind 11 = .ok (.invokestatic 107, 3) := by decide +kernel
theorem dX12_wind_14 : decode cX12_wind 14 = .ok (.ifCond .eq 15, 3) := by decide +kernel
theorem dX12_wind_17 : decode cX12_wind 17 = .ok (.aload_n 0, 1) := by decide +kernel
theorem dX12_wind_18 : decode cX12_wind 18 = .ok (.bipush 27, 2) := by decide +kernel
theorem dX12_wind_20 : decode cX12_wind 20 = .ok (.iload_n 1, 1) := by decide +kernel
theorem dX12_wind_21 : decode cX12_wind 21 = .ok (.iadd, 1) := by decide +kernel
theorem dX12_wind_22 : decode cX12_wind 22 = .ok (.iload_n 2, 1) := by decide +kernel
theorem dX12_wind_23 : decode cX12_wind 23 = .ok (.invokevirtual 110, 3) := by decide +kernel
theorem dX12_wind_26 : decode cX12_wind 26 = .ok (.goto 9, 3) := by decide +kernel
theorem dX12_wind_29 : decode cX12_wind 29 = .ok (.aload_n 0, 1) := by decide +kernel
theorem dX12_wind_30 : decode cX12_wind 30 = .ok (.ldc 83, 2) := by decide +kernel
theorem dX12_wind_32 : decode cX12_wind 32 = .ok (.invokevirtual 84, 3) := by decide +kernel
theorem dX12_wind_35 : decode cX12_wind 35 = .ok (.ireturn, 1) := by decide +kernel
theorem dX12_kiteIs_0 : decode cX12_kiteIs 0 = .ok (.aload_n 0, 1) := by decide +kernel
theorem dX12_kiteIs_1 : decode cX12_kiteIs 1 = .ok (.getfield 9, 3) := by decide +kernel
theorem dX12_kiteIs_4 : decode cX12_kiteIs 4 = .ok (.bipush 51, 2) := by decide +kernel
theorem dX12_kiteIs_6 : decode cX12_kiteIs 6 = .ok (.bipush 6, 2) := by decide +kernel
theorem dX12_kiteIs_8 : decode cX12_kiteIs 8 = .ok (.iload_n 1, 1) := by decide +kernel
theorem dX12_kiteIs_9 : decode cX12_kiteIs 9 = .ok (.imul, 1) := by decide +kernel
theorem dX12_kiteIs_10 : decode cX12_kiteIs 10 = .ok (.iadd, 1) := by decide +kernel
theorem dX12_kiteIs_11 : decode cX12_kiteIs 11 = .ok (.iload_n 2, 1) := by decide +kernel
theorem dX12_kiteIs_12 : decode cX12_kiteIs 12 = .ok (.iadd, 1) := by decide +kernel
theorem dX12_kiteIs_13 : decode cX12_kiteIs 13 = .ok (.iaload, 1) := by decide +kernel
theorem dX12_kiteIs_14 : decode cX12_kiteIs 14 = .ok (.ireturn, 1) := by decide +kernel
theorem dX12_flies_0 : decode cX12_flies 0 = .ok (.aload_n 0, 1) := by decide +kernel
theorem dX12_flies_1 : decode cX12_flies 1 = .ok (.getfield 9, 3) := by decide +kernel
theorem dX12_flies_4 : decode cX12_flies 4 = .ok (.iconst 2, 1) := by decide +kernel
theorem dX12_flies_5 : decode cX12_flies 5 = .ok (.iaload, 1) := by decide +kernel
theorem dX12_flies_6 : decode cX12_flies 6 = .ok (.istore 6, 2) := by decide +kernel
theorem dX12_flies_8 : decode cX12_flies 8 = .ok (.bipush 51, 2) := by decide +kernel
theorem dX12_flies_10 : decode cX12_flies 10 = .ok (.bipush 6, 2) := by decide +kernel
theorem dX12_flies_12 : decode cX12_flies 12 = .ok (.iload 6, 2) := by decide +kernel
theorem dX12_flies_14 : decode cX12_flies 14 = .ok (.imul, 1) := by decide +kernel
theorem dX12_flies_15 : decode cX12_flies 15 = .ok (.iadd, 1) := by decide +kernel
theorem dX12_flies_16 : decode cX12_flies 16 = .ok (.istore 7, 2) := by decide +kernel
theorem dX12_flies_18 : decode cX12_flies 18 = .ok (.aload_n 0, 1) := by decide +kernel
theorem dX12_flies_19 : decode cX12_flies 19 = .ok (.getfield 9, 3) := by decide +kernel
theorem dX12_flies_22 : decode cX12_flies 22 = .ok (.iload 7, 2) := by decide +kernel
theorem dX12_flies_24 : decode cX12_flies 24 = .ok (.iconst 0, 1) := by decide +kernel
theorem dX12_flies_25 : decode cX12_flies 25 = .ok (.iadd, 1) := by decide +kernel
theorem dX12_flies_26 : decode cX12_flies 26 = .ok (.iload_n 1, 1) := by decide +kernel
theorem dX12_flies_27 : decode cX12_flies 27 = .ok (.iastore, 1) := by decide +kernel
theorem dX12_flies_28 : decode cX12_flies 28 = .ok (.aload_n 0, 1) := by decide +kernel
theorem dX12_flies_29 : decode cX12_flies 29 = .ok (.getfield 9, 3) := by decide +kernel
theorem dX12_flies_32 : decode cX12_flies 32 = .ok (.iload 7, 2) := by decide +kernel
theorem dX12_flies_34 : decode cX12_flies 34 = .ok (.iconst 1, 1) := by decide +kernel
theorem dX12_flies_35 : decode cX12_flies 35 = .ok (.iadd, 1) := by decide +kernel
theorem dX12_flies_36 : decode cX12_flies 36 = .ok (.iload_n 2, 1) := by decide +kernel
theorem dX12_flies_37 : decode cX12_flies 37 = .ok (.iastore, 1) := by decide +kernel
theorem dX12_flies_38 : decode cX12_flies 38 = .ok (.aload_n 0, 1) := by decide +kernel
theorem dX12_flies_39 : decode cX12_flies 39 = .ok (.getfield 9, 3) := by decide +kernel
theorem dX12_flies_42 : decode cX12_flies 42 = .ok (.iload 7, 2) := by decide +kernel
theorem dX12_flies_44 : decode cX12_flies 44 = .ok (.iconst 2, 1) := by decide +kernel
theorem dX12_flies_45 : decode cX12_flies 45 = .ok (.iadd, 1) := by decide +kernel
theorem dX12_flies_46 : decode cX12_flies 46 = .ok (.iload_n 3, 1) := by decide +kernel
theorem dX12_flies_47 : decode cX12_flies 47 = .ok (.iastore, 1) := by decide +kernel
theorem dX12_flies_48 : decode cX12_flies 48 = .ok (.aload_n 0, 1) := by decide +kernel
theorem dX12_flies_49 : decode cX12_flies 49 = .ok (.getfield 9, 3) := by decide +kernel
theorem dX12_flies_52 : decode cX12_flies 52 = .ok (.iload 7, 2) := by decide +kernel
theorem dX12_flies_54 : decode cX12_flies 54 = .ok (.iconst 3, 1) := by decide +kernel
theorem dX12_flies_55 : decode cX12_flies 55 = .ok (.iadd, 1) := by decide +kernel
theorem dX12_flies_56 : decode cX12_flies 56 = .ok (.iload 4, 2) := by decide +kernel
theorem dX12_flies_58 : decode cX12_flies 58 = .ok (.iastore, 1) := by decide +kernel
theorem dX12_flies_59 : decode cX12_flies 59 = .ok (.aload_n 0, 1) := by decide +kernel
theorem dX12_flies_60 : decode cX12_flies 60 = .ok (.getfield 9, 3) := by decide +kernel
theorem dX12_flies_63 : decode cX12_flies 63 = .ok (.iload 7, 2) := by decide +kernel
theorem dX12_flies_65 : decode cX12_flies 65 = .ok (.iconst 4, 1) := by decide +kernel
theorem dX12_flies_66 : decode cX12_flies 66 = .ok (.iadd, 1) := by decide +kernel
theorem dX12_flies_67 : decode cX12_flies 67 = .ok (.iload 5, 2) := by decide +kernel
theorem dX12_flies_69 : decode cX12_flies 69 = .ok (.iastore, 1) := by decide +kernel
theorem dX12_flies_70 : decode cX12_flies 70 = .ok (.aload_n 0, 1) := by decide +kernel
theorem dX12_flies_71 : decode cX12_flies 71 = .ok (.getfield 9, 3) := by decide +kernel
theorem dX12_flies_74 : decode cX12_flies 74 = .ok (.iload 7, 2) := by decide +kernel
theorem dX12_flies_76 : decode cX12_flies 76 = .ok (.iconst 5, 1) := by decide +kernel
theorem dX12_flies_77 : decode cX12_flies 77 = .ok (.iadd, 1) := by decide +kernel
theorem dX12_flies_78 : decode cX12_flies 78 = .ok (.iconst (-1), 1) := by decide +kernel
theorem dX12_flies_79 : decode cX12_flies 79 = .ok (.iastore, 1) := by decide +kernel
theorem dX12_flies_80 : decode cX12_flies 80 = .ok (.aload_n 0, 1) := by decide +kernel
theorem dX12_flies_81 : decode cX12_flies 81 = .ok (.getfield 9, 3) := by decide +kernel
theorem dX12_flies_84 : decode cX12_flies 84 = .ok (.iconst 2, 1) := by decide +kernel
theorem dX12_flies_85 : decode cX12_flies 85 = .ok (.dup2, 1) := by decide +kernel
theorem dX12_flies_86 : decode cX12_flies 86 = .ok (.iaload, 1) := by decide +kernel
theorem dX12_flies_87 : decode cX12_flies 87 = .ok (.iconst 1, 1) := by decide +kernel
theorem dX12_flies_88 : decode cX12_flies 88 = .ok (.iadd, 1) := by decide +kernel
theorem dX12_flies_89 : decode cX12_flies 89 = .ok (.iastore, 1) := by decide +kernel
theorem dX12_flies_90 : decode cX12_flies 90 = .ok (.iload 6, 2) := by decide +kernel
theorem dX12_flies_92 : decode cX12_flies 92 = .ok (.ireturn, 1) := by decide +kernel
theorem dX12_kite_0 : decode cX12_kite 0 = .ok (.iload_n 1, 1) := by decide +kernel
theorem dX12_kite_1 : decode cX12_kite 1 = .ok (.iconst 0, 1) := by decide +kernel
theorem dX12_kite_2 : decode cX12_kite 2 = .ok (.bipush 69, 2) := by decide +kernel
theorem dX12_kite_4 : decode cX12_kite 4 = .ok (.invokestatic 75, 3) := by decide +kernel
theorem dX12_kite_7 : decode cX12_kite 7 = .ok (.ifCond .eq 36, 3) := by decide +kernel
theorem dX12_kite_10 : decode cX12_kite 10 = .ok (.aload_n 0, 1) := by decide +kernel
theorem dX12_kite_11 : decode cX12_kite 11 = .ok (.iload_n 2, 1) := by decide +kernel
theorem dX12_kite_12 : decode cX12_kite 12 = .ok (.iconst 1, 1) := by decide +kernel
theorem dX12_kite_13 : decode cX12_kite 13 = .ok (.invokevirtual 100, 3) := by decide +kernel
theorem dX12_kite_16 : decode cX12_kite 16 = .ok (.ifCond .eq 27, 3) := by decide +kernel
theorem dX12_kite_19 : decode cX12_kite 19 = .ok (.iload_n 3, 1) := by decide +kernel
theorem dX12_kite_20 : decode cX12_kite 20 = .ok (.iconst 0, 1) := by decide +kernel
theorem dX12_kite_21 : decode cX12_kite 21 = .ok (.sipush 9999, 3) := by decide +kernel
theorem dX12_kite_24 : decode cX12_kite 24 = .ok (.invokestatic 75, 3) := by decide +kernel
theorem dX12_kite_27 : decode cX12_kite 27 = .ok (.ifCond .eq 16, 3) := by decide +kernel
theorem dX12_kite_30 : decode cX12_kite 30 = .ok (.iload_n 3, 1) := by decide +kernel
theorem dX12_kite_31 : decode cX12_kite 31 = .ok (.bipush 100, 2) := by decide +kernel
theorem dX12_kite_33 : decode cX12_kite 33 = .ok (.irem, 1) := by decide +kernel
theorem dX12_kite_34 : decode cX12_kite 34 = .ok (.iconst 1, 1) := by decide +kernel
theorem dX12_kite_35 : decode cX12_kite 35 = .ok (.bipush 40, 2) := by decide +kernel
theorem dX12_kite_37 : decode cX12_kite 37 = .ok (.invokestatic 75, 3) := by decide +kernel
theorem dX12_kite_40 : decode cX12_kite 40 = .ok (.ifCond .ne 10, 3) := by decide +kernel
theorem dX12_kite_43 : decode cX12_kite 43 = .ok (.aload_n 0, 1) := by decide +kernel
theorem dX12_kite_44 : decode cX12_kite 44 = .ok (.ldc 83, 2) := by decide +kernel
theorem dX12_kite_46 : decode cX12_kite 46 = .ok (.invokevirtual 84, 3) := by decide +kernel
theorem dX12_kite_49 : decode cX12_kite 49 = .ok (.ireturn, 1) := by decide +kernel
theorem dX12_kite_50 : decode cX12_kite 50 = .ok (.aload_n 0, 1) := by decide +kernel
theorem dX12_kite_51 : decode cX12_kite 51 = .ok (.getfield 9, 3) := by decide +kernel
theorem dX12_kite_54 : decode cX12_kite 54 = .ok (.iconst 2, 1) := by decide +kernel
theorem dX12_kite_55 : decode cX12_kite 55 = .ok (.iaload, 1) := by decide +kernel
theorem dX12_kite_56 : decode cX12_kite 56 = .ok (.bipush 8, 2) := by decide +kernel
theorem dX12_kite_58 : decode cX12_kite 58 = .ok (.if_icmp .ne 12, 3) := by decide +kernel
theorem dX12_kite_61 : decode cX12_kite 61 = .ok (.aload_n 0, 1) := by decide +kernel
theorem dX12_kite_62 : decode cX12_kite 62 = .ok (.ldc 93, 2) := by decide +kernel
theorem dX12_kite_64 : decode cX12_kite 64 = .ok (.invokevirtual 84, 3) := by decide +kernel
theorem dX12_kite_67 : decode cX12_kite 67 = .ok (.goto 24, 3) := by decide +kernel
theorem dX12_kite_70 : decode cX12_kite 70 = .ok (.aload_n 0, 1) := by decide +kernel
theorem dX12_kite_71 : decode cX12_kite 71 = .ok (.iload_n 1, 1) := by decide +kernel
theorem dX12_kite_72 : decode cX12_kite 72 = .ok (.bipush 10, 2) := by decide +kernel
theorem dX12_kite_74 : decode cX12_kite 74 = .ok (.idiv, 1) := by decide +kernel
theorem dX12_kite_75 : decode cX12_kite 75 = .ok (.iload_n 1, 1) := by decide +kernel
theorem dX12_kite_76 : decode cX12_kite 76 = .ok (.bipush 10, 2) := by decide +kernel
theorem dX12_kite_78 : decode cX12_kite 78 = .ok (.irem, 1) := by decide +kernel
theorem dX12_kite_79 : decode cX12_kite 79 = .ok (.iload_n 2, 1) := by decide +kernel
theorem dX12_kite_80 : decode cX12_kite 80 = .ok (.iload_n 3, 1) := by decide +kernel
theorem dX12_kite_81 : decode cX12_kite 81 = .ok (.bipush 100, 2) := by decide +kernel
theorem dX12_kite_83 : decode cX12_kite 83 = .ok (.idiv, 1) := by decide +kernel
theorem dX12_kite_84 : decode cX12_kite 84 = .ok (.iload_n 3, 1) := by decide +kernel
theorem dX12_kite_85 : decode cX12_kite 85 = .ok (.bipush 100, 2) := by decide +kernel
theorem dX12_kite_87 : decode cX12_kite 87 = .ok (.irem, 1) := by decide +kernel
theorem dX12_kite_88 : decode cX12_kite 88 = .ok (.invokevirtual 113, 3) := by decide +kernel
theorem dX12_kite_91 : decode cX12_kite 91 = .ok (.ireturn, 1) := by decide +kernel
theorem dX12_ofKite_0 : decode cX12_ofKite 0 = .ok (.aload_n 0, 1) := by decide +kernel
theorem dX12_ofKite_1 : decode cX12_ofKite 1 = .ok (.iload_n 1, 1) := by decide +kernel
theorem dX12_ofKite_2 : decode cX12_ofKite 2 = .ok (.iconst 2, 1) := by decide +kernel
theorem dX12_ofKite_3 : decode cX12_ofKite 3 = .ok (.invokevirtual 100, 3) := by decide +kernel
theorem dX12_ofKite_6 : decode cX12_ofKite 6 = .ok (.ifCond .eq 21, 3) := by decide +kernel
theorem dX12_ofKite_9 : decode cX12_ofKite 9 = .ok (.iload_n 2, 1) := by decide +kernel
theorem dX12_ofKite_10 : decode cX12_ofKite 10 = .ok (.iconst 0, 1) := by decide +kernel
theorem dX12_ofKite_11 : decode cX12_ofKite 11 = .ok (.iconst 5, 1) := by decide +kernel
theorem dX12_ofKite_12 : decode cX12_ofKite 12 = .ok (.invokestatic 75, 3) := by decide +kernel
theorem dX12_ofKite_15 : decode cX12_ofKite 15 = .ok (.ifCond .eq 12, 3) := by decide +kernel
theorem dX12_ofKite_18 : decode cX12_ofKite 18 = .ok (.aload_n 0, 1) := by decide +kernel
theorem dX12_ofKite_19 : decode cX12_ofKite 19 = .ok (.iload_n 1, 1) := by decide +kernel
theorem dX12_ofKite_20 : decode cX12_ofKite 20 = .ok (.iload_n 2, 1) := by decide +kernel
theorem dX12_ofKite_21 : decode cX12_ofKite 21 = .ok (.invokevirtual 117, 3) := by decide +kernel
theorem dX12_ofKite_24 : decode cX12_ofKite 24 = .ok (.goto 9, 3) := by decide +kernel
theorem dX12_ofKite_27 : decode cX12_ofKite 27 = .ok (.aload_n 0, 1) := by decide +kernel
theorem dX12_ofKite_28 : decode cX12_ofKite 28 = .ok (.ldc 83, 2) := by decide +kernel
theorem dX12_ofKite_30 : decode cX12_ofKite 30 = .ok (.invokevirtual 84, 3) := by decide +kernel
theorem dX12_ofKite_33 : decode cX12_ofKite 33 = .ok (.ireturn, 1) := by decide +kernel
theorem dX12_above_0 : decode cX12_above 0 = .ok (.iload_n 0, 1) := by decide +kernel
theorem dX12_above_1 : decode cX12_above 1 = .ok (.ifCond .ne 7, 3) := by decide +kernel
theorem dX12_above_4 : decode cX12_above 4 = .ok (.iconst (-1), 1) := by decide +kernel
theorem dX12_above_5 : decode cX12_above 5 = .ok (.goto 32, 3) := by decide +kernel
theorem dX12_above_8 : decode cX12_above 8 = .ok (.iload_n 0, 1) := by decide +kernel
theorem dX12_above_9 : decode cX12_above 9 = .ok (.iconst 4, 1) := by decide +kernel
theorem dX12_above_10 : decode cX12_above 10 = .ok (.if_icmp .ne 7, 3) := by decide +kernel
theorem dX12_above_13 : decode cX12_above 13 = .ok (.iconst 1, 1) := by decide +kernel
theorem dX12_above_14 : decode cX12_above 14 = .ok (.goto 23, 3) := by decide +kernel
theorem dX12_above_17 : decode cX12_above 17 = .ok (.iload_n 0, 1) := by decide +kernel
theorem dX12_above_18 : decode cX12_above 18 = .ok (.iconst 5, 1) := by decide +kernel
theorem dX12_above_19 : decode cX12_above 19 = .ok (.if_icmp .ne 7, 3) := by decide +kernel
theorem dX12_above_22 : decode cX12_above 22 = .ok (.iconst 2, 1) := by decide +kernel
theorem dX12_above_23 : decode cX12_above 23 = .ok (.goto 14, 3) := by decide +kernel
theorem dX12_above_26 : decode cX12_above 26 = .ok (.iload_n 0, 1) := by decide +kernel
theorem dX12_above_27 : decode cX12_above 27 = .ok (.bipush 6, 2) := by decide +kernel
theorem dX12_above_29 : decode cX12_above 29 = .ok (.if_icmp .ne 7, 3) := by decide +kernel
theorem dX12_above_32 : decode cX12_above 32 = .ok (.iconst 3, 1) := by decide +kernel
theorem dX12_above_33 : decode cX12_above 33 = .ok (.goto 4, 3) := by decide +kernel
theorem dX12_above_36 : decode cX12_above 36 = .ok (.iconst 0, 1) := by decide +kernel
theorem dX12_above_37 : decode cX12_above 37 = .ok (.ireturn, 1) := by decide +kernel
theorem dX12_as_0 : decode cX12_as 0 = .ok (.aload_n 0, 1) := by decide +kernel
theorem dX12_as_1 : decode cX12_as 1 = .ok (.iload_n 1, 1) := by decide +kernel
theorem dX12_as_2 : decode cX12_as 2 = .ok (.iconst 2, 1) := by decide +kernel
theorem dX12_as_3 : decode cX12_as 3 = .ok (.invokevirtual 100, 3) := by decide +kernel
theorem dX12_as_6 : decode cX12_as 6 = .ok (.ifCond .eq 13, 3) := by decide +kernel
theorem dX12_as_9 : decode cX12_as 9 = .ok (.iload_n 2, 1) := by decide +kernel
theorem dX12_as_10 : decode cX12_as 10 = .ok (.iconst 0, 1) := by decide +kernel
theorem dX12_as_11 : decode cX12_as 11 = .ok (.bipush 6, 2) := by decide +kernel
theorem dX12_as_13 : decode cX12_as 13 = .ok (.invokestatic 75, 3) := by decide +kernel
theorem dX12_as_16 : decode cX12_as 16 = .ok (.ifCond .ne 10, 3) := by decide +kernel
theorem dX12_as_19 : decode cX12_as 19 = .ok (.aload_n 0, 1) := by decide +kernel
theorem dX12_as_20 : decode cX12_as 20 = .ok (.ldc 83, 2) := by decide +kernel
theorem dX12_as_22 : decode cX12_as 22 = .ok (.invokevirtual 84, 3) := by decide +kernel
theorem dX12_as_25 : decode cX12_as 25 = .ok (.ireturn, 1) := by decide +kernel
theorem dX12_as_26 : decode cX12_as 26 = .ok (.aload_n 0, 1) := by decide +kernel
theorem dX12_as_27 : decode cX12_as 27 = .ok (.iload_n 1, 1) := by decide +kernel
theorem dX12_as_28 : decode cX12_as 28 = .ok (.iconst 0, 1) := by decide +kernel
theorem dX12_as_29 : decode cX12_as 29 = .ok (.invokevirtual 117, 3) := by decide +kernel
theorem dX12_as_32 : decode cX12_as 32 = .ok (.istore_n 3, 1) := by decide +kernel
theorem dX12_as_33 : decode cX12_as 33 = .ok (.iload_n 3, 1) := by decide +kernel
theorem dX12_as_34 : decode cX12_as 34 = .ok (.ifCond .lt 16, 3) := by decide +kernel
theorem dX12_as_37 : decode cX12_as 37 = .ok (.iload_n 3, 1) := by decide +kernel
theorem dX12_as_38 : decode cX12_as 38 = .ok (.iload_n 2, 1) := by decide +kernel
theorem dX12_as_39 : decode cX12_as 39 = .ok (.if_icmp .eq 11, 3) := by decide +kernel
theorem dX12_as_42 : decode cX12_as 42 = .ok (.iload_n 3, 1) := by decide +kernel
theorem dX12_as_43 : decode cX12_as 43 = .ok (.invokestatic 120, 3) := by decide +kernel
theorem dX12_as_46 : decode cX12_as 46 = .ok (.istore_n 3, 1) := by decide +kernel
theorem dX12_as_47 : decode cX12_as 47 = .ok (.goto (-14), 3) := by decide +kernel
theorem dX12_as_50 : decode cX12_as 50 = .ok (.iload_n 3, 1) := by decide +kernel
theorem dX12_as_51 : decode cX12_as 51 = .ok (.ifCond .ge 12, 3) := by decide +kernel
theorem dX12_as_54 : decode cX12_as 54 = .ok (.aload_n 0, 1) := by decide +kernel
theorem dX12_as_55 : decode cX12_as 55 = .ok (.ldc 123, 2) := by decide +kernel
theorem dX12_as_57 : decode cX12_as 57 = .ok (.invokevirtual 84, 3) := by decide +kernel
theorem dX12_as_60 : decode cX12_as 60 = .ok (.goto 9, 3) := by decide +kernel
theorem dX12_as_63 : decode cX12_as 63 = .ok (.aload_n 0, 1) := by decide +kernel
theorem dX12_as_64 : decode cX12_as 64 = .ok (.iload_n 1, 1) := by decide +kernel
theorem dX12_as_65 : decode cX12_as 65 = .ok (.iconst 3, 1) := by decide +kernel
theorem dX12_as_66 : decode cX12_as 66 = .ok (.invokevirtual 117, 3) := by decide +kernel
theorem dX12_as_69 : decode cX12_as 69 = .ok (.ireturn, 1) := by decide +kernel
theorem dX12_aim_0 : decode cX12_aim 0 = .ok (.aload_n 0, 1) := by decide +kernel
theorem dX12_aim_1 : decode cX12_aim 1 = .ok (.iload_n 1, 1) := by decide +kernel
theorem dX12_aim_2 : decode cX12_aim 2 = .ok (.iconst 2, 1) := by decide +kernel
theorem dX12_aim_3 : decode cX12_aim 3 = .ok (.invokevirtual 100, 3) := by decide +kernel
theorem dX12_aim_6 : decode cX12_aim 6 = .ok (.ifCond .eq 17, 3) := by decide +kernel
theorem dX12_aim_9 : decode cX12_aim 9 = .ok (.iload_n 2, 1) := by decide +kernel
theorem dX12_aim_10 : decode cX12_aim 10 = .ok (.iconst (-1), 1) := by decide +kernel
theorem dX12_aim_11 : decode cX12_aim 11 = .ok (.if_icmp .eq 19, 3) := by decide +kernel
theorem dX12_aim_14 : decode cX12_aim 14 = .ok (.aload_n 0, 1) := by decide +kernel
theorem dX12_aim_15 : decode cX12_aim 15 = .ok (.iload_n 2, 1) := by decide +kernel
theorem dX12_aim_16 : decode cX12_aim 16 = .ok (.iconst 1, 1) := by decide +kernel
theorem dX12_aim_17 : decode cX12_aim 17 = .ok (.invokevirtual 100, 3) := by decide +kernel
theorem dX12_aim_20 : decode cX12_aim 20 = .ok (.ifCond .ne 10, 3) := by decide +kernel
theorem dX12_aim_23 : decode cX12_aim 23 = .ok (.aload_n 0, 1) := by decide +kernel
theorem dX12_aim_24 : decode cX12_aim 24 = .ok (.ldc 83, 2) := by decide +kernel
theorem dX12_aim_26 : decode cX12_aim 26 = .ok (.invokevirtual 84, 3) := by decide +kernel
theorem dX12_aim_29 : decode cX12_aim 29 = .ok (.ireturn, 1) := by decide +kernel
theorem dX12_aim_30 : decode cX12_aim 30 = .ok (.iload_n 2, 1) := by decide +kernel
theorem dX12_aim_31 : decode cX12_aim 31 = .ok (.aload_n 0, 1) := by decide +kernel
theorem dX12_aim_32 : decode cX12_aim 32 = .ok (.iload_n 1, 1) := by decide +kernel
theorem dX12_aim_33 : decode cX12_aim 33 = .ok (.iconst 2, 1) := by decide +kernel
theorem dX12_aim_34 : decode cX12_aim 34 = .ok (.invokevirtual 117, 3) := by decide +kernel
theorem dX12_aim_37 : decode cX12_aim 37 = .ok (.if_icmp .ne 12, 3) := by decide +kernel
theorem dX12_aim_40 : decode cX12_aim 40 = .ok (.aload_n 0, 1) := by decide +kernel
theorem dX12_aim_41 : decode cX12_aim 41 = .ok (.ldc 92, 2) := by decide +kernel
theorem dX12_aim_43 : decode cX12_aim 43 = .ok (.invokevirtual 84, 3) := by decide +kernel
theorem dX12_aim_46 : decode cX12_aim 46 = .ok (.goto 17, 3) := by decide +kernel
theorem dX12_aim_49 : decode cX12_aim 49 = .ok (.aload_n 0, 1) := by decide +kernel
theorem dX12_aim_50 : decode cX12_aim 50 = .ok (.bipush 51, 2) := by decide +kernel
theorem dX12_aim_52 : decode cX12_aim 52 = .ok (.bipush 6, 2) := by decide +kernel
theorem dX12_aim_54 : decode cX12_aim 54 = .ok (.iload_n 1, 1) := by decide +kernel
theorem dX12_aim_55 : decode cX12_aim 55 = .ok (.imul, 1) := by decide +kernel
theorem dX12_aim_56 : decode cX12_aim 56 = .ok (.iadd, 1) := by decide +kernel
theorem dX12_aim_57 : decode cX12_aim 57 = .ok (.iconst 5, 1) := by decide +kernel
theorem dX12_aim_58 : decode cX12_aim 58 = .ok (.iadd, 1) := by decide +kernel
theorem dX12_aim_59 : decode cX12_aim 59 = .ok (.iload_n 2, 1) := by decide +kernel
theorem dX12_aim_60 : decode cX12_aim 60 = .ok (.invokevirtual 110, 3) := by decide +kernel
theorem dX12_aim_63 : decode cX12_aim 63 = .ok (.ireturn, 1) := by decide +kernel
theorem dX12_farOf_0 : decode cX12_farOf 0 = .ok (.aload_n 0, 1) := by decide +kernel
theorem dX12_farOf_1 : decode cX12_farOf 1 = .ok (.iload_n 1, 1) := by decide +kernel
theorem dX12_farOf_2 : decode cX12_farOf 2 = .ok (.invokevirtual 124, 3) := by decide +kernel
theorem dX12_farOf_5 : decode cX12_farOf 5 = .ok (.aload_n 0, 1) := by decide +kernel
theorem dX12_farOf_6 : decode cX12_farOf 6 = .ok (.iload_n 2, 1) := by decide +kernel
theorem dX12_farOf_7 : decode cX12_farOf 7 = .ok (.invokevirtual 124, 3) := by decide +kernel
theorem dX12_farOf_10 : decode cX12_farOf 10 = .ok (.isub, 1) := by decide +kernel
theorem dX12_farOf_11 : decode cX12_farOf 11 = .ok (.invokestatic 127, 3) := by decide +kernel
theorem dX12_farOf_14 : decode cX12_farOf 14 = .ok (.aload_n 0, 1) := by decide +kernel
theorem dX12_farOf_15 : decode cX12_farOf 15 = .ok (.iload_n 1, 1) := by decide +kernel
theorem dX12_farOf_16 : decode cX12_farOf 16 = .ok (.invokevirtual 130, 3) := by decide +kernel
theorem dX12_farOf_19 : decode cX12_farOf 19 = .ok (.aload_n 0, 1) := by decide +kernel
theorem dX12_farOf_20 : decode cX12_farOf 20 = .ok (.iload_n 2, 1) := by decide +kernel
theorem dX12_farOf_21 : decode cX12_farOf 21 = .ok (.invokevirtual 130, 3) := by decide +kernel
theorem dX12_farOf_24 : decode cX12_farOf 24 = .ok (.isub, 1) := by decide +kernel
theorem dX12_farOf_25 : decode cX12_farOf 25 = .ok (.invokestatic 127, 3) := by decide +kernel
theorem dX12_farOf_28 : decode cX12_farOf 28 = .ok (.iadd, 1) := by decide +kernel
theorem dX12_farOf_29 : decode cX12_farOf 29 = .ok (.ireturn, 1) := by decide +kernel
theorem dX12_pullOf_0 : decode cX12_pullOf 0 = .ok (.aload_n 0, 1) := by decide +kernel
theorem dX12_pullOf_1 : decode cX12_pullOf 1 = .ok (.iload_n 1, 1) := by decide +kernel
theorem dX12_pullOf_2 : decode cX12_pullOf 2 = .ok (.iconst 2, 1) := by decide +kernel
theorem dX12_pullOf_3 : decode cX12_pullOf 3 = .ok (.invokevirtual 117, 3) := by decide +kernel
theorem dX12_pullOf_6 : decode cX12_pullOf 6 = .ok (.istore 6, 2) := by decide +kernel
theorem dX12_pullOf_8 : decode cX12_pullOf 8 = .ok (.aload_n 0, 1) := by decide +kernel
theorem dX12_pullOf_9 : decode cX12_pullOf 9 = .ok (.getfield 9, 3) := by decide +kernel
theorem dX12_pullOf_12 : decode cX12_pullOf 12 = .ok (.bipush 27, 2) := by decide +kernel
theorem dX12_pullOf_14 : decode cX12_pullOf 14 = .ok (.iload 4, 2) := by decide +kernel
theorem dX12_pullOf_16 : decode cX12_pullOf 16 = .ok (.iadd, 1) := by decide +kernel
theorem dX12_pullOf_17 : decode cX12_pullOf 17 = .ok (.iaload, 1) := by decide +kernel
theorem dX12_pullOf_18 : decode cX12_pullOf 18 = .ok (.bipush 10, 2) := by decide +kernel
theorem dX12_pullOf_20 : decode cX12_pullOf 20 = .ok (.irem, 1) := by decide +kernel
theorem dX12_pullOf_21 : decode cX12_pullOf 21 = .ok (.istore 7, 2) := by decide +kernel
theorem dX12_pullOf_23 : decode cX12_pullOf 23 = .ok (.aload_n 0, 1) := by decide +kernel
theorem dX12_pullOf_24 : decode cX12_pullOf 24 = .ok (.iload_n 1, 1) := by decide +kernel
theorem dX12_pullOf_25 : decode cX12_pullOf 25 = .ok (.iconst 1, 1) := by decide +kernel
theorem dX12_pullOf_26 : decode cX12_pullOf 26 = .ok (.invokevirtual 117, 3) := by decide +kernel
theorem dX12_pullOf_29 : decode cX12_pullOf 29 = .ok (.istore 8, 2) := by decide +kernel
theorem dX12_pullOf_31 : decode cX12_pullOf 31 = .ok (.aload_n 0, 1) := by decide +kernel
theorem dX12_pullOf_32 : decode cX12_pullOf 32 = .ok (.iload_n 1, 1) := by decide +kernel
theorem dX12_pullOf_33 : decode cX12_pullOf 33 = .ok (.iconst 0, 1) := by decide +kernel
theorem dX12_pullOf_34 : decode cX12_pullOf 34 = .ok (.invokevirtual 117, 3) := by decide +kernel
theorem dX12_pullOf_37 : decode cX12_pullOf 37 = .ok (.istore 9, 2) := by decide +kernel
theorem dX12_pullOf_39 : decode cX12_pullOf 39 = .ok (.aload_n 0, 1) := by decide +kernel
theorem dX12_pullOf_40 : decode cX12_pullOf 40 = .ok (.iload_n 1, 1) := by decide +kernel
theorem dX12_pullOf_41 : decode cX12_pullOf 41 = .ok (.iconst 3, 1) := by decide +kernel
theorem dX12_pullOf_42 : decode cX12_pullOf 42 = .ok (.invokevirtual 117, 3) := by decide +kernel
theorem dX12_pullOf_45 : decode cX12_pullOf 45 = .ok (.iconst 2, 1) := by decide +kernel
theorem dX12_pullOf_46 : decode cX12_pullOf 46 = .ok (.iload 7, 2) := by decide +kernel
theorem dX12_pullOf_48 : decode cX12_pullOf 48 = .ok (.imul, 1) := by decide +kernel
theorem dX12_pullOf_49 : decode cX12_pullOf 49 = .ok (.iadd, 1) := by decide +kernel
theorem dX12_pullOf_50 : decode cX12_pullOf 50 = .ok (.iload_n 3, 1) := by decide +kernel
theorem dX12_pullOf_51 : decode cX12_pullOf 51 = .ok (.isub, 1) := by decide +kernel
theorem dX12_pullOf_52 : decode cX12_pullOf 52 = .ok (.iconst 3, 1) := by decide +kernel
theorem dX12_pullOf_53 : decode cX12_pullOf 53 = .ok (.iconst 0, 1) := by decide +kernel
theorem dX12_pullOf_54 : decode cX12_pullOf 54 = .ok (.aload_n 0, 1) := by decide +kernel
theorem dX12_pullOf_55 : decode cX12_pullOf 55 = .ok (.iload_n 2, 1) := by decide +kernel
theorem dX12_pullOf_56 : decode cX12_pullOf 56 = .ok (.invokevirtual 133, 3) := by decide +kernel
theorem dX12_pullOf_59 : decode cX12_pullOf 59 = .ok (.aload_n 0, 1) := by decide +kernel
theorem dX12_pullOf_60 : decode cX12_pullOf 60 = .ok (.iload 6, 2) := by decide +kernel
theorem dX12_pullOf_62 : decode cX12_pullOf 62 = .ok (.invokevirtual 133, 3) := by decide +kernel
theorem dX12_pullOf_65 : decode cX12_pullOf 65 = .ok (.isub, 1) := by decide +kernel
theorem dX12_pullOf_66 : decode cX12_pullOf 66 = .ok (.invokestatic 72, 3) := by decide +kernel
theorem dX12_pullOf_69 : decode cX12_pullOf 69 = .ok (.imul, 1) := by decide +kernel
theorem dX12_pullOf_70 : decode cX12_pullOf 70 = .ok (.isub, 1) := by decide +kernel
theorem dX12_pullOf_71 : decode cX12_pullOf 71 = .ok (.istore 10, 2) := by decide +kernel
theorem dX12_pullOf_73 : decode cX12_pullOf 73 = .ok (.iload 10, 2) := by decide +kernel
theorem dX12_pullOf_75 : decode cX12_pullOf 75 = .ok (.iload 7, 2) := by decide +kernel
theorem dX12_pullOf_77 : decode cX12_pullOf 77 = .ok (.iconst 2, 1) := by decide +kernel
theorem dX12_pullOf_78 : decode cX12_pullOf 78 = .ok (.if_icmp .gt 8, 3) := by decide +kernel
theorem dX12_pullOf_81 : decode cX12_pullOf 81 = .ok (.bipush 9, 2) := by decide +kernel
theorem dX12_pullOf_83 : decode cX12_pullOf 83 = .ok (.goto 4, 3) := by decide +kernel
theorem dX12_pullOf_86 : decode cX12_pullOf 86 = .ok (.iconst 0, 1) := by decide +kernel
theorem dX12_pullOf_87 : decode cX12_pullOf 87 = .ok (.isub, 1) := by decide +kernel
theorem dX12_pullOf_88 : decode cX12_pullOf 88 = .ok (.istore 11, 2) := by decide +kernel
theorem dX12_pullOf_90 : decode cX12_pullOf 90 = .ok (.iload 10, 2) := by decide +kernel
theorem dX12_pullOf_92 : decode cX12_pullOf 92 = .ok (.iload 7, 2) := by decide +kernel
theorem dX12_pullOf_94 : decode cX12_pullOf 94 = .ok (.iconst 4, 1) := by decide +kernel
theorem dX12_pullOf_95 : decode cX12_pullOf 95 = .ok (.if_icmp .gt 8, 3) := by decide +kernel
theorem dX12_pullOf_98 : decode cX12_pullOf 98 = .ok (.iload 8, 2) := by decide +kernel
theorem dX12_pullOf_100 : decode cX12_pullOf 100 = .ok (.goto 6, 3) := by decide +kernel
theorem dX12_pullOf_103 : decode cX12_pullOf 103 = .ok (.iload 8, 2) := by decide +kernel
theorem dX12_pullOf_105 : decode cX12_pullOf 105 = .ok (.ineg, 1) := by decide +kernel
theorem dX12_pullOf_106 : decode cX12_pullOf 106 = .ok (.iadd, 1) := by decide +kernel
theorem dX12_pullOf_107 : decode cX12_pullOf 107 = .ok (.istore 12, 2) := by decide +kernel
theorem dX12_pullOf_109 : decode cX12_pullOf 109 = .ok (.iload 9, 2) := by decide +kernel
theorem dX12_pullOf_111 : decode cX12_pullOf 111 = .ok (.tableswitch 102 1 6 #[37, 44, 54, 61, 70, 89], 37) := by decide +kernel
theorem dX12_pullOf_148 : decode cX12_pullOf 148 = .ok (.iload 11, 2) := by decide +kernel
theorem dX12_pullOf_150 : decode cX12_pullOf 150 = .ok (.istore 13, 2) := by decide +kernel
theorem dX12_pullOf_152 : decode cX12_pullOf 152 = .ok (.goto 65, 3) := by decide +kernel
theorem dX12_pullOf_155 : decode cX12_pullOf 155 = .ok (.iload 10, 2) := by decide +kernel
theorem dX12_pullOf_157 : decode cX12_pullOf 157 = .ok (.iload 7, 2) := by decide +kernel
theorem dX12_pullOf_159 : decode cX12_pullOf 159 = .ok (.isub, 1) := by decide +kernel
theorem dX12_pullOf_160 : decode cX12_pullOf 160 = .ok (.istore 13, 2) := by decide +kernel
theorem dX12_pullOf_162 : decode cX12_pullOf 162 = .ok (.goto 55, 3) := by decide +kernel
theorem dX12_pullOf_165 : decode cX12_pullOf 165 = .ok (.iload 12, 2) := by decide +kernel
theorem dX12_pullOf_167 : decode cX12_pullOf 167 = .ok (.istore 13, 2) := by decide +kernel
theorem dX12_pullOf_169 : decode cX12_pullOf 169 = .ok (.goto 48, 3) := by decide +kernel
theorem dX12_pullOf_172 : decode cX12_pullOf 172 = .ok (.iconst 2, 1) := by decide +kernel
theorem dX12_pullOf_173 : decode cX12_pullOf 173 = .ok (.iload 11, 2) := by decide +kernel
theorem dX12_pullOf_175 : decode cX12_pullOf 175 = .ok (.imul, 1) := by decide +kernel
theorem dX12_pullOf_176 : decode cX12_pullOf 176 = .ok (.istore 13, 2) := by decide +kernel
theorem dX12_pullOf_178 : decode cX12_pullOf 178 = .ok (.goto 39, 3) := by decide +kernel
theorem dX12_pullOf_181 : decode cX12_pullOf 181 = .ok (.iload 10, 2) := by decide +kernel
theorem dX12_pullOf_183 : decode cX12_pullOf 183 = .ok (.iload 7, 2) := by decide +kernel
theorem dX12_pullOf_185 : decode cX12_pullOf 185 = .ok (.isub, 1) := by decide +kernel
theorem dX12_pullOf_186 : decode cX12_pullOf 186 = .ok (.aload_n 0, 1) := by decide +kernel
theorem dX12_pullOf_187 : decode cX12_pullOf 187 = .ok (.iload_n 1, 1) := by decide +kernel
theorem dX12_pullOf_188 : decode cX12_pullOf 188 = .ok (.iconst 4, 1) := by decide +kernel
theorem dX12_pullOf_189 : decode cX12_pullOf 189 = .ok (.invokevirtual 117, 3) := by decide +kernel
theorem dX12_pullOf_192 : decode cX12_pullOf 192 = .ok (.iconst 4, 1) := by decide +kernel
theorem dX12_pullOf_193 : decode cX12_pullOf 193 = .ok (.idiv, 1) := by decide +kernel
theorem dX12_pullOf_194 : decode cX12_pullOf 194 = .ok (.iadd, 1) := by decide +kernel
theorem dX12_pullOf_195 : decode cX12_pullOf 195 = .ok (.istore 13, 2) := by decide +kernel
theorem dX12_pullOf_197 : decode cX12_pullOf 197 = .ok (.goto 20, 3) := by decide +kernel
theorem dX12_pullOf_200 : decode cX12_pullOf 200 = .ok (.iload 12, 2) := by decide +kernel
theorem dX12_pullOf_202 : decode cX12_pullOf 202 = .ok (.iload 5, 2) := by decide +kernel
theorem dX12_pullOf_204 : decode cX12_pullOf 204 = .ok (.bipush 24, 2) := by decide +kernel
theorem dX12_pullOf_206 : decode cX12_pullOf 206 = .ok (.idiv, 1) := by decide +kernel
theorem dX12_pullOf_207 : decode cX12_pullOf 207 = .ok (.isub, 1) := by decide +kernel
theorem dX12_pullOf_208 : decode cX12_pullOf 208 = .ok (.istore 13, 2) := by decide +kernel
theorem dX12_pullOf_210 : decode cX12_pullOf 210 = .ok (.goto 7, 3) := by decide +kernel
theorem dX12_pullOf_213 : decode cX12_pullOf 213 = .ok (.iload 10, 2) := by decide +kernel
theorem dX12_pullOf_215 : decode cX12_pullOf 215 = .ok (.istore 13, 2) := by decide +kernel
theorem dX12_pullOf_217 : decode cX12_pullOf 217 = .ok (.iload 13, 2) := by decide +kernel
theorem dX12_pullOf_219 : decode cX12_pullOf 219 = .ok (.aload_n 0, 1) := by decide +kernel
theorem dX12_pullOf_220 : decode cX12_pullOf 220 = .ok (.iload 7, 2) := by decide +kernel
theorem dX12_pullOf_222 : decode cX12_pullOf 222 = .ok (.aload_n 0, 1) := by decide +kernel
theorem dX12_pullOf_223 : decode cX12_pullOf 223 = .ok (.iload 6, 2) := by decide +kernel
theorem dX12_pullOf_225 : decode cX12_pullOf 225 = .ok (.iload_n 2, 1) := by decide +kernel
theorem dX12_pullOf_226 : decode cX12_pullOf 226 = .ok (.invokevirtual 136, 3) := by decide +kernel
theorem dX12_pullOf_229 : decode cX12_pullOf 229 = .ok (.iload_n 3, 1) := by decide +kernel
theorem dX12_pullOf_230 : decode cX12_pullOf 230 = .ok (.iload 9, 2) := by decide +kernel
theorem dX12_pullOf_232 : decode cX12_pullOf 232 = .ok (.invokevirtual 139, 3) := by decide +kernel
theorem dX12_pullOf_235 : decode cX12_pullOf 235 = .ok (.iadd, 1) := by decide +kernel
theorem dX12_pullOf_236 : decode cX12_pullOf 236 = .ok (.ireturn, 1) := by decide +kernel
theorem dX12_lifts_0 : decode cX12_lifts 0 = .ok (.aload_n 0, 1) := by decide +kernel
theorem dX12_lifts_1 : decode cX12_lifts 1 = .ok (.iconst 0, 1) := by decide +kernel
theorem dX12_lifts_2 : decode cX12_lifts 2 = .ok (.invokevirtual 143, 3) := by decide +kernel
theorem dX12_lifts_5 : decode cX12_lifts 5 = .ok (.ifCond .eq 16, 3) := by decide +kernel
theorem dX12_lifts_8 : decode cX12_lifts 8 = .ok (.aload_n 0, 1) := by decide +kernel
theorem dX12_lifts_9 : decode cX12_lifts 9 = .ok (.iconst 0, 1) := by decide +kernel
theorem dX12_lifts_10 : decode cX12_lifts 10 = .ok (.iload_n 1, 1) := by decide +kernel
theorem dX12_lifts_11 : decode cX12_lifts 11 = .ok (.iload_n 2, 1) := by decide +kernel
theorem dX12_lifts_12 : decode cX12_lifts 12 = .ok (.iload_n 3, 1) := by decide +kernel
theorem dX12_lifts_13 : decode cX12_lifts 13 = .ok (.iload 4, 2) := by decide +kernel
theorem dX12_lifts_15 : decode cX12_lifts 15 = .ok (.invokevirtual 146, 3) := by decide +kernel
theorem dX12_lifts_18 : decode cX12_lifts 18 = .ok (.goto 4, 3) := by decide +kernel
theorem dX12_lifts_21 : decode cX12_lifts 21 = .ok (.iconst 0, 1) := by decide +kernel
theorem dX12_lifts_22 : decode cX12_lifts 22 = .ok (.ireturn, 1) := by decide +kernel
theorem dX12_standsOver_0 : decode cX12_standsOver 0 = .ok (.aload_n 0, 1) := by decide +kernel
theorem dX12_standsOver_1 : decode cX12_standsOver 1 = .ok (.iload_n 1, 1) := by decide +kernel
theorem dX12_standsOver_2 : decode cX12_standsOver 2 = .ok (.iconst 2, 1) := by decide +kernel
theorem dX12_standsOver_3 : decode cX12_standsOver 3 = .ok (.invokevirtual 117, 3) := by decide +kernel
theorem dX12_standsOver_6 : decode cX12_standsOver 6 = .ok (.istore 6, 2) := by decide +kernel
theorem dX12_standsOver_8 : decode cX12_standsOver 8 = .ok (.aload_n 0, 1) := by decide +kernel
theorem dX12_standsOver_9 : decode cX12_standsOver 9 = .ok (.getfield 9, 3) := by decide +kernel
theorem dX12_standsOver_12 : decode cX12_standsOver 12 = .ok (.bipush 27, 2) := by decide +kernel
theorem dX12_standsOver_14 : decode cX12_standsOver 14 = .ok (.iload 4, 2) := by decide +kernel
theorem dX12_standsOver_16 : decode cX12_standsOver 16 = .ok (.iadd, 1) := by decide +kernel
theorem dX12_standsOver_17 : decode cX12_standsOver 17 = .ok (.iaload, 1) := by decide +kernel
theorem dX12_standsOver_18 : decode cX12_standsOver 18 = .ok (.istore 7, 2) := by decide +kernel
theorem dX12_standsOver_20 : decode cX12_standsOver 20 = .ok (.iload_n 2, 1) := by decide +kernel
theorem dX12_standsOver_21 : decode cX12_standsOver 21 = .ok (.iload 6, 2) := by decide +kernel
theorem dX12_standsOver_23 : decode cX12_standsOver 23 = .ok (.if_icmp .eq 27, 3) := by decide +kernel
theorem dX12_standsOver_26 : decode cX12_standsOver 26 = .ok (.iload 7, 2) := by decide +kernel
theorem dX12_standsOver_28 : decode cX12_standsOver 28 = .ok (.bipush 10, 2) := by decide +kernel
theorem dX12_standsOver_30 : decode cX12_standsOver 30 = .ok (.irem, 1) := by decide +kernel
theorem dX12_standsOver_31 : decode cX12_standsOver 31 = .ok (.ifCond .eq 19, 3) := by decide +kernel
theorem dX12_standsOver_34 : decode cX12_standsOver 34 = .ok (.aload_n 0, 1) := by decide +kernel
theorem dX12_standsOver_35 : decode cX12_standsOver 35 = .ok (.iload 6, 2) := by decide +kernel
theorem dX12_standsOver_37 : decode cX12_standsOver 37 = .ok (.iload_n 2, 1) := by decide +kernel
theorem dX12_standsOver_38 : decode cX12_standsOver 38 = .ok (.invokevirtual 136, 3) := by decide +kernel
theorem dX12_standsOver_41 : decode cX12_standsOver 41 = .ok (.aload_n 0, 1) := by decide +kernel
theorem dX12_standsOver_42 : decode cX12_standsOver 42 = .ok (.iload_n 1, 1) := by decide +kernel
theorem dX12_standsOver_43 : decode cX12_standsOver 43 = .ok (.iconst 4, 1) := by decide +kernel
theorem dX12_standsOver_44 : decode cX12_standsOver 44 = .ok (.invokevirtual 117, 3) := by decide +kernel
theorem dX12_standsOver_47 : decode cX12_standsOver 47 = .ok (.if_icmp .le 5, 3) := by decide +kernel
theorem dX12_standsOver_50 : decode cX12_standsOver 50 = .ok (.iconst 0, 1) := by decide +kernel
theorem dX12_standsOver_51 : decode cX12_standsOver 51 = .ok (.ireturn, 1) := by decide +kernel
theorem dX12_standsOver_52 : decode cX12_standsOver 52 = .ok (.aload_n 0, 1) := by decide +kernel
theorem dX12_standsOver_53 : decode cX12_standsOver 53 = .ok (.iload_n 2, 1) := by decide +kernel
theorem dX12_standsOver_54 : decode cX12_standsOver 54 = .ok (.invokevirtual 124, 3) := by decide +kernel
theorem dX12_standsOver_57 : decode cX12_standsOver 57 = .ok (.aload_n 0, 1) := by decide +kernel
theorem dX12_standsOver_58 : decode cX12_standsOver 58 = .ok (.iload 6, 2) := by decide +kernel
theorem dX12_standsOver_60 : decode cX12_standsOver 60 = .ok (.invokevirtual 124, 3) := by decide +kernel
theorem dX12_standsOver_63 : decode cX12_standsOver 63 = .ok (.isub, 1) := by decide +kernel
theorem dX12_standsOver_64 : decode cX12_standsOver 64 = .ok (.aload_n 0, 1) := by decide +kernel
theorem dX12_standsOver_65 : decode cX12_standsOver 65 = .ok (.getfield 22, 3) := by decide +kernel
theorem dX12_standsOver_68 : decode cX12_standsOver 68 = .ok (.iload 7, 2) := by decide +kernel
theorem dX12_standsOver_70 : decode cX12_standsOver 70 = .ok (.bipush 10, 2) := by decide +kernel
theorem dX12_standsOver_72 : decode cX12_standsOver 72 = .ok (.idiv, 1) := by decide +kernel
theorem dX12_standsOver_73 : decode cX12_standsOver 73 = .ok (.iaload, 1) := by decide +kernel
theorem dX12_standsOver_74 : decode cX12_standsOver 74 = .ok (.imul, 1) := by decide +kernel
theorem dX12_standsOver_75 : decode cX12_standsOver 75 = .ok (.aload_n 0, 1) := by decide +kernel
theorem dX12_standsOver_76 : decode cX12_standsOver 76 = .ok (.iload_n 2, 1) := by decide +kernel
theorem dX12_standsOver_77 : decode cX12_standsOver 77 = .ok (.invokevirtual 130, 3) := by decide +kernel
theorem dX12_standsOver_80 : decode cX12_standsOver 80 = .ok (.aload_n 0, 1) := by decide +kernel
theorem dX12_standsOver_81 : decode cX12_standsOver 81 = .ok (.iload 6, 2) := by decide +kernel
theorem dX12_standsOver_83 : decode cX12_standsOver 83 = .ok (.invokevirtual 130, 3) := by decide +kernel
theorem dX12_standsOver_86 : decode cX12_standsOver 86 = .ok (.isub, 1) := by decide +kernel
theorem dX12_standsOver_87 : decode cX12_standsOver 87 = .ok (.aload_n 0, 1) := by decide +kernel
theorem dX12_standsOver_88 : decode cX12_standsOver 88 = .ok (.getfield 25, 3) := by decide +kernel
theorem dX12_standsOver_91 : decode cX12_standsOver 91 = .ok (.iload 7, 2) := by decide +kernel
theorem dX12_standsOver_93 : decode cX12_standsOver 93 = .ok (.bipush 10, 2) := by decide +kernel
theorem dX12_standsOver_95 : decode cX12_standsOver 95 = .ok (.idiv, 1) := by decide +kernel
theorem dX12_standsOver_96 : decode cX12_standsOver 96 = .ok (.iaload, 1) := by decide +kernel
theorem dX12_standsOver_97 : decode cX12_standsOver 97 = .ok (.imul, 1) := by decide +kernel
theorem dX12_standsOver_98 : decode cX12_standsOver 98 = .ok (.iadd, 1) := by decide +kernel
theorem dX12_standsOver_99 : decode cX12_standsOver 99 = .ok (.istore 8, 2) := by decide +kernel
theorem dX12_standsOver_101 : decode cX12_standsOver 101 = .ok (.iload 8, 2) := by decide +kernel
theorem dX12_standsOver_103 : decode cX12_standsOver 103 = .ok (.ifCond .le 21, 3) := by decide +kernel
theorem dX12_standsOver_106 : decode cX12_standsOver 106 = .ok (.aload_n 0, 1) := by decide +kernel
theorem dX12_standsOver_107 : decode cX12_standsOver 107 = .ok (.iload_n 1, 1) := by decide +kernel
theorem dX12_standsOver_108 : decode cX12_standsOver 108 = .ok (.iload_n 2, 1) := by decide +kernel
theorem dX12_standsOver_109 : decode cX12_standsOver 109 = .ok (.iload_n 3, 1) := by decide +kernel
theorem dX12_standsOver_110 : decode cX12_standsOver 110 = .ok (.iload 4, 2) := by decide +kernel
theorem dX12_standsOver_112 : decode cX12_standsOver 112 = .ok (.iload 5, 2) := by decide +kernel
theorem dX12_standsOver_114 : decode cX12_standsOver 114 = .ok (.invokevirtual 149, 3) := by decide +kernel
theorem dX12_standsOver_117 : decode cX12_standsOver 117 = .ok (.ifCond .lt 7, 3) := by decide +kernel
theorem dX12_standsOver_120 : decode cX12_standsOver 120 = .ok (.iconst 1, 1) := by decide +kernel
theorem dX12_standsOver_121 : decode cX12_standsOver 121 = .ok (.goto 4, 3) := by decide +kernel
theorem dX12_standsOver_124 : decode cX12_standsOver 124 = .ok (.iconst 0, 1) := by decide +kernel
theorem dX12_standsOver_125 : decode cX12_standsOver 125 = .ok (.ireturn, 1) := by decide +kernel
theorem dX12_standsNow_0 : decode cX12_standsNow 0 = .ok (.aload_n 0, 1) := by decide +kernel
theorem dX12_standsNow_1 : decode cX12_standsNow 1 = .ok (.iload_n 1, 1) := by decide +kernel
theorem dX12_standsNow_2 : decode cX12_standsNow 2 = .ok (.iload_n 2, 1) := by decide +kernel
theorem dX12_standsNow_3 : decode cX12_standsNow 3 = .ok (.iload_n 3, 1) := by decide +kernel
theorem dX12_standsNow_4 : decode cX12_standsNow 4 = .ok (.aload_n 0, 1) := by decide +kernel
theorem dX12_standsNow_5 : decode cX12_standsNow 5 = .ok (.getfield 9, 3) := by decide +kernel
theorem dX12_standsNow_8 : decode cX12_standsNow 8 = .ok (.iconst 0, 1) := by decide +kernel
theorem dX12_standsNow_9 : decode cX12_standsNow 9 = .ok (.iaload, 1) := by decide +kernel
theorem dX12_standsNow_10 : decode cX12_standsNow 10 = .ok (.bipush 24, 2) := by decide +kernel
theorem dX12_standsNow_12 : decode cX12_standsNow 12 = .ok (.irem, 1) := by decide +kernel
theorem dX12_standsNow_13 : decode cX12_standsNow 13 = .ok (.aload_n 0, 1) := by decide +kernel
theorem dX12_standsNow_14 : decode cX12_standsNow 14 = .ok (.getfield 9, 3) := by decide +kernel
theorem dX12_standsNow_17 : decode cX12_standsNow 17 = .ok (.iconst 0, 1) := by decide +kernel
theorem dX12_standsNow_18 : decode cX12_standsNow 18 = .ok (.iaload, 1) := by decide +kernel
theorem dX12_standsNow_19 : decode cX12_standsNow 19 = .ok (.invokevirtual 152, 3) := by decide +kernel
theorem dX12_standsNow_22 : decode cX12_standsNow 22 = .ok (.ireturn, 1) := by decide +kernel
theorem dX12_isLoad_0 : decode cX12_isLoad 0 = .ok (.iload_n 0, 1) := by decide +kernel
theorem dX12_isLoad_1 : decode cX12_isLoad 1 = .ok (.iconst 0, 1) := by decide +kernel
theorem dX12_isLoad_2 : decode cX12_isLoad 2 = .ok (.sipush 999, 3) := by decide +kernel
theorem dX12_isLoad_5 : decode cX12_isLoad 5 = .ok (.invokestatic 75, 3) := by decide +kernel
theorem dX12_isLoad_8 : decode cX12_isLoad 8 = .ok (.ireturn, 1) := by decide +kernel
theorem dX12_pull_0 : decode cX12_pull 0 = .ok (.aload_n 0, 1) := by decide +kernel
theorem dX12_pull_1 : decode cX12_pull 1 = .ok (.iload_n 1, 1) := by decide +kernel
theorem dX12_pull_2 : decode cX12_pull 2 = .ok (.iconst 2, 1) := by decide +kernel
theorem dX12_pull_3 : decode cX12_pull 3 = .ok (.invokevirtual 100, 3) := by decide +kernel
theorem dX12_pull_6 : decode cX12_pull 6 = .ok (.ifCond .eq 19, 3) := by decide +kernel
theorem dX12_pull_9 : decode cX12_pull 9 = .ok (.aload_n 0, 1) := by decide +kernel
theorem dX12_pull_10 : decode cX12_pull 10 = .ok (.iload_n 2, 1) := by decide +kernel
theorem dX12_pull_11 : decode cX12_pull 11 = .ok (.iconst 1, 1) := by decide +kernel
theorem dX12_pull_12 : decode cX12_pull 12 = .ok (.invokevirtual 100, 3) := by decide +kernel
theorem dX12_pull_15 : decode cX12_pull 15 = .ok (.ifCond .eq 10, 3) := by decide +kernel
theorem dX12_pull_18 : decode cX12_pull 18 = .ok (.iload_n 3, 1) := by decide +kernel
theorem dX12_pull_19 : decode cX12_pull 19 = .ok (.invokestatic 156, 3) := by decide +kernel
theorem dX12_pull_22 : decode cX12_pull 22 = .ok (.ifCond .ne 10, 3) := by decide +kernel
theorem dX12_pull_25 : decode cX12_pull 25 = .ok (.aload_n 0, 1) := by decide +kernel
theorem dX12_pull_26 : decode cX12_pull 26 = .ok (.ldc 83, 2) := by decide +kernel
theorem dX12_pull_28 : decode cX12_pull 28 = .ok (.invokevirtual 84, 3) := by decide +kernel
theorem dX12_pull_31 : decode cX12_pull 31 = .ok (.ireturn, 1) := by decide +kernel
theorem dX12_pull_32 : decode cX12_pull 32 = .ok (.aload_n 0, 1) := by decide +kernel
theorem dX12_pull_33 : decode cX12_pull 33 = .ok (.iload_n 1, 1) := by decide +kernel
theorem dX12_pull_34 : decode cX12_pull 34 = .ok (.iload_n 2, 1) := by decide +kernel
theorem dX12_pull_35 : decode cX12_pull 35 = .ok (.iload_n 3, 1) := by decide +kernel
theorem dX12_pull_36 : decode cX12_pull 36 = .ok (.aload_n 0, 1) := by decide +kernel
theorem dX12_pull_37 : decode cX12_pull 37 = .ok (.getfield 9, 3) := by decide +kernel
theorem dX12_pull_40 : decode cX12_pull 40 = .ok (.iconst 0, 1) := by decide +kernel
theorem dX12_pull_41 : decode cX12_pull 41 = .ok (.iaload, 1) := by decide +kernel
theorem dX12_pull_42 : decode cX12_pull 42 = .ok (.bipush 24, 2) := by decide +kernel
theorem dX12_pull_44 : decode cX12_pull 44 = .ok (.irem, 1) := by decide +kernel
theorem dX12_pull_45 : decode cX12_pull 45 = .ok (.aload_n 0, 1) := by decide +kernel
theorem dX12_pull_46 : decode cX12_pull 46 = .ok (.getfield 9, 3) := by decide +kernel
theorem dX12_pull_49 : decode cX12_pull 49 = .ok (.iconst 0, 1) := by decide +kernel
theorem dX12_pull_50 : decode cX12_pull 50 = .ok (.iaload, 1) := by decide +kernel
theorem dX12_pull_51 : decode cX12_pull 51 = .ok (.invokevirtual 149, 3) := by decide +kernel
theorem dX12_pull_54 : decode cX12_pull 54 = .ok (.ireturn, 1) := by decide +kernel
theorem dX12_stands_0 : decode cX12_stands 0 = .ok (.aload_n 0, 1) := by decide +kernel
theorem dX12_stands_1 : decode cX12_stands 1 = .ok (.iload_n 1, 1) := by decide +kernel
theorem dX12_stands_2 : decode cX12_stands 2 = .ok (.iconst 2, 1) := by decide +kernel
theorem dX12_stands_3 : decode cX12_stands 3 = .ok (.invokevirtual 100, 3) := by decide +kernel
theorem dX12_stands_6 : decode cX12_stands 6 = .ok (.ifCond .eq 19, 3) := by decide +kernel
theorem dX12_stands_9 : decode cX12_stands 9 = .ok (.aload_n 0, 1) := by decide +kernel
theorem dX12_stands_10 : decode cX12_stands 10 = .ok (.iload_n 2, 1) := by decide +kernel
theorem dX12_stands_11 : decode cX12_stands 11 = .ok (.iconst 1, 1) := by decide +kernel
theorem dX12_stands_12 : decode cX12_stands 12 = .ok (.invokevirtual 100, 3) := by decide +kernel
theorem dX12_stands_15 : decode cX12_stands 15 = .ok (.ifCond .eq 10, 3) := by decide +kernel
theorem dX12_stands_18 : decode cX12_stands 18 = .ok (.iload_n 3, 1) := by decide +kernel
theorem dX12_stands_19 : decode cX12_stands 19 = .ok (.invokestatic 156, 3) := by decide +kernel
theorem dX12_stands_22 : decode cX12_stands 22 = .ok (.ifCond .ne 10, 3) := by decide +kernel
theorem dX12_stands_25 : decode cX12_stands 25 = .ok (.aload_n 0, 1) := by decide +kernel
theorem dX12_stands_26 : decode cX12_stands 26 = .ok (.ldc 83, 2) := by decide +kernel
theorem dX12_stands_28 : decode cX12_stands 28 = .ok (.invokevirtual 84, 3) := by decide +kernel
theorem dX12_stands_31 : decode cX12_stands 31 = .ok (.ireturn, 1) := by decide +kernel
theorem dX12_stands_32 : decode cX12_stands 32 = .ok (.aload_n 0, 1) := by decide +kernel
theorem dX12_stands_33 : decode cX12_stands 33 = .ok (.iload_n 1, 1) := by decide +kernel
theorem dX12_stands_34 : decode cX12_stands 34 = .ok (.iload_n 2, 1) := by decide +kernel
theorem dX12_stands_35 : decode cX12_stands 35 = .ok (.iload_n 3, 1) := by decide +kernel
theorem dX12_stands_36 : decode cX12_stands 36 = .ok (.invokevirtual 159, 3) := by decide +kernel
theorem dX12_stands_39 : decode cX12_stands 39 = .ok (.ifCond .eq 7, 3) := by decide +kernel
theorem dX12_stands_42 : decode cX12_stands 42 = .ok (.iconst 1, 1) := by decide +kernel
theorem dX12_stands_43 : decode cX12_stands 43 = .ok (.goto 4, 3) := by decide +kernel
theorem dX12_stands_46 : decode cX12_stands 46 = .ok (.iconst 0, 1) := by decide +kernel
theorem dX12_stands_47 : decode cX12_stands 47 = .ok (.ireturn, 1) := by decide +kernel
theorem dX12_over_0 : decode cX12_over 0 = .ok (.aload_n 0, 1) := by decide +kernel
theorem dX12_over_1 : decode cX12_over 1 = .ok (.iload_n 1, 1) := by decide +kernel
theorem dX12_over_2 : decode cX12_over 2 = .ok (.iconst 2, 1) := by decide +kernel
theorem dX12_over_3 : decode cX12_over 3 = .ok (.invokevirtual 100, 3) := by decide +kernel
theorem dX12_over_6 : decode cX12_over 6 = .ok (.ifCond .eq 20, 3) := by decide +kernel
theorem dX12_over_9 : decode cX12_over 9 = .ok (.iload_n 2, 1) := by decide +kernel
theorem dX12_over_10 : decode cX12_over 10 = .ok (.iconst 0, 1) := by decide +kernel
theorem dX12_over_11 : decode cX12_over 11 = .ok (.bipush 23, 2) := by decide +kernel
theorem dX12_over_13 : decode cX12_over 13 = .ok (.invokestatic 75, 3) := by decide +kernel
theorem dX12_over_16 : decode cX12_over 16 = .ok (.ifCond .eq 10, 3) := by decide +kernel
theorem dX12_over_19 : decode cX12_over 19 = .ok (.iload_n 3, 1) := by decide +kernel
theorem dX12_over_20 : decode cX12_over 20 = .ok (.invokestatic 156, 3) := by decide +kernel
theorem dX12_over_23 : decode cX12_over 23 = .ok (.ifCond .ne 10, 3) := by decide +kernel
theorem dX12_over_26 : decode cX12_over 26 = .ok (.aload_n 0, 1) := by decide +kernel
theorem dX12_over_27 : decode cX12_over 27 = .ok (.ldc 83, 2) := by decide +kernel
theorem dX12_over_29 : decode cX12_over 29 = .ok (.invokevirtual 84, 3) := by decide +kernel
theorem dX12_over_32 : decode cX12_over 32 = .ok (.ireturn, 1) := by decide +kernel
theorem dX12_over_33 : decode cX12_over 33 = .ok (.iconst 0, 1) := by decide +kernel
theorem dX12_over_34 : decode cX12_over 34 = .ok (.istore 4, 2) := by decide +kernel
theorem dX12_over_36 : decode cX12_over 36 = .ok (.iconst 0, 1) := by decide +kernel
theorem dX12_over_37 : decode cX12_over 37 = .ok (.istore 5, 2) := by decide +kernel
theorem dX12_over_39 : decode cX12_over 39 = .ok (.iload 5, 2) := by decide +kernel
theorem dX12_over_41 : decode cX12_over 41 = .ok (.aload_n 0, 1) := by decide +kernel
theorem dX12_over_42 : decode cX12_over 42 = .ok (.getfield 9, 3) := by decide +kernel
theorem dX12_over_45 : decode cX12_over 45 = .ok (.iconst 1, 1) := by decide +kernel
theorem dX12_over_46 : decode cX12_over 46 = .ok (.iaload, 1) := by decide +kernel
theorem dX12_over_47 : decode cX12_over 47 = .ok (.if_icmp .ge 40, 3) := by decide +kernel
theorem dX12_over_50 : decode cX12_over 50 = .ok (.iload 4, 2) := by decide +kernel
theorem dX12_over_52 : decode cX12_over 52 = .ok (.aload_n 0, 1) := by decide +kernel
theorem dX12_over_53 : decode cX12_over 53 = .ok (.iload_n 1, 1) := by decide +kernel
theorem dX12_over_54 : decode cX12_over 54 = .ok (.iload 5, 2) := by decide +kernel
theorem dX12_over_56 : decode cX12_over 56 = .ok (.iload_n 3, 1) := by decide +kernel
theorem dX12_over_57 : decode cX12_over 57 = .ok (.iload_n 2, 1) := by decide +kernel
theorem dX12_over_58 : decode cX12_over 58 = .ok (.aload_n 0, 1) := by decide +kernel
theorem dX12_over_59 : decode cX12_over 59 = .ok (.getfield 9, 3) := by decide +kernel
theorem dX12_over_62 : decode cX12_over 62 = .ok (.iconst 0, 1) := by decide +kernel
theorem dX12_over_63 : decode cX12_over 63 = .ok (.iaload, 1) := by decide +kernel
theorem dX12_over_64 : decode cX12_over 64 = .ok (.invokevirtual 152, 3) := by decide +kernel
theorem dX12_over_67 : decode cX12_over 67 = .ok (.ifCond .eq 10, 3) := by decide +kernel
theorem dX12_over_70 : decode cX12_over 70 = .ok (.iconst 1, 1) := by decide +kernel
theorem dX12_over_71 : decode cX12_over 71 = .ok (.iload 5, 2) := by decide +kernel
theorem dX12_over_73 : decode cX12_over 73 = .ok (.ishl, 1) := by decide +kernel
theorem dX12_over_74 : decode cX12_over 74 = .ok (.goto 4, 3) := by decide +kernel
theorem dX12_over_77 : decode cX12_over 77 = .ok (.iconst 0, 1) := by decide +kernel
theorem dX12_over_78 : decode cX12_over 78 = .ok (.ior, 1) := by decide +kernel
theorem dX12_over_79 : decode cX12_over 79 = .ok (.istore 4, 2) := by decide +kernel
theorem dX12_over_81 : decode cX12_over 81 = .ok (.iinc 5 1, 3) := by decide +kernel
theorem dX12_over_84 : decode cX12_over 84 = .ok (.goto (-45), 3) := by decide +kernel
theorem dX12_over_87 : decode cX12_over 87 = .ok (.iload 4, 2) := by decide +kernel
theorem dX12_over_89 : decode cX12_over 89 = .ok (.ireturn, 1) := by decide +kernel
theorem dX12_feed_0 : decode cX12_feed 0 = .ok (.iload_n 3, 1) := by decide +kernel
theorem dX12_feed_1 : decode cX12_feed 1 = .ok (.iconst 1, 1) := by decide +kernel
theorem dX12_feed_2 : decode cX12_feed 2 = .ok (.bipush 8, 2) := by decide +kernel
theorem dX12_feed_4 : decode cX12_feed 4 = .ok (.invokestatic 75, 3) := by decide +kernel
theorem dX12_feed_7 : decode cX12_feed 7 = .ok (.ifCond .ne 10, 3) := by decide +kernel
theorem dX12_feed_10 : decode cX12_feed 10 = .ok (.aload_n 0, 1) := by decide +kernel
theorem dX12_feed_11 : decode cX12_feed 11 = .ok (.ldc 83, 2) := by decide +kernel
theorem dX12_feed_13 : decode cX12_feed 13 = .ok (.invokevirtual 84, 3) := by decide +kernel
theorem dX12_feed_16 : decode cX12_feed 16 = .ok (.ireturn, 1) := by decide +kernel
theorem dX12_feed_17 : decode cX12_feed 17 = .ok (.aload_n 0, 1) := by decide +kernel
theorem dX12_feed_18 : decode cX12_feed 18 = .ok (.getfield 9, 3) := by decide +kernel
theorem dX12_feed_21 : decode cX12_feed 21 = .ok (.bipush 6, 2) := by decide +kernel
theorem dX12_feed_23 : decode cX12_feed 23 = .ok (.iaload, 1) := by decide +kernel
theorem dX12_feed_24 : decode cX12_feed 24 = .ok (.iload_n 3, 1) := by decide +kernel
theorem dX12_feed_25 : decode cX12_feed 25 = .ok (.iadd, 1) := by decide +kernel
theorem dX12_feed_26 : decode cX12_feed 26 = .ok (.bipush 50, 2) := by decide +kernel
theorem dX12_feed_28 : decode cX12_feed 28 = .ok (.if_icmp .le 10, 3) := by decide +kernel
theorem dX12_feed_31 : decode cX12_feed 31 = .ok (.aload_n 0, 1) := by decide +kernel
theorem dX12_feed_32 : decode cX12_feed 32 = .ok (.ldc 93, 2) := by decide +kernel
theorem dX12_feed_34 : decode cX12_feed 34 = .ok (.invokevirtual 84, 3) := by decide +kernel
theorem dX12_feed_37 : decode cX12_feed 37 = .ok (.ireturn, 1) := by decide +kernel
theorem dX12_feed_38 : decode cX12_feed 38 = .ok (.iconst 0, 1) := by decide +kernel
theorem dX12_feed_39 : decode cX12_feed 39 = .ok (.istore 4, 2) := by decide +kernel
theorem dX12_feed_41 : decode cX12_feed 41 = .ok (.iload 4, 2) := by decide +kernel
theorem dX12_feed_43 : decode cX12_feed 43 = .ok (.iload_n 3, 1) := by decide +kernel
theorem dX12_feed_44 : decode cX12_feed 44 = .ok (.if_icmp .ge 48, 3) := by decide +kernel
theorem dX12_feed_47 : decode cX12_feed 47 = .ok (.aload_n 0, 1) := by decide +kernel
theorem dX12_feed_48 : decode cX12_feed 48 = .ok (.getfield 9, 3) := by decide +kernel
theorem dX12_feed_51 : decode cX12_feed 51 = .ok (.sipush 195, 3) := by decide +kernel
theorem dX12_feed_54 : decode cX12_feed 54 = .ok (.aload_n 0, 1) := by decide +kernel
theorem dX12_feed_55 : decode cX12_feed 55 = .ok (.getfield 9, 3) := by decide +kernel
theorem dX12_feed_58 : decode cX12_feed 58 = .ok (.bipush 6, 2) := by decide +kernel
theorem dX12_feed_60 : decode cX12_feed 60 = .ok (.iaload, 1) := by decide +kernel
theorem dX12_feed_61 : decode cX12_feed 61 = .ok (.iadd, 1) := by decide +kernel
theorem dX12_feed_62 : decode cX12_feed 62 = .ok (.lload_n 1, 1) := by decide +kernel
theorem dX12_feed_63 : decode cX12_feed 63 = .ok (.bipush 8, 2) := by decide +kernel
theorem dX12_feed_65 : decode cX12_feed 65 = .ok (.iload 4, 2) := by decide +kernel
theorem dX12_feed_67 : decode cX12_feed 67 = .ok (.imul, 1) := by decide +kernel
theorem dX12_feed_68 : decode cX12_feed 68 = .ok (.lshr, 1) := by decide +kernel
theorem dX12_feed_69 : decode cX12_feed 69 = .ok (.ldc2_w 162, 3) := by decide +kernel
theorem dX12_feed_72 : decode cX12_feed 72 = .ok (.land, 1) := by decide +kernel
theorem dX12_feed_73 : decode cX12_feed 73 = .ok (.l2i, 1) := by decide +kernel
theorem dX12_feed_74 : decode cX12_feed 74 = .ok (.iastore, 1) := by decide +kernel
theorem dX12_feed_75 : decode cX12_feed 75 = .ok (.aload_n 0, 1) := by decide +kernel
theorem dX12_feed_76 : decode cX12_feed 76 = .ok (.getfield 9, 3) := by decide +kernel
theorem dX12_feed_79 : decode cX12_feed 79 = .ok (.bipush 6, 2) := by decide +kernel
theorem dX12_feed_81 : decode cX12_feed 81 = .ok (.dup2, 1) := by decide +kernel
theorem dX12_feed_82 : decode cX12_feed 82 = .ok (.iaload, 1) := by decide +kernel
theorem dX12_feed_83 : decode cX12_feed 83 = .ok (.iconst 1, 1) := by decide +kernel
theorem dX12_feed_84 : decode cX12_feed 84 = .ok (.iadd, 1) := by decide +kernel
theorem dX12_feed_85 : decode cX12_feed 85 = .ok (.iastore, 1) := by decide +kernel
theorem dX12_feed_86 : decode cX12_feed 86 = .ok (.iinc 4 1, 3) := by decide +kernel
theorem dX12_feed_89 : decode cX12_feed 89 = .ok (.goto (-48), 3) := by decide +kernel
theorem dX12_feed_92 : decode cX12_feed 92 = .ok (.aload_n 0, 1) := by decide +kernel
theorem dX12_feed_93 : decode cX12_feed 93 = .ok (.getfield 9, 3) := by decide +kernel
theorem dX12_feed_96 : decode cX12_feed 96 = .ok (.bipush 6, 2) := by decide +kernel
theorem dX12_feed_98 : decode cX12_feed 98 = .ok (.iaload, 1) := by decide +kernel
theorem dX12_feed_99 : decode cX12_feed 99 = .ok (.ireturn, 1) := by decide +kernel
theorem dX12_here_0 : decode cX12_here 0 = .ok (.aload_n 0, 1) := by decide +kernel
theorem dX12_here_1 : decode cX12_here 1 = .ok (.getfield 164, 3) := by decide +kernel
theorem dX12_here_4 : decode cX12_here 4 = .ok (.ifCond .ne 33, 3) := by decide +kernel
theorem dX12_here_7 : decode cX12_here 7 = .ok (.aload_n 0, 1) := by decide +kernel
theorem dX12_here_8 : decode cX12_here 8 = .ok (.getfield 168, 3) := by decide +kernel
theorem dX12_here_11 : decode cX12_here 11 = .ok (.aload_n 0, 1) := by decide +kernel
theorem dX12_here_12 : decode cX12_here 12 = .ok (.getfield 9, 3) := by decide +kernel
theorem dX12_here_15 : decode cX12_here 15 = .ok (.bipush 6, 2) := by decide +kernel
theorem dX12_here_17 : decode cX12_here 17 = .ok (.iaload, 1) := by decide +kernel
theorem dX12_here_18 : decode cX12_here 18 = .ok (.if_icmp .ge 19, 3) := by decide +kernel
theorem dX12_here_21 : decode cX12_here 21 = .ok (.aload_n 0, 1) := by decide +kernel
theorem dX12_here_22 : decode cX12_here 22 = .ok (.getfield 9, 3) := by decide +kernel
theorem dX12_here_25 : decode cX12_here 25 = .ok (.sipush 195, 3) := by decide +kernel
theorem dX12_here_28 : decode cX12_here 28 = .ok (.aload_n 0, 1) := by decide +kernel
theorem dX12_here_29 : decode cX12_here 29 = .ok (.getfield 168, 3) := by decide +kernel
theorem dX12_here_32 : decode cX12_here 32 = .ok (.iadd, 1) := by decide +kernel
theorem dX12_here_33 : decode cX12_here 33 = .ok (.iaload, 1) := by decide +kernel
theorem dX12_here_34 : decode cX12_here 34 = .ok (.goto 4, 3) := by decide +kernel
theorem dX12_here_37 : decode cX12_here 37 = .ok (.iconst (-1), 1) := by decide +kernel
theorem dX12_here_38 : decode cX12_here 38 = .ok (.ireturn, 1) := by decide +kernel
theorem dX12_takes_0 : decode cX12_takes 0 = .ok (.aload_n 0, 1) := by decide +kernel
theorem dX12_takes_1 : decode cX12_takes 1 = .ok (.invokevirtual 172, 3) := by decide +kernel
theorem dX12_takes_4 : decode cX12_takes 4 = .ok (.iload_n 1, 1) := by decide +kernel
theorem dX12_takes_5 : decode cX12_takes 5 = .ok (.if_icmp .ne 7, 3) := by decide +kernel
theorem dX12_takes_8 : decode cX12_takes 8 = .ok (.iconst 1, 1) := by decide +kernel
theorem dX12_takes_9 : decode cX12_takes 9 = .ok (.goto 4, 3) := by decide +kernel
theorem dX12_takes_12 : decode cX12_takes 12 = .ok (.iconst 0, 1) := by decide +kernel
theorem dX12_takes_13 : decode cX12_takes 13 = .ok (.istore_n 2, 1) := by decide +kernel
theorem dX12_takes_14 : decode cX12_takes 14 = .ok (.aload_n 0, 1) := by decide +kernel
theorem dX12_takes_15 : decode cX12_takes 15 = .ok (.dup, 1) := by decide +kernel
theorem dX12_takes_16 : decode cX12_takes 16 = .ok (.getfield 168, 3) := by decide +kernel
theorem dX12_takes_19 : decode cX12_takes 19 = .ok (.iload_n 2, 1) := by decide +kernel
theorem dX12_takes_20 : decode cX12_takes 20 = .ok (.ifCond .eq 7, 3) := by decide +kernel
theorem dX12_takes_23 : decode cX12_takes 23 = .ok (.iconst 1, 1) := by decide +kernel
theorem dX12_takes_24 : decode cX12_takes 24 = .ok (.goto 4, 3) := by decide +kernel
theorem dX12_takes_27 : decode cX12_takes 27 = .ok (.iconst 0, 1) := by decide +kernel
theorem dX12_takes_28 : decode cX12_takes 28 = .ok (.iadd, 1) := by decide +kernel
theorem dX12_takes_29 : decode cX12_takes 29 = .ok (.putfield 168, 3) := by decide +kernel
theorem dX12_takes_32 : decode cX12_takes 32 = .ok (.iload_n 2, 1) := by decide +kernel
theorem dX12_takes_33 : decode cX12_takes 33 = .ok (.ireturn, 1) := by decide +kernel
theorem dX12_codes_0 : decode cX12_codes 0 = .ok (.aload_n 0, 1) := by decide +kernel
theorem dX12_codes_1 : decode cX12_codes 1 = .ok (.getfield 164, 3) := by decide +kernel
theorem dX12_codes_4 : decode cX12_codes 4 = .ok (.ifCond .ne 23, 3) := by decide +kernel
theorem dX12_codes_7 : decode cX12_codes 7 = .ok (.aload_n 0, 1) := by decide +kernel
theorem dX12_codes_8 : decode cX12_codes 8 = .ok (.getfield 38, 3) := by decide +kernel
theorem dX12_codes_11 : decode cX12_codes 11 = .ok (.aload_n 0, 1) := by decide +kernel
theorem dX12_codes_12 : decode cX12_codes 12 = .ok (.getfield 176, 3) := by decide +kernel
theorem dX12_codes_15 : decode cX12_codes 15 = .ok (.iload_n 1, 1) := by decide +kernel
theorem dX12_codes_16 : decode cX12_codes 16 = .ok (.iastore, 1) := by decide +kernel
theorem dX12_codes_17 : decode cX12_codes 17 = .ok (.aload_n 0, 1) := by decide +kernel
theorem dX12_codes_18 : decode cX12_codes 18 = .ok (.dup, 1) := by decide +kernel
theorem dX12_codes_19 : decode cX12_codes 19 = .ok (.getfield 176, 3) := by decide +kernel
theorem dX12_codes_22 : decode cX12_codes 22 = .ok (.iconst 1, 1) := by decide +kernel
theorem dX12_codes_23 : decode cX12_codes 23 = .ok (.iadd, 1) := by decide +kernel
theorem dX12_codes_24 : decode cX12_codes 24 = .ok (.putfield 176, 3) := by decide +kernel
theorem dX12_codes_27 : decode cX12_codes 27 = .ok (.return_, 1) := by decide +kernel
theorem dX12_either_0 : decode cX12_either 0 = .ok (.aload_n 0, 1) := by decide +kernel
theorem dX12_either_1 : decode cX12_either 1 = .ok (.invokevirtual 179, 3) := by decide +kernel
theorem dX12_either_4 : decode cX12_either 4 = .ok (.aload_n 0, 1) := by decide +kernel
theorem dX12_either_5 : decode cX12_either 5 = .ok (.bipush 124, 2) := by decide +kernel
theorem dX12_either_7 : decode cX12_either 7 = .ok (.invokevirtual 182, 3) := by decide +kernel
theorem dX12_either_10 : decode cX12_either 10 = .ok (.ifCond .eq 17, 3) := by decide +kernel
theorem dX12_either_13 : decode cX12_either 13 = .ok (.aload_n 0, 1) := by decide +kernel
theorem dX12_either_14 : decode cX12_either 14 = .ok (.invokevirtual 179, 3) := by decide +kernel
theorem dX12_either_17 : decode cX12_either 17 = .ok (.aload_n 0, 1) := by decide +kernel
theorem dX12_either_18 : decode cX12_either 18 = .ok (.sipush 20000, 3) := by decide +kernel
theorem dX12_either_21 : decode cX12_either 21 = .ok (.invokevirtual 185, 3) := by decide +kernel
theorem dX12_either_24 : decode cX12_either 24 = .ok (.goto (-20), 3) := by decide +kernel
theorem dX12_either_27 : decode cX12_either 27 = .ok (.return_, 1) := by decide +kernel
theorem dX12_both_0 : decode cX12_both 0 = .ok (.aload_n 0, 1) := by decide +kernel
theorem dX12_both_1 : decode cX12_both 1 = .ok (.invokevirtual 189, 3) := by decide +kernel
theorem dX12_both_4 : decode cX12_both 4 = .ok (.aload_n 0, 1) := by decide +kernel
theorem dX12_both_5 : decode cX12_both 5 = .ok (.bipush 38, 2) := by decide +kernel
theorem dX12_both_7 : decode cX12_both 7 = .ok (.invokevirtual 182, 3) := by decide +kernel
theorem dX12_both_10 : decode cX12_both 10 = .ok (.ifCond .eq 17, 3) := by decide +kernel
theorem dX12_both_13 : decode cX12_both 13 = .ok (.aload_n 0, 1) := by decide +kernel
theorem dX12_both_14 : decode cX12_both 14 = .ok (.invokevirtual 189, 3) := by decide +kernel
theorem dX12_both_17 : decode cX12_both 17 = .ok (.aload_n 0, 1) := by decide +kernel
theorem dX12_both_18 : decode cX12_both 18 = .ok (.sipush 20001, 3) := by decide +kernel
theorem dX12_both_21 : decode cX12_both 21 = .ok (.invokevirtual 185, 3) := by decide +kernel
theorem dX12_both_24 : decode cX12_both 24 = .ok (.goto (-20), 3) := by decide +kernel
theorem dX12_both_27 : decode cX12_both 27 = .ok (.return_, 1) := by decide +kernel
theorem dX12_compared_0 : decode cX12_compared 0 = .ok (.aload_n 0, 1) := by decide +kernel
theorem dX12_compared_1 : decode cX12_compared 1 = .ok (.invokevirtual 192, 3) := by decide +kernel
theorem dX12_compared_4 : decode cX12_compared 4 = .ok (.aload_n 0, 1) := by decide +kernel
theorem dX12_compared_5 : decode cX12_compared 5 = .ok (.bipush 60, 2) := by decide +kernel
theorem dX12_compared_7 : decode cX12_compared 7 = .ok (.invokevirtual 182, 3) := by decide +kernel
theorem dX12_compared_10 : decode cX12_compared 10 = .ok (.ifCond .eq 9, 3) := by decide +kernel
theorem dX12_compared_13 : decode cX12_compared 13 = .ok (.sipush 20002, 3) := by decide +kernel
theorem dX12_compared_16 : decode cX12_compared 16 = .ok (.goto 34, 3) := by decide +kernel
theorem dX12_compared_19 : decode cX12_compared 19 = .ok (.aload_n 0, 1) := by decide +kernel
theorem dX12_compared_20 : decode cX12_compared 20 = .ok (.bipush 61, 2) := by decide +kernel
theorem dX12_compared_22 : decode cX12_compared 22 = .ok (.invokevirtual 182, 3) := by decide +kernel
theorem dX12_compared_25 : decode cX12_compared 25 = .ok (.ifCond .eq 9, 3) := by decide +kernel
theorem dX12_compared_28 : decode cX12_compared 28 = .ok (.sipush 20003, 3) := by decide +kernel
theorem dX12_compared_31 : decode cX12_compared 31 = .ok (.goto 19, 3) := by decide +kernel
theorem dX12_compared_34 : decode cX12_compared 34 = .ok (.aload_n 0, 1) := by decide +kernel
theorem dX12_compared_35 : decode cX12_compared 35 = .ok (.bipush 62, 2) := by decide +kernel
theorem dX12_compared_37 : decode cX12_compared 37 = .ok (.invokevirtual 182, 3) := by decide +kernel
theorem dX12_compared_40 : decode cX12_compared 40 = .ok (.ifCond .eq 9, 3) := by decide +kernel
theorem dX12_compared_43 : decode cX12_compared 43 = .ok (.sipush 20004, 3) := by decide +kernel
theorem dX12_compared_46 : decode cX12_compared 46 = .ok (.goto 4, 3) := by decide +kernel
theorem dX12_compared_49 : decode cX12_compared 49 = .ok (.iconst 0, 1) := by decide +kernel
theorem dX12_compared_50 : decode cX12_compared 50 = .ok (.istore_n 1, 1) := by decide +kernel
theorem dX12_compared_51 : decode cX12_compared 51 = .ok (.iload_n 1, 1) := by decide +kernel
theorem dX12_compared_52 : decode cX12_compared 52 = .ok (.ifCond .le 12, 3) := by decide +kernel
theorem dX12_compared_55 : decode cX12_compared 55 = .ok (.aload_n 0, 1) := by decide +kernel
theorem dX12_compared_56 : decode cX12_compared 56 = .ok (.invokevirtual 192, 3) := by decide +kernel
theorem dX12_compared_59 : decode cX12_compared 59 = .ok (.aload_n 0, 1) := by decide +kernel
theorem dX12_compared_60 : decode cX12_compared 60 = .ok (.iload_n 1, 1) := by decide +kernel
theorem dX12_compared_61 : decode cX12_compared 61 = .ok (.invokevirtual 185, 3) := by decide +kernel
theorem dX12_compared_64 : decode cX12_compared 64 = .ok (.return_, 1) := by decide +kernel
theorem dX12_sum_0 : decode cX12_sum 0 = .ok (.aload_n 0, 1) := by decide +kernel
theorem dX12_sum_1 : decode cX12_sum 1 = .ok (.invokevirtual 195, 3) := by decide +kernel
theorem dX12_sum_4 : decode cX12_sum 4 = .ok (.aload_n 0, 1) := by decide +kernel
theorem dX12_sum_5 : decode cX12_sum 5 = .ok (.bipush 43, 2) := by decide +kernel
theorem dX12_sum_7 : decode cX12_sum 7 = .ok (.invokevirtual 182, 3) := by decide +kernel
theorem dX12_sum_10 : decode cX12_sum 10 = .ok (.ifCond .eq 9, 3) := by decide +kernel
theorem dX12_sum_13 : decode cX12_sum 13 = .ok (.sipush 20005, 3) := by decide +kernel
theorem dX12_sum_16 : decode cX12_sum 16 = .ok (.goto 19, 3) := by decide +kernel
theorem dX12_sum_19 : decode cX12_sum 19 = .ok (.aload_n 0, 1) := by decide +kernel
theorem dX12_sum_20 : decode cX12_sum 20 = .ok (.bipush 45, 2) := by decide +kernel
theorem dX12_sum_22 : decode cX12_sum 22 = .ok (.invokevirtual 182, 3) := by decide +kernel
theorem dX12_sum_25 : decode cX12_sum 25 = .ok (.ifCond .eq 9, 3) := by decide +kernel
theorem dX12_sum_28 : decode cX12_sum 28 = .ok (.sipush 20006, 3) := by decide +kernel
theorem dX12_sum_31 : decode cX12_sum 31 = .ok (.goto 4, 3) := by decide +kernel
theorem dX12_sum_34 : decode cX12_sum 34 = .ok (.iconst 0, 1) := by decide +kernel
theorem dX12_sum_35 : decode cX12_sum 35 = .ok (.istore_n 1, 1) := by decide +kernel
theorem dX12_sum_36 : decode cX12_sum 36 = .ok (.iload_n 1, 1) := by decide +kernel
theorem dX12_sum_37 : decode cX12_sum 37 = .ok (.ifCond .le 47, 3) := by decide +kernel
theorem dX12_sum_40 : decode cX12_sum 40 = .ok (.aload_n 0, 1) := by decide +kernel
theorem dX12_sum_41 : decode cX12_sum 41 = .ok (.invokevirtual 195, 3) := by decide +kernel
theorem dX12_sum_44 : decode cX12_sum 44 = .ok (.aload_n 0, 1) := by decide +kernel
theorem dX12_sum_45 : decode cX12_sum 45 = .ok (.iload_n 1, 1) := by decide +kernel
theorem dX12_sum_46 : decode cX12_sum 46 = .ok (.invokevirtual 185, 3) := by decide +kernel
theorem dX12_sum_49 : decode cX12_sum 49 = .ok (.aload_n 0, 1) := by decide +kernel
theorem dX12_sum_50 : decode cX12_sum 50 = .ok (.bipush 43, 2) := by decide +kernel
theorem dX12_sum_52 : decode cX12_sum 52 = .ok (.invokevirtual 182, 3) := by decide +kernel
theorem dX12_sum_55 : decode cX12_sum 55 = .ok (.ifCond .eq 9, 3) := by decide +kernel
theorem dX12_sum_58 : decode cX12_sum 58 = .ok (.sipush 20005, 3) := by decide +kernel
theorem dX12_sum_61 : decode cX12_sum 61 = .ok (.goto 19, 3) := by decide +kernel
theorem dX12_sum_64 : decode cX12_sum 64 = .ok (.aload_n 0, 1) := by decide +kernel
theorem dX12_sum_65 : decode cX12_sum 65 = .ok (.bipush 45, 2) := by decide +kernel
theorem dX12_sum_67 : decode cX12_sum 67 = .ok (.invokevirtual 182, 3) := by decide +kernel
theorem dX12_sum_70 : decode cX12_sum 70 = .ok (.ifCond .eq 9, 3) := by decide +kernel
theorem dX12_sum_73 : decode cX12_sum 73 = .ok (.sipush 20006, 3) := by decide +kernel
theorem dX12_sum_76 : decode cX12_sum 76 = .ok (.goto 4, 3) := by decide +kernel
theorem dX12_sum_79 : decode cX12_sum 79 = .ok (.iconst 0, 1) := by decide +kernel
theorem dX12_sum_80 : decode cX12_sum 80 = .ok (.istore_n 1, 1) := by decide +kernel
theorem dX12_sum_81 : decode cX12_sum 81 = .ok (.goto (-45), 3) := by decide +kernel
theorem dX12_sum_84 : decode cX12_sum 84 = .ok (.return_, 1) := by decide +kernel
theorem dX12_product_0 : decode cX12_product 0 = .ok (.aload_n 0, 1) := by decide +kernel
theorem dX12_product_1 : decode cX12_product 1 = .ok (.invokevirtual 198, 3) := by decide +kernel
theorem dX12_product_4 : decode cX12_product 4 = .ok (.aload_n 0, 1) := by decide +kernel
theorem dX12_product_5 : decode cX12_product 5 = .ok (.bipush 42, 2) := by decide +kernel
theorem dX12_product_7 : decode cX12_product 7 = .ok (.invokevirtual 182, 3) := by decide +kernel
theorem dX12_product_10 : decode cX12_product 10 = .ok (.ifCond .eq 9, 3) := by decide +kernel
theorem dX12_product_13 : decode cX12_product 13 = .ok (.sipush 20007, 3) := by decide +kernel
theorem dX12_product_16 : decode cX12_product 16 = .ok (.goto 34, 3) := by decide +kernel
theorem dX12_product_19 : decode cX12_product 19 = .ok (.aload_n 0, 1) := by decide +kernel
theorem dX12_product_20 : decode cX12_product 20 = .ok (.bipush 47, 2) := by decide +kernel
theorem dX12_product_22 : decode cX12_product 22 = .ok (.invokevirtual 182, 3) := by decide +kernel
theorem dX12_product_25 : decode cX12_product 25 = .ok (.ifCond .eq 9, 3) := by decide +kernel
theorem dX12_product_28 : decode cX12_product 28 = .ok (.sipush 20008, 3) := by decide +kernel
theorem dX12_product_31 : decode cX12_product 31 = .ok (.goto 19, 3) := by decide +kernel
theorem dX12_product_34 : decode cX12_product 34 = .ok (.aload_n 0, 1) := by decide +kernel
theorem dX12_product_35 : decode cX12_product 35 = .ok (.bipush 37, 2) := by decide +kernel
theorem dX12_product_37 : decode cX12_product 37 = .ok (.invokevirtual 182, 3) := by decide +kernel
theorem dX12_product_40 : decode cX12_product 40 = .ok (.ifCond .eq 9, 3) := by decide +kernel
theorem dX12_product_43 : decode cX12_product 43 = .ok (.sipush 20009, 3) := by decide +kernel
theorem dX12_product_46 : decode cX12_product 46 = .ok (.goto 4, 3) := by decide +kernel
theorem dX12_product_49 : decode cX12_product 49 = .ok (.iconst 0, 1) := by decide +kernel
theorem dX12_product_50 : decode cX12_product 50 = .ok (.istore_n 1, 1) := by decide +kernel
theorem dX12_product_51 : decode cX12_product 51 = .ok (.iload_n 1, 1) := by decide +kernel
theorem dX12_product_52 : decode cX12_product 52 = .ok (.ifCond .le 62, 3) := by decide +kernel
theorem dX12_product_55 : decode cX12_product 55 = .ok (.aload_n 0, 1) := by decide +kernel
theorem dX12_product_56 : decode cX12_product 56 = .ok (.invokevirtual 198, 3) := by decide +kernel
theorem dX12_product_59 : decode cX12_product 59 = .ok (.aload_n 0, 1) := by decide +kernel
theorem dX12_product_60 : decode cX12_product 60 = .ok (.iload_n 1, 1) := by decide +kernel
theorem dX12_product_61 : decode cX12_product 61 = .ok (.invokevirtual 185, 3) := by decide +kernel
theorem dX12_product_64 : decode cX12_product 64 = .ok (.aload_n 0, 1) := by decide +kernel
theorem dX12_product_65 : decode cX12_product 65 = .ok (.bipush 42, 2) := by decide +kernel
theorem dX12_product_67 : decode cX12_product 67 = .ok (.invokevirtual 182, 3) := by decide +kernel
theorem dX12_product_70 : decode cX12_product 70 = .ok (.ifCond .eq 9, 3) := by decide +kernel
theorem dX12_product_73 : decode cX12_product 73 = .ok (.sipush 20007, 3) := by decide +kernel
theorem dX12_product_76 : decode cX12_product 76 = .ok (.goto 34, 3) := by decide +kernel
theorem dX12_product_79 : decode cX12_product 79 = .ok (.aload_n 0, 1) := by decide +kernel
theorem dX12_product_80 : decode cX12_product 80 = .ok (.bipush 47, 2) := by decide +kernel
theorem dX12_product_82 : decode cX12_product 82 = .ok (.invokevirtual 182, 3) := by decide +kernel
theorem dX12_product_85 : decode cX12_product 85 = .ok (.ifCond .eq 9, 3) := by decide +kernel
theorem dX12_product_88 : decode cX12_product 88 = .ok (.sipush 20008, 3) := by decide +kernel
theorem dX12_product_91 : decode cX12_product 91 = .ok (.goto 19, 3) := by decide +kernel
theorem dX12_product_94 : decode cX12_product 94 = .ok (.aload_n 0, 1) := by decide +kernel
theorem dX12_product_95 : decode cX12_product 95 = .ok (.bipush 37, 2) := by decide +kernel
theorem dX12_product_97 : decode cX12_product 97 = .ok (.invokevirtual 182, 3) := by decide +kernel
theorem dX12_product_100 : decode cX12_product 100 = .ok (.ifCond .eq 9, 3) := by decide +kernel
theorem dX12_product_103 : decode cX12_product 103 = .ok (.sipush 20009, 3) := by decide +kernel
theorem dX12_product_106 : decode cX12_product 106 = .ok (.goto 4, 3) := by decide +kernel
theorem dX12_product_109 : decode cX12_product 109 = .ok (.iconst 0, 1) := by decide +kernel
theorem dX12_product_110 : decode cX12_product 110 = .ok (.istore_n 1, 1) := by decide +kernel
theorem dX12_product_111 : decode cX12_product 111 = .ok (.goto (-60), 3) := by decide +kernel
theorem dX12_product_114 : decode cX12_product 114 = .ok (.return_, 1) := by decide +kernel
theorem dX12_nameOf_0 : decode cX12_nameOf 0 = .ok (.iconst (-1), 1) := by decide +kernel
theorem dX12_nameOf_1 : decode cX12_nameOf 1 = .ok (.istore_n 2, 1) := by decide +kernel
theorem dX12_nameOf_2 : decode cX12_nameOf 2 = .ok (.iconst 0, 1) := by decide +kernel
theorem dX12_nameOf_3 : decode cX12_nameOf 3 = .ok (.istore_n 3, 1) := by decide +kernel
theorem dX12_nameOf_4 : decode cX12_nameOf 4 = .ok (.iload_n 3, 1) := by decide +kernel
theorem dX12_nameOf_5 : decode cX12_nameOf 5 = .ok (.aload_n 0, 1) := by decide +kernel
theorem dX12_nameOf_6 : decode cX12_nameOf 6 = .ok (.getfield 34, 3) := by decide +kernel
theorem dX12_nameOf_9 : decode cX12_nameOf 9 = .ok (.aload_n 0, 1) := by decide +kernel
theorem dX12_nameOf_10 : decode cX12_nameOf 10 = .ok (.getfield 201, 3) := by decide +kernel
theorem dX12_nameOf_13 : decode cX12_nameOf 13 = .ok (.aaload, 1) := by decide +kernel
theorem dX12_nameOf_14 : decode cX12_nameOf 14 = .ok (.invokevirtual 204, 3) := by decide +kernel
theorem dX12_nameOf_17 : decode cX12_nameOf 17 = .ok (.if_icmp .ge 32, 3) := by decide +kernel
theorem dX12_nameOf_20 : decode cX12_nameOf 20 = .ok (.aload_n 0, 1) := by decide +kernel
theorem dX12_nameOf_21 : decode cX12_nameOf 21 = .ok (.getfield 34, 3) := by decide +kernel
theorem dX12_nameOf_24 : decode cX12_nameOf 24 = .ok (.aload_n 0, 1) := by decide +kernel
theorem dX12_nameOf_25 : decode cX12_nameOf 25 = .ok (.getfield 201, 3) := by decide +kernel
theorem dX12_nameOf_28 : decode cX12_nameOf 28 = .ok (.aaload, 1) := by decide +kernel
theorem dX12_nameOf_29 : decode cX12_nameOf 29 = .ok (.iload_n 3, 1) := by decide +kernel
theorem dX12_nameOf_30 : decode cX12_nameOf 30 = .ok (.invokevirtual 207, 3) := by decide +kernel
theorem dX12_nameOf_33 : decode cX12_nameOf 33 = .ok (.iload_n 1, 1) := by decide +kernel
theorem dX12_nameOf_34 : decode cX12_nameOf 34 = .ok (.if_icmp .ne 7, 3) := by decide +kernel
theorem dX12_nameOf_37 : decode cX12_nameOf 37 = .ok (.iload_n 3, 1) := by decide +kernel
theorem dX12_nameOf_38 : decode cX12_nameOf 38 = .ok (.goto 4, 3) := by decide +kernel
theorem dX12_nameOf_41 : decode cX12_nameOf 41 = .ok (.iload_n 2, 1) := by decide +kernel
theorem dX12_nameOf_42 : decode cX12_nameOf 42 = .ok (.istore_n 2, 1) := by decide +kernel
theorem dX12_nameOf_43 : decode cX12_nameOf 43 = .ok (.iinc 3 1, 3) := by decide +kernel
theorem dX12_nameOf_46 : decode cX12_nameOf 46 = .ok (.goto (-42), 3) := by decide +kernel
theorem dX12_nameOf_49 : decode cX12_nameOf 49 = .ok (.iload_n 2, 1) := by decide +kernel
theorem dX12_nameOf_50 : decode cX12_nameOf 50 = .ok (.ireturn, 1) := by decide +kernel
theorem dX12_one_0 : decode cX12_one 0 = .ok (.aload_n 0, 1) := by decide +kernel
theorem dX12_one_1 : decode cX12_one 1 = .ok (.invokevirtual 172, 3) := by decide +kernel
theorem dX12_one_4 : decode cX12_one 4 = .ok (.istore_n 1, 1) := by decide +kernel
theorem dX12_one_5 : decode cX12_one 5 = .ok (.iload_n 1, 1) := by decide +kernel
theorem dX12_one_6 : decode cX12_one 6 = .ok (.bipush 33, 2) := by decide +kernel
theorem dX12_one_8 : decode cX12_one 8 = .ok (.if_icmp .eq 9, 3) := by decide +kernel
theorem dX12_one_11 : decode cX12_one 11 = .ok (.iload_n 1, 1) := by decide +kernel
theorem dX12_one_12 : decode cX12_one 12 = .ok (.bipush 40, 2) := by decide +kernel
theorem dX12_one_14 : decode cX12_one 14 = .ok (.if_icmp .ne 102, 3) := by decide +kernel
theorem dX12_one_17 : decode cX12_one 17 = .ok (.aload_n 0, 1) := by decide +kernel
theorem dX12_one_18 : decode cX12_one 18 = .ok (.aload_n 0, 1) := by decide +kernel
theorem dX12_one_19 : decode cX12_one 19 = .ok (.getfield 211, 3) := by decide +kernel
theorem dX12_one_22 : decode cX12_one 22 = .ok (.iconst 5, 1) := by decide +kernel
theorem dX12_one_23 : decode cX12_one 23 = .ok (.if_icmp .ne 7, 3) := by decide +kernel
theorem dX12_one_26 : decode cX12_one 26 = .ok (.iconst 1, 1) := by decide +kernel
theorem dX12_one_27 : decode cX12_one 27 = .ok (.goto 4, 3) := by decide +kernel
theorem dX12_one_30 : decode cX12_one 30 = .ok (.iconst 0, 1) := by decide +kernel
theorem dX12_one_31 : decode cX12_one 31 = .ok (.putfield 164, 3) := by decide +kernel
theorem dX12_one_34 : decode cX12_one 34 = .ok (.aload_n 0, 1) := by decide +kernel
theorem dX12_one_35 : decode cX12_one 35 = .ok (.getfield 164, 3) := by decide +kernel
theorem dX12_one_38 : decode cX12_one 38 = .ok (.ifCond .ne 209, 3) := by decide +kernel
theorem dX12_one_41 : decode cX12_one 41 = .ok (.aload_n 0, 1) := by decide +kernel
theorem dX12_one_42 : decode cX12_one 42 = .ok (.dup, 1) := by decide +kernel
theorem dX12_one_43 : decode cX12_one 43 = .ok (.getfield 211, 3) := by decide +kernel
theorem dX12_one_46 : decode cX12_one 46 = .ok (.iconst 1, 1) := by decide +kernel
theorem dX12_one_47 : decode cX12_one 47 = .ok (.iadd, 1) := by decide +kernel
theorem dX12_one_48 : decode cX12_one 48 = .ok (.putfield 211, 3) := by decide +kernel
theorem dX12_one_51 : decode cX12_one 51 = .ok (.aload_n 0, 1) := by decide +kernel
theorem dX12_one_52 : decode cX12_one 52 = .ok (.dup, 1) := by decide +kernel
theorem dX12_one_53 : decode cX12_one 53 = .ok (.getfield 168, 3) := by decide +kernel
theorem dX12_one_56 : decode cX12_one 56 = .ok (.iconst 1, 1) := by decide +kernel
theorem dX12_one_57 : decode cX12_one 57 = .ok (.iadd, 1) := by decide +kernel
theorem dX12_one_58 : decode cX12_one 58 = .ok (.putfield 168, 3) := by decide +kernel
theorem dX12_one_61 : decode cX12_one 61 = .ok (.iload_n 1, 1) := by decide +kernel
theorem dX12_one_62 : decode cX12_one 62 = .ok (.bipush 33, 2) := by decide +kernel
theorem dX12_one_64 : decode cX12_one 64 = .ok (.if_icmp .ne 17, 3) := by decide +kernel
theorem dX12_one_67 : decode cX12_one 67 = .ok (.aload_n 0, 1) := by decide +kernel
theorem dX12_one_68 : decode cX12_one 68 = .ok (.invokevirtual 198, 3) := by decide +kernel
theorem dX12_one_71 : decode cX12_one 71 = .ok (.aload_n 0, 1) := by decide +kernel
theorem dX12_one_72 : decode cX12_one 72 = .ok (.sipush 20010, 3) := by decide +kernel
theorem dX12_one_75 : decode cX12_one 75 = .ok (.invokevirtual 185, 3) := by decide +kernel
theorem dX12_one_78 : decode cX12_one 78 = .ok (.goto 25, 3) := by decide +kernel
theorem dX12_one_81 : decode cX12_one 81 = .ok (.aload_n 0, 1) := by decide +kernel
theorem dX12_one_82 : decode cX12_one 82 = .ok (.invokevirtual 214, 3) := by decide +kernel
theorem dX12_one_85 : decode cX12_one 85 = .ok (.aload_n 0, 1) := by decide +kernel
theorem dX12_one_86 : decode cX12_one 86 = .ok (.aload_n 0, 1) := by decide +kernel
theorem dX12_one_87 : decode cX12_one 87 = .ok (.bipush 41, 2) := by decide +kernel
theorem dX12_one_89 : decode cX12_one 89 = .ok (.invokevirtual 182, 3) := by decide +kernel
theorem dX12_one_92 : decode cX12_one 92 = .ok (.ifCond .ne 7, 3) := by decide +kernel
theorem dX12_one_95 : decode cX12_one 95 = .ok (.iconst 1, 1) := by decide +kernel
theorem dX12_one_96 : decode cX12_one 96 = .ok (.goto 4, 3) := by decide +kernel
theorem dX12_one_99 : decode cX12_one 99 = .ok (.iconst 0, 1) := by decide +kernel
theorem dX12_one_100 : decode cX12_one 100 = .ok (.putfield 164, 3) := by decide +kernel
theorem dX12_one_103 : decode cX12_one 103 = .ok (.aload_n 0, 1) := by decide +kernel
theorem dX12_one_104 : decode cX12_one 104 = .ok (.dup, 1) := by decide +kernel
theorem dX12_one_105 : decode cX12_one 105 = .ok (.getfield 211, 3) := by decide +kernel
theorem dX12_one_108 : decode cX12_one 108 = .ok (.iconst 1, 1) := by decide +kernel
theorem dX12_one_109 : decode cX12_one 109 = .ok (.isub, 1) := by decide +kernel
theorem dX12_one_110 : decode cX12_one 110 = .ok (.putfield 211, 3) := by decide +kernel
theorem dX12_one_113 : decode cX12_one 113 = .ok (.goto 134, 3) := by decide +kernel
theorem dX12_one_116 : decode cX12_one 116 = .ok (.iload_n 1, 1) := by decide +kernel
theorem dX12_one_117 : decode cX12_one 117 = .ok (.bipush 48, 2) := by decide +kernel
theorem dX12_one_119 : decode cX12_one 119 = .ok (.bipush 57, 2) := by decide +kernel
theorem dX12_one_121 : decode cX12_one 121 = .ok (.invokestatic 75, 3) := by decide +kernel
theorem dX12_one_124 : decode cX12_one 124 = .ok (.ifCond .eq 63, 3) := by decide +kernel
theorem dX12_one_127 : decode cX12_one 127 = .ok (.iconst 0, 1) := by decide +kernel
theorem dX12_one_128 : decode cX12_one 128 = .ok (.istore_n 2, 1) := by decide +kernel
theorem dX12_one_129 : decode cX12_one 129 = .ok (.iconst 0, 1) := by decide +kernel
theorem dX12_one_130 : decode cX12_one 130 = .ok (.istore_n 3, 1) := by decide +kernel
theorem dX12_one_131 : decode cX12_one 131 = .ok (.iload_n 3, 1) := by decide +kernel
theorem dX12_one_132 : decode cX12_one 132 = .ok (.iconst 4, 1) := by decide +kernel
theorem dX12_one_133 : decode cX12_one 133 = .ok (.if_icmp .ge 46, 3) := by decide +kernel
theorem dX12_one_136 : decode cX12_one 136 = .ok (.aload_n 0, 1) := by decide +kernel
theorem dX12_one_137 : decode cX12_one 137 = .ok (.invokevirtual 172, 3) := by decide +kernel
theorem dX12_one_140 : decode cX12_one 140 = .ok (.bipush 48, 2) := by decide +kernel
theorem dX12_one_142 : decode cX12_one 142 = .ok (.bipush 57, 2) := by decide +kernel
theorem dX12_one_144 : decode cX12_one 144 = .ok (.invokestatic 75, 3) := by decide +kernel
theorem dX12_one_147 : decode cX12_one 147 = .ok (.ifCond .eq 32, 3) := by decide +kernel
theorem dX12_one_150 : decode cX12_one 150 = .ok (.bipush 10, 2) := by decide +kernel
theorem dX12_one_152 : decode cX12_one 152 = .ok (.iload_n 2, 1) := by decide +kernel
theorem dX12_one_153 : decode cX12_one 153 = .ok (.imul, 1) := by decide +kernel
theorem dX12_one_154 : decode cX12_one 154 = .ok (.aload_n 0, 1) := by decide +kernel
theorem dX12_one_155 : decode cX12_one 155 = .ok (.invokevirtual 172, 3) := by decide +kernel
theorem dX12_one_158 : decode cX12_one 158 = .ok (.iadd, 1) := by decide +kernel
theorem dX12_one_159 : decode cX12_one 159 = .ok (.bipush 48, 2) := by decide +kernel
theorem dX12_one_161 : decode cX12_one 161 = .ok (.isub, 1) := by decide +kernel
theorem dX12_one_162 : decode cX12_one 162 = .ok (.istore_n 2, 1) := by decide +kernel
theorem dX12_one_163 : decode cX12_one 163 = .ok (.aload_n 0, 1) := by decide +kernel
theorem dX12_one_164 : decode cX12_one 164 = .ok (.dup, 1) := by decide +kernel
theorem dX12_one_165 : decode cX12_one 165 = .ok (.getfield 168, 3) := by decide +kernel
theorem dX12_one_168 : decode cX12_one 168 = .ok (.iconst 1, 1) := by decide +kernel
theorem dX12_one_169 : decode cX12_one 169 = .ok (.iadd, 1) := by decide +kernel
theorem dX12_one_170 : decode cX12_one 170 = .ok (.putfield 168, 3) := by decide +kernel
theorem dX12_one_173 : decode cX12_one 173 = .ok (.iinc 3 1, 3) := by decide +kernel
theorem dX12_one_176 : decode cX12_one 176 = .ok (.goto (-45), 3) := by decide +kernel
theorem dX12_one_179 : decode cX12_one 179 = .ok (.aload_n 0, 1) := by decide +kernel
theorem dX12_one_180 : decode cX12_one 180 = .ok (.iload_n 2, 1) := by decide +kernel
theorem dX12_one_181 : decode cX12_one 181 = .ok (.invokevirtual 185, 3) := by decide +kernel
theorem dX12_one_184 : decode cX12_one 184 = .ok (.goto 63, 3) := by decide +kernel
theorem dX12_one_187 : decode cX12_one 187 = .ok (.iload_n 1, 1) := by decide +kernel
theorem dX12_one_188 : decode cX12_one 188 = .ok (.ifCond .ge 7, 3) := by decide +kernel
theorem dX12_one_191 : decode cX12_one 191 = .ok (.iconst (-1), 1) := by decide +kernel
theorem dX12_one_192 : decode cX12_one 192 = .ok (.goto 8, 3) := by decide +kernel
theorem dX12_one_195 : decode cX12_one 195 = .ok (.aload_n 0, 1) := by decide +kernel
theorem dX12_one_196 : decode cX12_one 196 = .ok (.iload_n 1, 1) := by decide +kernel
theorem dX12_one_197 : decode cX12_one 197 = .ok (.invokevirtual 217, 3) := by decide +kernel
theorem dX12_one_200 : decode cX12_one 200 = .ok (.istore_n 2, 1) := by decide +kernel
theorem dX12_one_201 : decode cX12_one 201 = .ok (.aload_n 0, 1) := by decide +kernel
theorem dX12_one_202 : decode cX12_one 202 = .ok (.aload_n 0, 1) := by decide +kernel
theorem dX12_one_203 : decode cX12_one 203 = .ok (.getfield 164, 3) := by decide +kernel
theorem dX12_one_206 : decode cX12_one 206 = .ok (.ifCond .ne 7, 3) := by decide +kernel
theorem dX12_one_209 : decode cX12_one 209 = .ok (.iload_n 2, 1) := by decide +kernel
theorem dX12_one_210 : decode cX12_one 210 = .ok (.ifCond .ge 7, 3) := by decide +kernel
theorem dX12_one_213 : decode cX12_one 213 = .ok (.iconst 1, 1) := by decide +kernel
theorem dX12_one_214 : decode cX12_one 214 = .ok (.goto 4, 3) := by decide +kernel
theorem dX12_one_217 : decode cX12_one 217 = .ok (.iconst 0, 1) := by decide +kernel
theorem dX12_one_218 : decode cX12_one 218 = .ok (.putfield 164, 3) := by decide +kernel
theorem dX12_one_221 : decode cX12_one 221 = .ok (.aload_n 0, 1) := by decide +kernel
theorem dX12_one_222 : decode cX12_one 222 = .ok (.getfield 164, 3) := by decide +kernel
theorem dX12_one_225 : decode cX12_one 225 = .ok (.ifCond .ne 22, 3) := by decide +kernel
theorem dX12_one_228 : decode cX12_one 228 = .ok (.aload_n 0, 1) := by decide +kernel
theorem dX12_one_229 : decode cX12_one 229 = .ok (.sipush 10000, 3) := by decide +kernel
theorem dX12_one_232 : decode cX12_one 232 = .ok (.iload_n 2, 1) := by decide +kernel
theorem dX12_one_233 : decode cX12_one 233 = .ok (.iadd, 1) := by decide +kernel
theorem dX12_one_234 : decode cX12_one 234 = .ok (.invokevirtual 185, 3) := by decide +kernel
theorem dX12_one_237 : decode cX12_one 237 = .ok (.aload_n 0, 1) := by decide +kernel
theorem dX12_one_238 : decode cX12_one 238 = .ok (.dup, 1) := by decide +kernel
theorem dX12_one_239 : decode cX12_one 239 = .ok (.getfield 168, 3) := by decide +kernel
theorem dX12_one_242 : decode cX12_one 242 = .ok (.iconst 1, 1) := by decide +kernel
theorem dX12_one_243 : decode cX12_one 243 = .ok (.iadd, 1) := by decide +kernel
theorem dX12_one_244 : decode cX12_one 244 = .ok (.putfield 168, 3) := by decide +kernel
theorem dX12_one_247 : decode cX12_one 247 = .ok (.return_, 1) := by decide +kernel
theorem dX12_text_0 : decode cX12_text 0 = .ok (.iload_n 1, 1) := by decide +kernel
theorem dX12_text_1 : decode cX12_text 1 = .ok (.iconst 0, 1) := by decide +kernel
theorem dX12_text_2 : decode cX12_text 2 = .ok (.iconst 1, 1) := by decide +kernel
theorem dX12_text_3 : decode cX12_text 3 = .ok (.invokestatic 75, 3) := by decide +kernel
theorem dX12_text_6 : decode cX12_text 6 = .ok (.ifCond .ne 10, 3) := by decide +kernel
theorem dX12_text_9 : decode cX12_text 9 = .ok (.aload_n 0, 1) := by decide +kernel
theorem dX12_text_10 : decode cX12_text 10 = .ok (.ldc 83, 2) := by decide +kernel
theorem dX12_text_12 : decode cX12_text 12 = .ok (.invokevirtual 84, 3) := by decide +kernel
theorem dX12_text_15 : decode cX12_text 15 = .ok (.ireturn, 1) := by decide +kernel
theorem dX12_text_16 : decode cX12_text 16 = .ok (.aload_n 0, 1) := by decide +kernel
theorem dX12_text_17 : decode cX12_text 17 = .ok (.iload_n 1, 1) := by decide +kernel
theorem dX12_text_18 : decode cX12_text 18 = .ok (.putfield 201, 3) := by decide +kernel
theorem dX12_text_21 : decode cX12_text 21 = .ok (.aload_n 0, 1) := by decide +kernel
theorem dX12_text_22 : decode cX12_text 22 = .ok (.iconst 0, 1) := by decide +kernel
theorem dX12_text_23 : decode cX12_text 23 = .ok (.putfield 168, 3) := by decide +kernel
theorem dX12_text_26 : decode cX12_text 26 = .ok (.aload_n 0, 1) := by decide +kernel
theorem dX12_text_27 : decode cX12_text 27 = .ok (.iconst 0, 1) := by decide +kernel
theorem dX12_text_28 : decode cX12_text 28 = .ok (.putfield 211, 3) := by decide +kernel
theorem dX12_text_31 : decode cX12_text 31 = .ok (.aload_n 0, 1) := by decide +kernel
theorem dX12_text_32 : decode cX12_text 32 = .ok (.iconst 0, 1) := by decide +kernel
theorem dX12_text_33 : decode cX12_text 33 = .ok (.putfield 164, 3) := by decide +kernel
theorem dX12_text_36 : decode cX12_text 36 = .ok (.aload_n 0, 1) := by decide +kernel
theorem dX12_text_37 : decode cX12_text 37 = .ok (.iconst 0, 1) := by decide +kernel
theorem dX12_text_38 : decode cX12_text 38 = .ok (.putfield 176, 3) := by decide +kernel
theorem dX12_text_41 : decode cX12_text 41 = .ok (.aload_n 0, 1) := by decide +kernel
theorem dX12_text_42 : decode cX12_text 42 = .ok (.invokevirtual 214, 3) := by decide +kernel
theorem dX12_text_45 : decode cX12_text 45 = .ok (.aload_n 0, 1) := by decide +kernel
theorem dX12_text_46 : decode cX12_text 46 = .ok (.aload_n 0, 1) := by decide +kernel
theorem dX12_text_47 : decode cX12_text 47 = .ok (.getfield 164, 3) := by decide +kernel
theorem dX12_text_50 : decode cX12_text 50 = .ok (.ifCond .ne 17, 3) := by decide +kernel
theorem dX12_text_53 : decode cX12_text 53 = .ok (.aload_n 0, 1) := by decide +kernel
theorem dX12_text_54 : decode cX12_text 54 = .ok (.getfield 168, 3) := by decide +kernel
theorem dX12_text_57 : decode cX12_text 57 = .ok (.aload_n 0, 1) := by decide +kernel
theorem dX12_text_58 : decode cX12_text 58 = .ok (.getfield 9, 3) := by decide +kernel
theorem dX12_text_61 : decode cX12_text 61 = .ok (.bipush 6, 2) := by decide +kernel
theorem dX12_text_63 : decode cX12_text 63 = .ok (.iaload, 1) := by decide +kernel
theorem dX12_text_64 : decode cX12_text 64 = .ok (.if_icmp .ge 7, 3) := by decide +kernel
theorem dX12_text_67 : decode cX12_text 67 = .ok (.iconst 1, 1) := by decide +kernel
theorem dX12_text_68 : decode cX12_text 68 = .ok (.goto 4, 3) := by decide +kernel
theorem dX12_text_71 : decode cX12_text 71 = .ok (.iconst 0, 1) := by decide +kernel
theorem dX12_text_72 : decode cX12_text 72 = .ok (.putfield 164, 3) := by decide +kernel
theorem dX12_text_75 : decode cX12_text 75 = .ok (.aload_n 0, 1) := by decide +kernel
theorem dX12_text_76 : decode cX12_text 76 = .ok (.getfield 9, 3) := by decide +kernel
theorem dX12_text_79 : decode cX12_text 79 = .ok (.bipush 6, 2) := by decide +kernel
theorem dX12_text_81 : decode cX12_text 81 = .ok (.iconst 0, 1) := by decide +kernel
theorem dX12_text_82 : decode cX12_text 82 = .ok (.iastore, 1) := by decide +kernel
theorem dX12_text_83 : decode cX12_text 83 = .ok (.aload_n 0, 1) := by decide +kernel
theorem dX12_text_84 : decode cX12_text 84 = .ok (.getfield 164, 3) := by decide +kernel
theorem dX12_text_87 : decode cX12_text 87 = .ok (.ifCond .eq 11, 3) := by decide +kernel
theorem dX12_text_90 : decode cX12_text 90 = .ok (.bipush (-10), 2) := by decide +kernel
theorem dX12_text_92 : decode cX12_text 92 = .ok (.aload_n 0, 1) := by decide +kernel
theorem dX12_text_93 : decode cX12_text 93 = .ok (.getfield 168, 3) := by decide +kernel
theorem dX12_text_96 : decode cX12_text 96 = .ok (.isub, 1) := by decide +kernel
theorem dX12_text_97 : decode cX12_text 97 = .ok (.ireturn, 1) := by decide +kernel
theorem dX12_text_98 : decode cX12_text 98 = .ok (.aload_n 0, 1) := by decide +kernel
theorem dX12_text_99 : decode cX12_text 99 = .ok (.getfield 9, 3) := by decide +kernel
theorem dX12_text_102 : decode cX12_text 102 = .ok (.sipush 265, 3) := by decide +kernel
theorem dX12_text_105 : decode cX12_text 105 = .ok (.bipush 52, 2) := by decide +kernel
theorem dX12_text_107 : decode cX12_text 107 = .ok (.aload_n 0, 1) := by decide +kernel
theorem dX12_text_108 : decode cX12_text 108 = .ok (.getfield 201, 3) := by decide +kernel
theorem dX12_text_111 : decode cX12_text 111 = .ok (.imul, 1) := by decide +kernel
theorem dX12_text_112 : decode cX12_text 112 = .ok (.iadd, 1) := by decide +kernel
theorem dX12_text_113 : decode cX12_text 113 = .ok (.aload_n 0, 1) := by decide +kernel
theorem dX12_text_114 : decode cX12_text 114 = .ok (.getfield 176, 3) := by decide +kernel
theorem dX12_text_117 : decode cX12_text 117 = .ok (.iastore, 1) := by decide +kernel
theorem dX12_text_118 : decode cX12_text 118 = .ok (.iconst 0, 1) := by decide +kernel
theorem dX12_text_119 : decode cX12_text 119 = .ok (.istore_n 2, 1) := by decide +kernel
theorem dX12_text_120 : decode cX12_text 120 = .ok (.iload_n 2, 1) := by decide +kernel
theorem dX12_text_121 : decode cX12_text 121 = .ok (.aload_n 0, 1) := by decide +kernel
theorem dX12_text_122 : decode cX12_text 122 = .ok (.getfield 176, 3) := by decide +kernel
theorem dX12_text_125 : decode cX12_text 125 = .ok (.if_icmp .ge 35, 3) := by decide +kernel
theorem dX12_text_128 : decode cX12_text 128 = .ok (.aload_n 0, 1) := by decide +kernel
theorem dX12_text_129 : decode cX12_text 129 = .ok (.getfield 9, 3) := by decide +kernel
theorem dX12_text_132 : decode cX12_text 132 = .ok (.sipush 265, 3) := by decide +kernel
theorem dX12_text_135 : decode cX12_text 135 = .ok (.bipush 52, 2) := by decide +kernel
theorem dX12_text_137 : decode cX12_text 137 = .ok (.aload_n 0, 1) := by decide +kernel
theorem dX12_text_138 : decode cX12_text 138 = .ok (.getfield 201, 3) := by decide +kernel
theorem dX12_text_141 : decode cX12_text 141 = .ok (.imul, 1) := by decide +kernel
theorem dX12_text_142 : decode cX12_text 142 = .ok (.iadd, 1) := by decide +kernel
theorem dX12_text_143 : decode cX12_text 143 = .ok (.iconst 1, 1) := by decide +kernel
theorem dX12_text_144 : decode cX12_text 144 = .ok (.iadd, 1) := by decide +kernel
theorem dX12_text_145 : decode cX12_text 145 = .ok (.iload_n 2, 1) := by decide +kernel
theorem dX12_text_146 : decode cX12_text 146 = .ok (.iadd, 1) := by decide +kernel
theorem dX12_text_147 : decode cX12_text 147 = .ok (.aload_n 0, 1) := by decide +kernel
theorem dX12_text_148 : decode cX12_text 148 = .ok (.getfield 38, 3) := by decide +kernel
theorem dX12_text_151 : decode cX12_text 151 = .ok (.iload_n 2, 1) := by decide +kernel
theorem dX12_text_152 : decode cX12_text 152 = .ok (.iaload, 1) := by decide +kernel
theorem dX12_text_153 : decode cX12_text 153 = .ok (.iastore, 1) := by decide +kernel
theorem dX12_text_154 : decode cX12_text 154 = .ok (.iinc 2 1, 3) := by decide +kernel
theorem dX12_text_157 : decode cX12_text 157 = .ok (.goto (-37), 3) := by decide +kernel
theorem dX12_text_160 : decode cX12_text 160 = .ok (.iconst 1, 1) := by decide +kernel
theorem dX12_text_161 : decode cX12_text 161 = .ok (.ireturn, 1) := by decide +kernel
theorem dX12_done_0 : decode cX12_done 0 = .ok (.iload_n 0, 1) := by decide +kernel
theorem dX12_done_1 : decode cX12_done 1 = .ok (.tableswitch 136 20000 20008 #[51, 65, 79, 90, 101, 112, 116, 120, 124], 51) := by decide +kernel
theorem dX12_done_52 : decode cX12_done 52 = .ok (.iload_n 1, 1) := by decide +kernel
theorem dX12_done_53 : decode cX12_done 53 = .ok (.ifCond .ne 7, 3) := by decide +kernel
theorem dX12_done_56 : decode cX12_done 56 = .ok (.iload_n 2, 1) := by decide +kernel
theorem dX12_done_57 : decode cX12_done 57 = .ok (.ifCond .eq 7, 3) := by decide +kernel
theorem dX12_done_60 : decode cX12_done 60 = .ok (.iconst 1, 1) := by decide +kernel
theorem dX12_done_61 : decode cX12_done 61 = .ok (.goto 4, 3) := by decide +kernel
theorem dX12_done_64 : decode cX12_done 64 = .ok (.iconst 0, 1) := by decide +kernel
theorem dX12_done_65 : decode cX12_done 65 = .ok (.ireturn, 1) := by decide +kernel
theorem dX12_done_66 : decode cX12_done 66 = .ok (.iload_n 1, 1) := by decide +kernel
theorem dX12_done_67 : decode cX12_done 67 = .ok (.ifCond .eq 11, 3) := by decide +kernel
theorem dX12_done_70 : decode cX12_done 70 = .ok (.iload_n 2, 1) := by decide +kernel
theorem dX12_done_71 : decode cX12_done 71 = .ok (.ifCond .eq 7, 3) := by decide +kernel
theorem dX12_done_74 : decode cX12_done 74 = .ok (.iconst 1, 1) := by decide +kernel
theorem dX12_done_75 : decode cX12_done 75 = .ok (.goto 4, 3) := by decide +kernel
theorem dX12_done_78 : decode cX12_done 78 = .ok (.iconst 0, 1) := by decide +kernel
theorem dX12_done_79 : decode cX12_done 79 = .ok (.ireturn, 1) := by decide +kernel
theorem dX12_done_80 : decode cX12_done 80 = .ok (.iload_n 1, 1) := by decide +kernel
theorem dX12_done_81 : decode cX12_done 81 = .ok (.iload_n 2, 1) := by decide +kernel
theorem dX12_done_82 : decode cX12_done 82 = .ok (.if_icmp .ge 7, 3) := by decide +kernel
theorem dX12_done_85 : decode cX12_done 85 = .ok (.iconst 1, 1) := by decide +kernel
theorem dX12_done_86 : decode cX12_done 86 = .ok (.goto 4, 3) := by decide +kernel
theorem dX12_done_89 : decode cX12_done 89 = .ok (.iconst 0, 1) := by decide +kernel
theorem dX12_done_90 : decode cX12_done 90 = .ok (.ireturn, 1) := by decide +kernel
theorem dX12_done_91 : decode cX12_done 91 = .ok (.iload_n 1, 1) := by decide +kernel
theorem dX12_done_92 : decode cX12_done 92 = .ok (.iload_n 2, 1) := by decide +kernel
theorem dX12_done_93 : decode cX12_done 93 = .ok (.if_icmp .ne 7, 3) := by decide +kernel
theorem dX12_done_96 : decode cX12_done 96 = .ok (.iconst 1, 1) := by decide +kernel
theorem dX12_done_97 : decode cX12_done 97 = .ok (.goto 4, 3) := by decide +kernel
theorem dX12_done_100 : decode cX12_done 100 = .ok (.iconst 0, 1) := by decide +kernel
theorem dX12_done_101 : decode cX12_done 101 = .ok (.ireturn, 1) := by decide +kernel
theorem dX12_done_102 : decode cX12_done 102 = .ok (.iload_n 1, 1) := by decide +kernel
theorem dX12_done_103 : decode cX12_done 103 = .ok (.iload_n 2, 1) := by decide +kernel
theorem dX12_done_104 : decode cX12_done 104 = .ok (.if_icmp .le 7, 3) := by decide +kernel
theorem dX12_done_107 : decode cX12_done 107 = .ok (.iconst 1, 1) := by decide +kernel
theorem dX12_done_108 : decode cX12_done 108 = .ok (.goto 4, 3) := by decide +kernel
theorem dX12_done_111 : decode cX12_done 111 = .ok (.iconst 0, 1) := by decide +kernel
theorem dX12_done_112 : decode cX12_done 112 = .ok (.ireturn, 1) := by decide +kernel
theorem dX12_done_113 : decode cX12_done 113 = .ok (.iload_n 1, 1) := by decide +kernel
theorem dX12_done_114 : decode cX12_done 114 = .ok (.iload_n 2, 1) := by decide +kernel
theorem dX12_done_115 : decode cX12_done 115 = .ok (.iadd, 1) := by decide +kernel
theorem dX12_done_116 : decode cX12_done 116 = .ok (.ireturn, 1) := by decide +kernel
theorem dX12_done_117 : decode cX12_done 117 = .ok (.iload_n 1, 1) := by decide +kernel
theorem dX12_done_118 : decode cX12_done 118 = .ok (.iload_n 2, 1) := by decide +kernel
theorem dX12_done_119 : decode cX12_done 119 = .ok (.isub, 1) := by decide +kernel
theorem dX12_done_120 : decode cX12_done 120 = .ok (.ireturn, 1) := by decide +kernel
theorem dX12_done_121 : decode cX12_done 121 = .ok (.iload_n 1, 1) := by decide +kernel
theorem dX12_done_122 : decode cX12_done 122 = .ok (.iload_n 2, 1) := by decide +kernel
theorem dX12_done_123 : decode cX12_done 123 = .ok (.imul, 1) := by decide +kernel
theorem dX12_done_124 : decode cX12_done 124 = .ok (.ireturn, 1) := by decide +kernel
theorem dX12_done_125 : decode cX12_done 125 = .ok (.iload_n 2, 1) := by decide +kernel
theorem dX12_done_126 : decode cX12_done 126 = .ok (.ifCond .ne 7, 3) := by decide +kernel
theorem dX12_done_129 : decode cX12_done 129 = .ok (.iconst 0, 1) := by decide +kernel
theorem dX12_done_130 : decode cX12_done 130 = .ok (.goto 6, 3) := by decide +kernel
theorem dX12_done_133 : decode cX12_done 133 = .ok (.iload_n 1, 1) := by decide +kernel
theorem dX12_done_134 : decode cX12_done 134 = .ok (.iload_n 2, 1) := by decide +kernel
theorem dX12_done_135 : decode cX12_done 135 = .ok (.idiv, 1) := by decide +kernel
theorem dX12_done_136 : decode cX12_done 136 = .ok (.ireturn, 1) := by decide +kernel
theorem dX12_done_137 : decode cX12_done 137 = .ok (.iload_n 2, 1) := by decide +kernel
theorem dX12_done_138 : decode cX12_done 138 = .ok (.ifCond .ne 7, 3) := by decide +kernel
theorem dX12_done_141 : decode cX12_done 141 = .ok (.iconst 0, 1) := by decide +kernel
theorem dX12_done_142 : decode cX12_done 142 = .ok (.goto 6, 3) := by decide +kernel
theorem dX12_done_145 : decode cX12_done 145 = .ok (.iload_n 1, 1) := by decide +kernel
theorem dX12_done_146 : decode cX12_done 146 = .ok (.iload_n 2, 1) := by decide +kernel
theorem dX12_done_147 : decode cX12_done 147 = .ok (.irem, 1) := by decide +kernel
theorem dX12_done_148 : decode cX12_done 148 = .ok (.ireturn, 1) := by decide +kernel
theorem dX12_worked_0 : decode cX12_worked 0 = .ok (.iconst 0, 1) := by decide +kernel
theorem dX12_worked_1 : decode cX12_worked 1 = .ok (.istore_n 2, 1) := by decide +kernel
theorem dX12_worked_2 : decode cX12_worked 2 = .ok (.iload_n 1, 1) := by decide +kernel
theorem dX12_worked_3 : decode cX12_worked 3 = .ok (.istore_n 3, 1) := by decide +kernel
theorem dX12_worked_4 : decode cX12_worked 4 = .ok (.iload_n 3, 1) := by decide +kernel
theorem dX12_worked_5 : decode cX12_worked 5 = .ok (.iload_n 1, 1) := by decide +kernel
theorem dX12_worked_6 : decode cX12_worked 6 = .ok (.aload_n 0, 1) := by decide +kernel
theorem dX12_worked_7 : decode cX12_worked 7 = .ok (.getfield 9, 3) := by decide +kernel
theorem dX12_worked_10 : decode cX12_worked 10 = .ok (.iload_n 1, 1) := by decide +kernel
theorem dX12_worked_11 : decode cX12_worked 11 = .ok (.iconst 1, 1) := by decide +kernel
theorem dX12_worked_12 : decode cX12_worked 12 = .ok (.isub, 1) := by decide +kernel
theorem dX12_worked_13 : decode cX12_worked 13 = .ok (.iaload, 1) := by decide +kernel
theorem dX12_worked_14 : decode cX12_worked 14 = .ok (.iadd, 1) := by decide +kernel
theorem dX12_worked_15 : decode cX12_worked 15 = .ok (.if_icmp .ge 126, 3) := by decide +kernel
theorem dX12_worked_18 : decode cX12_worked 18 = .ok (.aload_n 0, 1) := by decide +kernel
theorem dX12_worked_19 : decode cX12_worked 19 = .ok (.getfield 9, 3) := by decide +kernel
theorem dX12_worked_22 : decode cX12_worked 22 = .ok (.iload_n 3, 1) := by decide +kernel
theorem dX12_worked_23 : decode cX12_worked 23 = .ok (.iaload, 1) := by decide +kernel
theorem dX12_worked_24 : decode cX12_worked 24 = .ok (.istore 4, 2) := by decide +kernel
theorem dX12_worked_26 : decode cX12_worked 26 = .ok (.iload 4, 2) := by decide +kernel
theorem dX12_worked_28 : decode cX12_worked 28 = .ok (.sipush 20000, 3) := by decide +kernel
theorem dX12_worked_31 : decode cX12_worked 31 = .ok (.if_icmp .ge 39, 3) := by decide +kernel
theorem dX12_worked_34 : decode cX12_worked 34 = .ok (.aload_n 0, 1) := by decide +kernel
theorem dX12_worked_35 : decode cX12_worked 35 = .ok (.getfield 44, 3) := by decide +kernel
theorem dX12_worked_38 : decode cX12_worked 38 = .ok (.iload_n 2, 1) := by decide +kernel
theorem dX12_worked_39 : decode cX12_worked 39 = .ok (.iload 4, 2) := by decide +kernel
theorem dX12_worked_41 : decode cX12_worked 41 = .ok (.sipush 10000, 3) := by decide +kernel
theorem dX12_worked_44 : decode cX12_worked 44 = .ok (.if_icmp .ge 8, 3) := by decide +kernel
theorem dX12_worked_47 : decode cX12_worked 47 = .ok (.iload 4, 2) := by decide +kernel
theorem dX12_worked_49 : decode cX12_worked 49 = .ok (.goto 14, 3) := by decide +kernel
theorem dX12_worked_52 : decode cX12_worked 52 = .ok (.aload_n 0, 1) := by decide +kernel
theorem dX12_worked_53 : decode cX12_worked 53 = .ok (.getfield 41, 3) := by decide +kernel
theorem dX12_worked_56 : decode cX12_worked 56 = .ok (.iload 4, 2) := by decide +kernel
theorem dX12_worked_58 : decode cX12_worked 58 = .ok (.sipush 10000, 3) := by decide +kernel
theorem dX12_worked_61 : decode cX12_worked 61 = .ok (.isub, 1) := by decide +kernel
theorem dX12_worked_62 : decode cX12_worked 62 = .ok (.iaload, 1) := by decide +kernel
theorem dX12_worked_63 : decode cX12_worked 63 = .ok (.iastore, 1) := by decide +kernel
theorem dX12_worked_64 : decode cX12_worked 64 = .ok (.iinc 2 1, 3) := by decide +kernel
theorem dX12_worked_67 : decode cX12_worked 67 = .ok (.goto 68, 3) := by decide +kernel
theorem dX12_worked_70 : decode cX12_worked 70 = .ok (.iload 4, 2) := by decide +kernel
theorem dX12_worked_72 : decode cX12_worked 72 = .ok (.sipush 20010, 3) := by decide +kernel
theorem dX12_worked_75 : decode cX12_worked 75 = .ok (.if_icmp .ne 30, 3) := by decide +kernel
theorem dX12_worked_78 : decode cX12_worked 78 = .ok (.aload_n 0, 1) := by decide +kernel
theorem dX12_worked_79 : decode cX12_worked 79 = .ok (.getfield 44, 3) := by decide +kernel
theorem dX12_worked_82 : decode cX12_worked 82 = .ok (.iload_n 2, 1) := by decide +kernel
theorem dX12_worked_83 : decode cX12_worked 83 = .ok (.iconst 1, 1) := by decide +kernel
theorem dX12_worked_84 : decode cX12_worked 84 = .ok (.isub, 1) := by decide +kernel
theorem dX12_worked_85 : decode cX12_worked 85 = .ok (.aload_n 0, 1) := by decide +kernel
theorem dX12_worked_86 : decode cX12_worked 86 = .ok (.getfield 44, 3) := by decide +kernel
theorem dX12_worked_89 : decode cX12_worked 89 = .ok (.iload_n 2, 1) := by decide +kernel
theorem dX12_worked_90 : decode cX12_worked 90 = .ok (.iconst 1, 1) := by decide +kernel
theorem dX12_worked_91 : decode cX12_worked 91 = .ok (.isub, 1) := by decide +kernel
theorem dX12_worked_92 : decode cX12_worked 92 = .ok (.iaload, 1) := by decide +kernel
theorem dX12_worked_93 : decode cX12_worked 93 = .ok (.ifCond .ne 7, 3) := by decide +kernel
theorem dX12_worked_96 : decode cX12_worked 96 = .ok (.iconst 1, 1) := by decide +kernel
theorem dX12_worked_97 : decode cX12_worked 97 = .ok (.goto 4, 3) := by decide +kernel
theorem dX12_worked_100 : decode cX12_worked 100 = .ok (.iconst 0, 1) := by decide +kernel
theorem dX12_worked_101 : decode cX12_worked 101 = .ok (.iastore, 1) := by decide +kernel
theorem dX12_worked_102 : decode cX12_worked 102 = .ok (.goto 33, 3) := by decide +kernel
theorem dX12_worked_105 : decode cX12_worked 105 = .ok (.iinc 2 (-1), 3) := by decide +kernel
theorem dX12_worked_108 : decode cX12_worked 108 = .ok (.aload_n 0, 1) := by decide +kernel
theorem dX12_worked_109 : decode cX12_worked 109 = .ok (.getfield 44, 3) := by decide +kernel
theorem dX12_worked_112 : decode cX12_worked 112 = .ok (.iload_n 2, 1) := by decide +kernel
theorem dX12_worked_113 : decode cX12_worked 113 = .ok (.iconst 1, 1) := by decide +kernel
theorem dX12_worked_114 : decode cX12_worked 114 = .ok (.isub, 1) := by decide +kernel
theorem dX12_worked_115 : decode cX12_worked 115 = .ok (.iload 4, 2) := by decide +kernel
theorem dX12_worked_117 : decode cX12_worked 117 = .ok (.aload_n 0, 1) := by decide +kernel
theorem dX12_worked_118 : decode cX12_worked 118 = .ok (.getfield 44, 3) := by decide +kernel
theorem dX12_worked_121 : decode cX12_worked 121 = .ok (.iload_n 2, 1) := by decide +kernel
theorem dX12_worked_122 : decode cX12_worked 122 = .ok (.iconst 1, 1) := by decide +kernel
theorem dX12_worked_123 : decode cX12_worked 123 = .ok (.isub, 1) := by decide +kernel
theorem dX12_worked_124 : decode cX12_worked 124 = .ok (.iaload, 1) := by decide +kernel
theorem dX12_worked_125 : decode cX12_worked 125 = .ok (.aload_n 0, 1) := by decide +kernel
theorem dX12_worked_126 : decode cX12_worked 126 = .ok (.getfield 44, 3) := by decide +kernel
theorem dX12_worked_129 : decode cX12_worked 129 = .ok (.iload_n 2, 1) := by decide +kernel
theorem dX12_worked_130 : decode cX12_worked 130 = .ok (.iaload, 1) := by decide +kernel
theorem dX12_worked_131 : decode cX12_worked 131 = .ok (.invokestatic 220, 3) := by decide +kernel
theorem dX12_worked_134 : decode cX12_worked 134 = .ok (.iastore, 1) := by decide +kernel
theorem dX12_worked_135 : decode cX12_worked 135 = .ok (.iinc 3 1, 3) := by decide +kernel
theorem dX12_worked_138 : decode cX12_worked 138 = .ok (.goto (-134), 3) := by decide +kernel
theorem dX12_worked_141 : decode cX12_worked 141 = .ok (.aload_n 0, 1) := by decide +kernel
theorem dX12_worked_142 : decode cX12_worked 142 = .ok (.getfield 44, 3) := by decide +kernel
theorem dX12_worked_145 : decode cX12_worked 145 = .ok (.iconst 0, 1) := by decide +kernel
theorem dX12_worked_146 : decode cX12_worked 146 = .ok (.iaload, 1) := by decide +kernel
theorem dX12_worked_147 : decode cX12_worked 147 = .ok (.ireturn, 1) := by decide +kernel
theorem dX12_hasText_0 : decode cX12_hasText 0 = .ok (.aload_n 0, 1) := by decide +kernel
theorem dX12_hasText_1 : decode cX12_hasText 1 = .ok (.getfield 9, 3) := by decide +kernel
theorem dX12_hasText_4 : decode cX12_hasText 4 = .ok (.sipush 265, 3) := by decide +kernel
theorem dX12_hasText_7 : decode cX12_hasText 7 = .ok (.bipush 52, 2) := by decide +kernel
theorem dX12_hasText_9 : decode cX12_hasText 9 = .ok (.iload_n 1, 1) := by decide +kernel
theorem dX12_hasText_10 : decode cX12_hasText 10 = .ok (.imul, 1) := by decide +kernel
theorem dX12_hasText_11 : decode cX12_hasText 11 = .ok (.iadd, 1) := by decide +kernel
theorem dX12_hasText_12 : decode cX12_hasText 12 = .ok (.iaload, 1) := by decide +kernel
theorem dX12_hasText_13 : decode cX12_hasText 13 = .ok (.ifCond .le 7, 3) := by decide +kernel
theorem dX12_hasText_16 : decode cX12_hasText 16 = .ok (.iconst 1, 1) := by decide +kernel
theorem dX12_hasText_17 : decode cX12_hasText 17 = .ok (.goto 4, 3) := by decide +kernel
theorem dX12_hasText_20 : decode cX12_hasText 20 = .ok (.iconst 0, 1) := by decide +kernel
theorem dX12_hasText_21 : decode cX12_hasText 21 = .ok (.ireturn, 1) := by decide +kernel
theorem dX12_given_0 : decode cX12_given 0 = .ok (.aload_n 0, 1) := by decide +kernel
theorem dX12_given_1 : decode cX12_given 1 = .ok (.getfield 41, 3) := by decide +kernel
theorem dX12_given_4 : decode cX12_given 4 = .ok (.iconst 0, 1) := by decide +kernel
theorem dX12_given_5 : decode cX12_given 5 = .ok (.iload_n 2, 1) := by decide +kernel
theorem dX12_given_6 : decode cX12_given 6 = .ok (.iastore, 1) := by decide +kernel
theorem dX12_given_7 : decode cX12_given 7 = .ok (.aload_n 0, 1) := by decide +kernel
theorem dX12_given_8 : decode cX12_given 8 = .ok (.getfield 41, 3) := by decide +kernel
theorem dX12_given_11 : decode cX12_given 11 = .ok (.iconst 1, 1) := by decide +kernel
theorem dX12_given_12 : decode cX12_given 12 = .ok (.iload_n 3, 1) := by decide +kernel
theorem dX12_given_13 : decode cX12_given 13 = .ok (.iastore, 1) := by decide +kernel
theorem dX12_given_14 : decode cX12_given 14 = .ok (.aload_n 0, 1) := by decide +kernel
theorem dX12_given_15 : decode cX12_given 15 = .ok (.getfield 41, 3) := by decide +kernel
theorem dX12_given_18 : decode cX12_given 18 = .ok (.iconst 2, 1) := by decide +kernel
theorem dX12_given_19 : decode cX12_given 19 = .ok (.iload 4, 2) := by decide +kernel
theorem dX12_given_21 : decode cX12_given 21 = .ok (.iastore, 1) := by decide +kernel
theorem dX12_given_22 : decode cX12_given 22 = .ok (.aload_n 0, 1) := by decide +kernel
theorem dX12_given_23 : decode cX12_given 23 = .ok (.getfield 41, 3) := by decide +kernel
theorem dX12_given_26 : decode cX12_given 26 = .ok (.iconst 3, 1) := by decide +kernel
theorem dX12_given_27 : decode cX12_given 27 = .ok (.iload 5, 2) := by decide +kernel
theorem dX12_given_29 : decode cX12_given 29 = .ok (.iastore, 1) := by decide +kernel
theorem dX12_given_30 : decode cX12_given 30 = .ok (.iload_n 1, 1) := by decide +kernel
theorem dX12_given_31 : decode cX12_given 31 = .ok (.ifCond .ne 30, 3) := by decide +kernel
theorem dX12_given_34 : decode cX12_given 34 = .ok (.aload_n 0, 1) := by decide +kernel
theorem dX12_given_35 : decode cX12_given 35 = .ok (.iconst 0, 1) := by decide +kernel
theorem dX12_given_36 : decode cX12_given 36 = .ok (.invokevirtual 143, 3) := by decide +kernel
theorem dX12_given_39 : decode cX12_given 39 = .ok (.ifCond .eq 20, 3) := by decide +kernel
theorem dX12_given_42 : decode cX12_given 42 = .ok (.aload_n 0, 1) := by decide +kernel
theorem dX12_given_43 : decode cX12_given 43 = .ok (.sipush 266, 3) := by decide +kernel
theorem dX12_given_46 : decode cX12_given 46 = .ok (.invokevirtual 224, 3) := by decide +kernel
theorem dX12_given_49 : decode cX12_given 49 = .ok (.bipush (-99), 2) := by decide +kernel
theorem dX12_given_51 : decode cX12_given 51 = .ok (.bipush 99, 2) := by decide +kernel
theorem dX12_given_53 : decode cX12_given 53 = .ok (.invokestatic 227, 3) := by decide +kernel
theorem dX12_given_56 : decode cX12_given 56 = .ok (.goto 4, 3) := by decide +kernel
theorem dX12_given_59 : decode cX12_given 59 = .ok (.iconst 0, 1) := by decide +kernel
theorem dX12_given_60 : decode cX12_given 60 = .ok (.ireturn, 1) := by decide +kernel
theorem dX12_given_61 : decode cX12_given 61 = .ok (.aload_n 0, 1) := by decide +kernel
theorem dX12_given_62 : decode cX12_given 62 = .ok (.iconst 1, 1) := by decide +kernel
theorem dX12_given_63 : decode cX12_given 63 = .ok (.invokevirtual 143, 3) := by decide +kernel
theorem dX12_given_66 : decode cX12_given 66 = .ok (.ifCond .eq 13, 3) := by decide +kernel
theorem dX12_given_69 : decode cX12_given 69 = .ok (.aload_n 0, 1) := by decide +kernel
theorem dX12_given_70 : decode cX12_given 70 = .ok (.sipush 318, 3) := by decide +kernel
theorem dX12_given_73 : decode cX12_given 73 = .ok (.invokevirtual 224, 3) := by decide +kernel
theorem dX12_given_76 : decode cX12_given 76 = .ok (.goto 6, 3) := by decide +kernel
theorem dX12_given_79 : decode cX12_given 79 = .ok (.iload_n 3, 1) := by decide +kernel
theorem dX12_given_80 : decode cX12_given 80 = .ok (.iconst 1, 1) := by decide +kernel
theorem dX12_given_81 : decode cX12_given 81 = .ok (.iadd, 1) := by decide +kernel
theorem dX12_given_82 : decode cX12_given 82 = .ok (.iconst 0, 1) := by decide +kernel
theorem dX12_given_83 : decode cX12_given 83 = .ok (.sipush 999, 3) := by decide +kernel
theorem dX12_given_86 : decode cX12_given 86 = .ok (.invokestatic 227, 3) := by decide +kernel
theorem dX12_given_89 : decode cX12_given 89 = .ok (.ireturn, 1) := by decide +kernel
theorem dX12_law_0 : decode cX12_law 0 = .ok (.iload_n 1, 1) := by decide +kernel
theorem dX12_law_1 : decode cX12_law 1 = .ok (.iconst 0, 1) := by decide +kernel
theorem dX12_law_2 : decode cX12_law 2 = .ok (.iconst 1, 1) := by decide +kernel
theorem dX12_law_3 : decode cX12_law 3 = .ok (.invokestatic 75, 3) := by decide +kernel
theorem dX12_law_6 : decode cX12_law 6 = .ok (.ifCond .eq 17, 3) := by decide +kernel
theorem dX12_law_9 : decode cX12_law 9 = .ok (.aload_n 0, 1) := by decide +kernel
theorem dX12_law_10 : decode cX12_law 10 = .ok (.iload_n 1, 1) := by decide +kernel
theorem dX12_law_11 : decode cX12_law 11 = .ok (.iload_n 2, 1) := by decide +kernel
theorem dX12_law_12 : decode cX12_law 12 = .ok (.iload_n 3, 1) := by decide +kernel
theorem dX12_law_13 : decode cX12_law 13 = .ok (.iload 4, 2) := by decide +kernel
theorem dX12_law_15 : decode cX12_law 15 = .ok (.iload 5, 2) := by decide +kernel
theorem dX12_law_17 : decode cX12_law 17 = .ok (.invokevirtual 146, 3) := by decide +kernel
theorem dX12_law_20 : decode cX12_law 20 = .ok (.goto 9, 3) := by decide +kernel
theorem dX12_law_23 : decode cX12_law 23 = .ok (.aload_n 0, 1) := by decide +kernel
theorem dX12_law_24 : decode cX12_law 24 = .ok (.ldc 83, 2) := by decide +kernel
theorem dX12_law_26 : decode cX12_law 26 = .ok (.invokevirtual 84, 3) := by decide +kernel
theorem dX12_law_29 : decode cX12_law 29 = .ok (.ireturn, 1) := by decide +kernel
theorem dX12_hasLine_0 : decode cX12_hasLine 0 = .ok (.aload_n 0, 1) := by decide +kernel
theorem dX12_hasLine_1 : decode cX12_hasLine 1 = .ok (.iload_n 1, 1) := by decide +kernel
theorem dX12_hasLine_2 : decode cX12_hasLine 2 = .ok (.iconst 5, 1) := by decide +kernel
theorem dX12_hasLine_3 : decode cX12_hasLine 3 = .ok (.invokevirtual 117, 3) := by decide +kernel
theorem dX12_hasLine_6 : decode cX12_hasLine 6 = .ok (.ifCond .lt 22, 3) := by decide +kernel
theorem dX12_hasLine_9 : decode cX12_hasLine 9 = .ok (.aload_n 0, 1) := by decide +kernel
theorem dX12_hasLine_10 : decode cX12_hasLine 10 = .ok (.iload_n 1, 1) := by decide +kernel
theorem dX12_hasLine_11 : decode cX12_hasLine 11 = .ok (.aload_n 0, 1) := by decide +kernel
theorem dX12_hasLine_12 : decode cX12_hasLine 12 = .ok (.iload_n 1, 1) := by decide +kernel
theorem dX12_hasLine_13 : decode cX12_hasLine 13 = .ok (.iconst 5, 1) := by decide +kernel
theorem dX12_hasLine_14 : decode cX12_hasLine 14 = .ok (.invokevirtual 117, 3) := by decide +kernel
theorem dX12_hasLine_17 : decode cX12_hasLine 17 = .ok (.iconst 0, 1) := by decide +kernel
theorem dX12_hasLine_18 : decode cX12_hasLine 18 = .ok (.invokevirtual 159, 3) := by decide +kernel
theorem dX12_hasLine_21 : decode cX12_hasLine 21 = .ok (.ifCond .eq 7, 3) := by decide +kernel
theorem dX12_hasLine_24 : decode cX12_hasLine 24 = .ok (.iconst 1, 1) := by decide +kernel
theorem dX12_hasLine_25 : decode cX12_hasLine 25 = .ok (.goto 4, 3) := by decide +kernel
theorem dX12_hasLine_28 : decode cX12_hasLine 28 = .ok (.iconst 0, 1) := by decide +kernel
theorem dX12_hasLine_29 : decode cX12_hasLine 29 = .ok (.ireturn, 1) := by decide +kernel
theorem dX12_sideOf_0 : decode cX12_sideOf 0 = .ok (.aload_n 0, 1) := by decide +kernel
theorem dX12_sideOf_1 : decode cX12_sideOf 1 = .ok (.iload_n 2, 1) := by decide +kernel
theorem dX12_sideOf_2 : decode cX12_sideOf 2 = .ok (.invokevirtual 124, 3) := by decide +kernel
theorem dX12_sideOf_5 : decode cX12_sideOf 5 = .ok (.aload_n 0, 1) := by decide +kernel
theorem dX12_sideOf_6 : decode cX12_sideOf 6 = .ok (.iload_n 1, 1) := by decide +kernel
theorem dX12_sideOf_7 : decode cX12_sideOf 7 = .ok (.invokevirtual 124, 3) := by decide +kernel
theorem dX12_sideOf_10 : decode cX12_sideOf 10 = .ok (.isub, 1) := by decide +kernel
theorem dX12_sideOf_11 : decode cX12_sideOf 11 = .ok (.aload_n 0, 1) := by decide +kernel
theorem dX12_sideOf_12 : decode cX12_sideOf 12 = .ok (.iload_n 3, 1) := by decide +kernel
theorem dX12_sideOf_13 : decode cX12_sideOf 13 = .ok (.invokevirtual 130, 3) := by decide +kernel
theorem dX12_sideOf_16 : decode cX12_sideOf 16 = .ok (.aload_n 0, 1) := by decide +kernel
theorem dX12_sideOf_17 : decode cX12_sideOf 17 = .ok (.iload_n 1, 1) := by decide +kernel
theorem dX12_sideOf_18 : decode cX12_sideOf 18 = .ok (.invokevirtual 130, 3) := by decide +kernel
theorem dX12_sideOf_21 : decode cX12_sideOf 21 = .ok (.isub, 1) := by decide +kernel
theorem dX12_sideOf_22 : decode cX12_sideOf 22 = .ok (.imul, 1) := by decide +kernel
theorem dX12_sideOf_23 : decode cX12_sideOf 23 = .ok (.aload_n 0, 1) := by decide +kernel
theorem dX12_sideOf_24 : decode cX12_sideOf 24 = .ok (.iload_n 2, 1) := by decide +kernel
theorem dX12_sideOf_25 : decode cX12_sideOf 25 = .ok (.invokevirtual 130, 3) := by decide +kernel
theorem dX12_sideOf_28 : decode cX12_sideOf 28 = .ok (.aload_n 0, 1) := by decide +kernel
theorem dX12_sideOf_29 : decode cX12_sideOf 29 = .ok (.iload_n 1, 1) := by decide +kernel
theorem dX12_sideOf_30 : decode cX12_sideOf 30 = .ok (.invokevirtual 130, 3) := by decide +kernel
theorem dX12_sideOf_33 : decode cX12_sideOf 33 = .ok (.isub, 1) := by decide +kernel
theorem dX12_sideOf_34 : decode cX12_sideOf 34 = .ok (.aload_n 0, 1) := by decide +kernel
theorem dX12_sideOf_35 : decode cX12_sideOf 35 = .ok (.iload_n 3, 1) := by decide +kernel
theorem dX12_sideOf_36 : decode cX12_sideOf 36 = .ok (.invokevirtual 124, 3) := by decide +kernel
theorem dX12_sideOf_39 : decode cX12_sideOf 39 = .ok (.aload_n 0, 1) := by decide +kernel
theorem dX12_sideOf_40 : decode cX12_sideOf 40 = .ok (.iload_n 1, 1) := by decide +kernel
theorem dX12_sideOf_41 : decode cX12_sideOf 41 = .ok (.invokevirtual 124, 3) := by decide +kernel
theorem dX12_sideOf_44 : decode cX12_sideOf 44 = .ok (.isub, 1) := by decide +kernel
theorem dX12_sideOf_45 : decode cX12_sideOf 45 = .ok (.imul, 1) := by decide +kernel
theorem dX12_sideOf_46 : decode cX12_sideOf 46 = .ok (.isub, 1) := by decide +kernel
theorem dX12_sideOf_47 : decode cX12_sideOf 47 = .ok (.istore 4, 2) := by decide +kernel
theorem dX12_sideOf_49 : decode cX12_sideOf 49 = .ok (.iload 4, 2) := by decide +kernel
theorem dX12_sideOf_51 : decode cX12_sideOf 51 = .ok (.ifCond .le 7, 3) := by decide +kernel
theorem dX12_sideOf_54 : decode cX12_sideOf 54 = .ok (.iconst 1, 1) := by decide +kernel
theorem dX12_sideOf_55 : decode cX12_sideOf 55 = .ok (.goto 13, 3) := by decide +kernel
theorem dX12_sideOf_58 : decode cX12_sideOf 58 = .ok (.iload 4, 2) := by decide +kernel
theorem dX12_sideOf_60 : decode cX12_sideOf 60 = .ok (.ifCond .ge 7, 3) := by decide +kernel
theorem dX12_sideOf_63 : decode cX12_sideOf 63 = .ok (.iconst (-1), 1) := by decide +kernel
theorem dX12_sideOf_64 : decode cX12_sideOf 64 = .ok (.goto 4, 3) := by decide +kernel
theorem dX12_sideOf_67 : decode cX12_sideOf 67 = .ok (.iconst 0, 1) := by decide +kernel
theorem dX12_sideOf_68 : decode cX12_sideOf 68 = .ok (.ireturn, 1) := by decide +kernel
theorem dX12_haveMore_0 : decode cX12_haveMore 0 = .ok (.aload_n 0, 1) := by decide +kernel
theorem dX12_haveMore_1 : decode cX12_haveMore 1 = .ok (.iload_n 1, 1) := by decide +kernel
theorem dX12_haveMore_2 : decode cX12_haveMore 2 = .ok (.iload_n 2, 1) := by decide +kernel
theorem dX12_haveMore_3 : decode cX12_haveMore 3 = .ok (.iload_n 3, 1) := by decide +kernel
theorem dX12_haveMore_4 : decode cX12_haveMore 4 = .ok (.invokevirtual 230, 3) := by decide +kernel
theorem dX12_haveMore_7 : decode cX12_haveMore 7 = .ok (.ifCond .ne 24, 3) := by decide +kernel
theorem dX12_haveMore_10 : decode cX12_haveMore 10 = .ok (.aload_n 0, 1) := by decide +kernel
theorem dX12_haveMore_11 : decode cX12_haveMore 11 = .ok (.iload_n 1, 1) := by decide +kernel
theorem dX12_haveMore_12 : decode cX12_haveMore 12 = .ok (.iload_n 2, 1) := by decide +kernel
theorem dX12_haveMore_13 : decode cX12_haveMore 13 = .ok (.iload 4, 2) := by decide +kernel
theorem dX12_haveMore_15 : decode cX12_haveMore 15 = .ok (.invokevirtual 230, 3) := by decide +kernel
theorem dX12_haveMore_18 : decode cX12_haveMore 18 = .ok (.ifCond .ne 13, 3) := by decide +kernel
theorem dX12_haveMore_21 : decode cX12_haveMore 21 = .ok (.aload_n 0, 1) := by decide +kernel
theorem dX12_haveMore_22 : decode cX12_haveMore 22 = .ok (.iload_n 1, 1) := by decide +kernel
theorem dX12_haveMore_23 : decode cX12_haveMore 23 = .ok (.iload_n 2, 1) := by decide +kernel
theorem dX12_haveMore_24 : decode cX12_haveMore 24 = .ok (.iload_n 3, 1) := by decide +kernel
theorem dX12_haveMore_25 : decode cX12_haveMore 25 = .ok (.iload 4, 2) := by decide +kernel
theorem dX12_haveMore_27 : decode cX12_haveMore 27 = .ok (.invokevirtual 233, 3) := by decide +kernel
theorem dX12_haveMore_30 : decode cX12_haveMore 30 = .ok (.ireturn, 1) := by decide +kernel
theorem dX12_haveMore_31 : decode cX12_haveMore 31 = .ok (.iload_n 1, 1) := by decide +kernel
theorem dX12_haveMore_32 : decode cX12_haveMore 32 = .ok (.iload_n 3, 1) := by decide +kernel
theorem dX12_haveMore_33 : decode cX12_haveMore 33 = .ok (.if_icmp .eq 20, 3) := by decide +kernel
theorem dX12_haveMore_36 : decode cX12_haveMore 36 = .ok (.iload_n 1, 1) := by decide +kernel
theorem dX12_haveMore_37 : decode cX12_haveMore 37 = .ok (.iload 4, 2) := by decide +kernel
theorem dX12_haveMore_39 : decode cX12_haveMore 39 = .ok (.if_icmp .eq 14, 3) := by decide +kernel
theorem dX12_haveMore_42 : decode cX12_haveMore 42 = .ok (.iload_n 2, 1) := by decide +kernel
theorem dX12_haveMore_43 : decode cX12_haveMore 43 = .ok (.iload_n 3, 1) := by decide +kernel
theorem dX12_haveMore_44 : decode cX12_haveMore 44 = .ok (.if_icmp .eq 9, 3) := by decide +kernel
theorem dX12_haveMore_47 : decode cX12_haveMore 47 = .ok (.iload_n 2, 1) := by decide +kernel
theorem dX12_haveMore_48 : decode cX12_haveMore 48 = .ok (.iload 4, 2) := by decide +kernel
theorem dX12_haveMore_50 : decode cX12_haveMore 50 = .ok (.if_icmp .ne 5, 3) := by decide +kernel
theorem dX12_haveMore_53 : decode cX12_haveMore 53 = .ok (.iconst 0, 1) := by decide +kernel
theorem dX12_haveMore_54 : decode cX12_haveMore 54 = .ok (.ireturn, 1) := by decide +kernel
theorem dX12_haveMore_55 : decode cX12_haveMore 55 = .ok (.aload_n 0, 1) := by decide +kernel
theorem dX12_haveMore_56 : decode cX12_haveMore 56 = .ok (.iload_n 1, 1) := by decide +kernel
theorem dX12_haveMore_57 : decode cX12_haveMore 57 = .ok (.iload_n 2, 1) := by decide +kernel
theorem dX12_haveMore_58 : decode cX12_haveMore 58 = .ok (.iload_n 3, 1) := by decide +kernel
theorem dX12_haveMore_59 : decode cX12_haveMore 59 = .ok (.invokevirtual 230, 3) := by decide +kernel
theorem dX12_haveMore_62 : decode cX12_haveMore 62 = .ok (.aload_n 0, 1) := by decide +kernel
theorem dX12_haveMore_63 : decode cX12_haveMore 63 = .ok (.iload_n 1, 1) := by decide +kernel
theorem dX12_haveMore_64 : decode cX12_haveMore 64 = .ok (.iload_n 2, 1) := by decide +kernel
theorem dX12_haveMore_65 : decode cX12_haveMore 65 = .ok (.iload 4, 2) := by decide +kernel
theorem dX12_haveMore_67 : decode cX12_haveMore 67 = .ok (.invokevirtual 230, 3) := by decide +kernel
theorem dX12_haveMore_70 : decode cX12_haveMore 70 = .ok (.imul, 1) := by decide +kernel
theorem dX12_haveMore_71 : decode cX12_haveMore 71 = .ok (.ifCond .gt 23, 3) := by decide +kernel
theorem dX12_haveMore_74 : decode cX12_haveMore 74 = .ok (.aload_n 0, 1) := by decide +kernel
theorem dX12_haveMore_75 : decode cX12_haveMore 75 = .ok (.iload_n 3, 1) := by decide +kernel
theorem dX12_haveMore_76 : decode cX12_haveMore 76 = .ok (.iload 4, 2) := by decide +kernel
theorem dX12_haveMore_78 : decode cX12_haveMore 78 = .ok (.iload_n 1, 1) := by decide +kernel
theorem dX12_haveMore_79 : decode cX12_haveMore 79 = .ok (.invokevirtual 230, 3) := by decide +kernel
theorem dX12_haveMore_82 : decode cX12_haveMore 82 = .ok (.aload_n 0, 1) := by decide +kernel
theorem dX12_haveMore_83 : decode cX12_haveMore 83 = .ok (.iload_n 3, 1) := by decide +kernel
theorem dX12_haveMore_84 : decode cX12_haveMore 84 = .ok (.iload 4, 2) := by decide +kernel
theorem dX12_haveMore_86 : decode cX12_haveMore 86 = .ok (.iload_n 2, 1) := by decide +kernel
theorem dX12_haveMore_87 : decode cX12_haveMore 87 = .ok (.invokevirtual 230, 3) := by decide +kernel
theorem dX12_haveMore_90 : decode cX12_haveMore 90 = .ok (.imul, 1) := by decide +kernel
theorem dX12_haveMore_91 : decode cX12_haveMore 91 = .ok (.ifCond .le 7, 3) := by decide +kernel
theorem dX12_haveMore_94 : decode cX12_haveMore 94 = .ok (.iconst 1, 1) := by decide +kernel
theorem dX12_haveMore_95 : decode cX12_haveMore 95 = .ok (.goto 4, 3) := by decide +kernel
theorem dX12_haveMore_98 : decode cX12_haveMore 98 = .ok (.iconst 0, 1) := by decide +kernel
theorem dX12_haveMore_99 : decode cX12_haveMore 99 = .ok (.istore 5, 2) := by decide +kernel
theorem dX12_haveMore_101 : decode cX12_haveMore 101 = .ok (.iload 5, 2) := by decide +kernel
theorem dX12_haveMore_103 : decode cX12_haveMore 103 = .ok (.ifCond .ne 7, 3) := by decide +kernel
theorem dX12_haveMore_106 : decode cX12_haveMore 106 = .ok (.iconst 1, 1) := by decide +kernel
theorem dX12_haveMore_107 : decode cX12_haveMore 107 = .ok (.goto 4, 3) := by decide +kernel
theorem dX12_haveMore_110 : decode cX12_haveMore 110 = .ok (.iconst 0, 1) := by decide +kernel
theorem dX12_haveMore_111 : decode cX12_haveMore 111 = .ok (.ireturn, 1) := by decide +kernel
theorem dX12_overlap_0 : decode cX12_overlap 0 = .ok (.aload_n 0, 1) := by decide +kernel
theorem dX12_overlap_1 : decode cX12_overlap 1 = .ok (.iload_n 1, 1) := by decide +kernel
theorem dX12_overlap_2 : decode cX12_overlap 2 = .ok (.invokevirtual 124, 3) := by decide +kernel
theorem dX12_overlap_5 : decode cX12_overlap 5 = .ok (.aload_n 0, 1) := by decide +kernel
theorem dX12_overlap_6 : decode cX12_overlap 6 = .ok (.iload_n 2, 1) := by decide +kernel
theorem dX12_overlap_7 : decode cX12_overlap 7 = .ok (.invokevirtual 124, 3) := by decide +kernel
theorem dX12_overlap_10 : decode cX12_overlap 10 = .ok (.invokestatic 66, 3) := by decide +kernel
theorem dX12_overlap_13 : decode cX12_overlap 13 = .ok (.aload_n 0, 1) := by decide +kernel
theorem dX12_overlap_14 : decode cX12_overlap 14 = .ok (.iload_n 3, 1) := by decide +kernel
theorem dX12_overlap_15 : decode cX12_overlap 15 = .ok (.invokevirtual 124, 3) := by decide +kernel
theorem dX12_overlap_18 : decode cX12_overlap 18 = .ok (.aload_n 0, 1) := by decide +kernel
theorem dX12_overlap_19 : decode cX12_overlap 19 = .ok (.iload 4, 2) := by decide +kernel
theorem dX12_overlap_21 : decode cX12_overlap 21 = .ok (.invokevirtual 124, 3) := by decide +kernel
theorem dX12_overlap_24 : decode cX12_overlap 24 = .ok (.invokestatic 66, 3) := by decide +kernel
theorem dX12_overlap_27 : decode cX12_overlap 27 = .ok (.invokestatic 72, 3) := by decide +kernel
theorem dX12_overlap_30 : decode cX12_overlap 30 = .ok (.istore 5, 2) := by decide +kernel
theorem dX12_overlap_32 : decode cX12_overlap 32 = .ok (.aload_n 0, 1) := by decide +kernel
theorem dX12_overlap_33 : decode cX12_overlap 33 = .ok (.iload_n 1, 1) := by decide +kernel
theorem dX12_overlap_34 : decode cX12_overlap 34 = .ok (.invokevirtual 124, 3) := by decide +kernel
theorem dX12_overlap_37 : decode cX12_overlap 37 = .ok (.aload_n 0, 1) := by decide +kernel
theorem dX12_overlap_38 : decode cX12_overlap 38 = .ok (.iload_n 2, 1) := by decide +kernel
theorem dX12_overlap_39 : decode cX12_overlap 39 = .ok (.invokevirtual 124, 3) := by decide +kernel
theorem dX12_overlap_42 : decode cX12_overlap 42 = .ok (.invokestatic 72, 3) := by decide +kernel
theorem dX12_overlap_45 : decode cX12_overlap 45 = .ok (.aload_n 0, 1) := by decide +kernel
theorem dX12_overlap_46 : decode cX12_overlap 46 = .ok (.iload_n 3, 1) := by decide +kernel
theorem dX12_overlap_47 : decode cX12_overlap 47 = .ok (.invokevirtual 124, 3) := by decide +kernel
theorem dX12_overlap_50 : decode cX12_overlap 50 = .ok (.aload_n 0, 1) := by decide +kernel
theorem dX12_overlap_51 : decode cX12_overlap 51 = .ok (.iload 4, 2) := by decide +kernel
theorem dX12_overlap_53 : decode cX12_overlap 53 = .ok (.invokevirtual 124, 3) := by decide +kernel
theorem dX12_overlap_56 : decode cX12_overlap 56 = .ok (.invokestatic 72, 3) := by decide +kernel
theorem dX12_overlap_59 : decode cX12_overlap 59 = .ok (.invokestatic 66, 3) := by decide +kernel
theorem dX12_overlap_62 : decode cX12_overlap 62 = .ok (.istore 6, 2) := by decide +kernel
theorem dX12_overlap_64 : decode cX12_overlap 64 = .ok (.aload_n 0, 1) := by decide +kernel
theorem dX12_overlap_65 : decode cX12_overlap 65 = .ok (.iload_n 1, 1) := by decide +kernel
theorem dX12_overlap_66 : decode cX12_overlap 66 = .ok (.invokevirtual 130, 3) := by decide +kernel
theorem dX12_overlap_69 : decode cX12_overlap 69 = .ok (.aload_n 0, 1) := by decide +kernel
theorem dX12_overlap_70 : decode cX12_overlap 70 = .ok (.iload_n 2, 1) := by decide +kernel
theorem dX12_overlap_71 : decode cX12_overlap 71 = .ok (.invokevirtual 130, 3) := by decide +kernel
theorem dX12_overlap_74 : decode cX12_overlap 74 = .ok (.invokestatic 66, 3) := by decide +kernel
theorem dX12_overlap_77 : decode cX12_overlap 77 = .ok (.aload_n 0, 1) := by decide +kernel
theorem dX12_overlap_78 : decode cX12_overlap 78 = .ok (.iload_n 3, 1) := by decide +kernel
theorem dX12_overlap_79 : decode cX12_overlap 79 = .ok (.invokevirtual 130, 3) := by decide +kernel
theorem dX12_overlap_82 : decode cX12_overlap 82 = .ok (.aload_n 0, 1) := by decide +kernel
theorem dX12_overlap_83 : decode cX12_overlap 83 = .ok (.iload 4, 2) := by decide +kernel
theorem dX12_overlap_85 : decode cX12_overlap 85 = .ok (.invokevirtual 130, 3) := by decide +kernel
theorem dX12_overlap_88 : decode cX12_overlap 88 = .ok (.invokestatic 66, 3) := by decide +kernel
theorem dX12_overlap_91 : decode cX12_overlap 91 = .ok (.invokestatic 72, 3) := by decide +kernel
theorem dX12_overlap_94 : decode cX12_overlap 94 = .ok (.istore 7, 2) := by decide +kernel
theorem dX12_overlap_96 : decode cX12_overlap 96 = .ok (.aload_n 0, 1) := by decide +kernel
theorem dX12_overlap_97 : decode cX12_overlap 97 = .ok (.iload_n 1, 1) := by decide +kernel
theorem dX12_overlap_98 : decode cX12_overlap 98 = .ok (.invokevirtual 130, 3) := by decide +kernel
theorem dX12_overlap_101 : decode cX12_overlap 101 = .ok (.aload_n 0, 1) := by decide +kernel
theorem dX12_overlap_102 : decode cX12_overlap 102 = .ok (.iload_n 2, 1) := by decide +kernel
theorem dX12_overlap_103 : decode cX12_overlap 103 = .ok (.invokevirtual 130, 3) := by decide +kernel
theorem dX12_overlap_106 : decode cX12_overlap 106 = .ok (.invokestatic 72, 3) := by decide +kernel
theorem dX12_overlap_109 : decode cX12_overlap 109 = .ok (.aload_n 0, 1) := by decide +kernel
theorem dX12_overlap_110 : decode cX12_overlap 110 = .ok (.iload_n 3, 1) := by decide +kernel
theorem dX12_overlap_111 : decode cX12_overlap 111 = .ok (.invokevirtual 130, 3) := by decide +kernel
theorem dX12_overlap_114 : decode cX12_overlap 114 = .ok (.aload_n 0, 1) := by decide +kernel
theorem dX12_overlap_115 : decode cX12_overlap 115 = .ok (.iload 4, 2) := by decide +kernel
theorem dX12_overlap_117 : decode cX12_overlap 117 = .ok (.invokevirtual 130, 3) := by decide +kernel
theorem dX12_overlap_120 : decode cX12_overlap 120 = .ok (.invokestatic 72, 3) := by decide +kernel
theorem dX12_overlap_123 : decode cX12_overlap 123 = .ok (.invokestatic 66, 3) := by decide +kernel
theorem dX12_overlap_126 : decode cX12_overlap 126 = .ok (.istore 8, 2) := by decide +kernel
theorem dX12_overlap_128 : decode cX12_overlap 128 = .ok (.iload 5, 2) := by decide +kernel
theorem dX12_overlap_130 : decode cX12_overlap 130 = .ok (.iload 6, 2) := by decide +kernel
theorem dX12_overlap_132 : decode cX12_overlap 132 = .ok (.if_icmp .gt 28, 3) := by decide +kernel
theorem dX12_overlap_135 : decode cX12_overlap 135 = .ok (.iload 7, 2) := by decide +kernel
theorem dX12_overlap_137 : decode cX12_overlap 137 = .ok (.iload 8, 2) := by decide +kernel
theorem dX12_overlap_139 : decode cX12_overlap 139 = .ok (.if_icmp .gt 21, 3) := by decide +kernel
theorem dX12_overlap_142 : decode cX12_overlap 142 = .ok (.iload 5, 2) := by decide +kernel
theorem dX12_overlap_144 : decode cX12_overlap 144 = .ok (.iload 6, 2) := by decide +kernel
theorem dX12_overlap_146 : decode cX12_overlap 146 = .ok (.if_icmp .lt 10, 3) := by decide +kernel
theorem dX12_overlap_149 : decode cX12_overlap 149 = .ok (.iload 7, 2) := by decide +kernel
theorem dX12_overlap_151 : decode cX12_overlap 151 = .ok (.iload 8, 2) := by decide +kernel
theorem dX12_overlap_153 : decode cX12_overlap 153 = .ok (.if_icmp .ge 7, 3) := by decide +kernel
theorem dX12_overlap_156 : decode cX12_overlap 156 = .ok (.iconst 1, 1) := by decide +kernel
theorem dX12_overlap_157 : decode cX12_overlap 157 = .ok (.goto 4, 3) := by decide +kernel
theorem dX12_overlap_160 : decode cX12_overlap 160 = .ok (.iconst 0, 1) := by decide +kernel
theorem dX12_overlap_161 : decode cX12_overlap 161 = .ok (.ireturn, 1) := by decide +kernel
theorem dX12_crossEachOther_0 : decode cX12_crossEachOther 0 = .ok (.aload_n 0, 1) := by decide +kernel
theorem dX12_crossEachOther_1 : decode cX12_crossEachOther 1 = .ok (.aload_n 0, 1) := by decide +kernel
theorem dX12_crossEachOther_2 : decode cX12_crossEachOther 2 = .ok (.iload_n 1, 1) := by decide +kernel
theorem dX12_crossEachOther_3 : decode cX12_crossEachOther 3 = .ok (.iconst 2, 1) := by decide +kernel
theorem dX12_crossEachOther_4 : decode cX12_crossEachOther 4 = .ok (.invokevirtual 117, 3) := by decide +kernel
theorem dX12_crossEachOther_7 : decode cX12_crossEachOther 7 = .ok (.aload_n 0, 1) := by decide +kernel
theorem dX12_crossEachOther_8 : decode cX12_crossEachOther 8 = .ok (.iload_n 1, 1) := by decide +kernel
theorem dX12_crossEachOther_9 : decode cX12_crossEachOther 9 = .ok (.iconst 5, 1) := by decide +kernel
theorem dX12_crossEachOther_10 : decode cX12_crossEachOther 10 = .ok (.invokevirtual 117, 3) := by decide +kernel
theorem dX12_crossEachOther_13 : decode cX12_crossEachOther 13 = .ok (.aload_n 0, 1) := by decide +kernel
theorem dX12_crossEachOther_14 : decode cX12_crossEachOther 14 = .ok (.iload_n 2, 1) := by decide +kernel
theorem dX12_crossEachOther_15 : decode cX12_crossEachOther 15 = .ok (.iconst 2, 1) := by decide +kernel
theorem dX12_crossEachOther_16 : decode cX12_crossEachOther 16 = .ok (.invokevirtual 117, 3) := by decide +kernel
theorem dX12_crossEachOther_19 : decode cX12_crossEachOther 19 = .ok (.aload_n 0, 1) := by decide +kernel
theorem dX12_crossEachOther_20 : decode cX12_crossEachOther 20 = .ok (.iload_n 2, 1) := by decide +kernel
theorem dX12_crossEachOther_21 : decode cX12_crossEachOther 21 = .ok (.iconst 5, 1) := by decide +kernel
theorem dX12_crossEachOther_22 : decode cX12_crossEachOther 22 = .ok (.invokevirtual 117, 3) := by decide +kernel
theorem dX12_crossEachOther_25 : decode cX12_crossEachOther 25 = .ok (.invokevirtual 237, 3) := by decide +kernel
theorem dX12_crossEachOther_28 : decode cX12_crossEachOther 28 = .ok (.ireturn, 1) := by decide +kernel
theorem dX12_cross_0 : decode cX12_cross 0 = .ok (.aload_n 0, 1) := by decide +kernel
theorem dX12_cross_1 : decode cX12_cross 1 = .ok (.iload_n 1, 1) := by decide +kernel
theorem dX12_cross_2 : decode cX12_cross 2 = .ok (.iconst 2, 1) := by decide +kernel
theorem dX12_cross_3 : decode cX12_cross 3 = .ok (.invokevirtual 100, 3) := by decide +kernel
theorem dX12_cross_6 : decode cX12_cross 6 = .ok (.ifCond .eq 17, 3) := by decide +kernel
theorem dX12_cross_9 : decode cX12_cross 9 = .ok (.aload_n 0, 1) := by decide +kernel
theorem dX12_cross_10 : decode cX12_cross 10 = .ok (.iload_n 2, 1) := by decide +kernel
theorem dX12_cross_11 : decode cX12_cross 11 = .ok (.iconst 2, 1) := by decide +kernel
theorem dX12_cross_12 : decode cX12_cross 12 = .ok (.invokevirtual 100, 3) := by decide +kernel
theorem dX12_cross_15 : decode cX12_cross 15 = .ok (.ifCond .eq 8, 3) := by decide +kernel
theorem dX12_cross_18 : decode cX12_cross 18 = .ok (.iload_n 1, 1) := by decide +kernel
theorem dX12_cross_19 : decode cX12_cross 19 = .ok (.iload_n 2, 1) := by decide +kernel
theorem dX12_cross_20 : decode cX12_cross 20 = .ok (.if_icmp .ne 10, 3) := by decide +kernel
theorem dX12_cross_23 : decode cX12_cross 23 = .ok (.aload_n 0, 1) := by decide +kernel
theorem dX12_cross_24 : decode cX12_cross 24 = .ok (.ldc 83, 2) := by decide +kernel
theorem dX12_cross_26 : decode cX12_cross 26 = .ok (.invokevirtual 84, 3) := by decide +kernel
theorem dX12_cross_29 : decode cX12_cross 29 = .ok (.ireturn, 1) := by decide +kernel
theorem dX12_cross_30 : decode cX12_cross 30 = .ok (.aload_n 0, 1) := by decide +kernel
theorem dX12_cross_31 : decode cX12_cross 31 = .ok (.iload_n 1, 1) := by decide +kernel
theorem dX12_cross_32 : decode cX12_cross 32 = .ok (.invokevirtual 240, 3) := by decide +kernel
theorem dX12_cross_35 : decode cX12_cross 35 = .ok (.ifCond .eq 24, 3) := by decide +kernel
theorem dX12_cross_38 : decode cX12_cross 38 = .ok (.aload_n 0, 1) := by decide +kernel
theorem dX12_cross_39 : decode cX12_cross 39 = .ok (.iload_n 2, 1) := by decide +kernel
theorem dX12_cross_40 : decode cX12_cross 40 = .ok (.invokevirtual 240, 3) := by decide +kernel
theorem dX12_cross_43 : decode cX12_cross 43 = .ok (.ifCond .eq 16, 3) := by decide +kernel
theorem dX12_cross_46 : decode cX12_cross 46 = .ok (.aload_n 0, 1) := by decide +kernel
theorem dX12_cross_47 : decode cX12_cross 47 = .ok (.iload_n 1, 1) := by decide +kernel
theorem dX12_cross_48 : decode cX12_cross 48 = .ok (.iload_n 2, 1) := by decide +kernel
theorem dX12_cross_49 : decode cX12_cross 49 = .ok (.invokevirtual 243, 3) := by decide +kernel
theorem dX12_cross_52 : decode cX12_cross 52 = .ok (.ifCond .eq 7, 3) := by decide +kernel
theorem dX12_cross_55 : decode cX12_cross 55 = .ok (.iconst 1, 1) := by decide +kernel
theorem dX12_cross_56 : decode cX12_cross 56 = .ok (.goto 4, 3) := by decide +kernel
theorem dX12_cross_59 : decode cX12_cross 59 = .ok (.iconst 0, 1) := by decide +kernel
theorem dX12_cross_60 : decode cX12_cross 60 = .ok (.ireturn, 1) := by decide +kernel
theorem dX12_haveLines_0 : decode cX12_haveLines 0 = .ok (.iconst 0, 1) := by decide +kernel
theorem dX12_haveLines_1 : decode cX12_haveLines 1 = .ok (.istore_n 1, 1) := by decide +kernel
theorem dX12_haveLines_2 : decode cX12_haveLines 2 = .ok (.iconst 0, 1) := by decide +kernel
theorem dX12_haveLines_3 : decode cX12_haveLines 3 = .ok (.istore_n 2, 1) := by decide +kernel
theorem dX12_haveLines_4 : decode cX12_haveLines 4 = .ok (.iload_n 2, 1) := by decide +kernel
theorem dX12_haveLines_5 : decode cX12_haveLines 5 = .ok (.aload_n 0, 1) := by decide +kernel
theorem dX12_haveLines_6 : decode cX12_haveLines 6 = .ok (.getfield 9, 3) := by decide +kernel
theorem dX12_haveLines_9 : decode cX12_haveLines 9 = .ok (.iconst 2, 1) := by decide +kernel
theorem dX12_haveLines_10 : decode cX12_haveLines 10 = .ok (.iaload, 1) := by decide +kernel
theorem dX12_haveLines_11 : decode cX12_haveLines 11 = .ok (.if_icmp .ge 27, 3) := by decide +kernel
theorem dX12_haveLines_14 : decode cX12_haveLines 14 = .ok (.iload_n 1, 1) := by decide +kernel
theorem dX12_haveLines_15 : decode cX12_haveLines 15 = .ok (.aload_n 0, 1) := by decide +kernel
theorem dX12_haveLines_16 : decode cX12_haveLines 16 = .ok (.iload_n 2, 1) := by decide +kernel
theorem dX12_haveLines_17 : decode cX12_haveLines 17 = .ok (.invokevirtual 240, 3) := by decide +kernel
theorem dX12_haveLines_20 : decode cX12_haveLines 20 = .ok (.ifCond .eq 9, 3) := by decide +kernel
theorem dX12_haveLines_23 : decode cX12_haveLines 23 = .ok (.iconst 1, 1) := by decide +kernel
theorem dX12_haveLines_24 : decode cX12_haveLines 24 = .ok (.iload_n 2, 1) := by decide +kernel
theorem dX12_haveLines_25 : decode cX12_haveLines 25 = .ok (.ishl, 1) := by decide +kernel
theorem dX12_haveLines_26 : decode cX12_haveLines 26 = .ok (.goto 4, 3) := by decide +kernel
theorem dX12_haveLines_29 : decode cX12_haveLines 29 = .ok (.iconst 0, 1) := by decide +kernel
theorem dX12_haveLines_30 : decode cX12_haveLines 30 = .ok (.ior, 1) := by decide +kernel
theorem dX12_haveLines_31 : decode cX12_haveLines 31 = .ok (.istore_n 1, 1) := by decide +kernel
theorem dX12_haveLines_32 : decode cX12_haveLines 32 = .ok (.iinc 2 1, 3) := by decide +kernel
theorem dX12_haveLines_35 : decode cX12_haveLines 35 = .ok (.goto (-31), 3) := by decide +kernel
theorem dX12_haveLines_38 : decode cX12_haveLines 38 = .ok (.iload_n 1, 1) := by decide +kernel
theorem dX12_haveLines_39 : decode cX12_haveLines 39 = .ok (.ireturn, 1) := by decide +kernel
theorem dX12_isAheadOf_0 : decode cX12_isAheadOf 0 = .ok (.aload_n 0, 1) := by decide +kernel
theorem dX12_isAheadOf_1 : decode cX12_isAheadOf 1 = .ok (.iload_n 1, 1) := by decide +kernel
theorem dX12_isAheadOf_2 : decode cX12_isAheadOf 2 = .ok (.iconst 3, 1) := by decide +kernel
theorem dX12_isAheadOf_3 : decode cX12_isAheadOf 3 = .ok (.invokevirtual 117, 3) := by decide +kernel
theorem dX12_isAheadOf_6 : decode cX12_isAheadOf 6 = .ok (.aload_n 0, 1) := by decide +kernel
theorem dX12_isAheadOf_7 : decode cX12_isAheadOf 7 = .ok (.iload_n 2, 1) := by decide +kernel
theorem dX12_isAheadOf_8 : decode cX12_isAheadOf 8 = .ok (.iconst 3, 1) := by decide +kernel
theorem dX12_isAheadOf_9 : decode cX12_isAheadOf 9 = .ok (.invokevirtual 117, 3) := by decide +kernel
theorem dX12_isAheadOf_12 : decode cX12_isAheadOf 12 = .ok (.if_icmp .gt 23, 3) := by decide +kernel
theorem dX12_isAheadOf_15 : decode cX12_isAheadOf 15 = .ok (.aload_n 0, 1) := by decide +kernel
theorem dX12_isAheadOf_16 : decode cX12_isAheadOf 16 = .ok (.iload_n 1, 1) := by decide +kernel
theorem dX12_isAheadOf_17 : decode cX12_isAheadOf 17 = .ok (.iconst 3, 1) := by decide +kernel
theorem dX12_isAheadOf_18 : decode cX12_isAheadOf 18 = .ok (.invokevirtual 117, 3) := by decide +kernel
theorem dX12_isAheadOf_21 : decode cX12_isAheadOf 21 = .ok (.aload_n 0, 1) := by decide +kernel
theorem dX12_isAheadOf_22 : decode cX12_isAheadOf 22 = .ok (.iload_n 2, 1) := by decide +kernel
theorem dX12_isAheadOf_23 : decode cX12_isAheadOf 23 = .ok (.iconst 3, 1) := by decide +kernel
theorem dX12_isAheadOf_24 : decode cX12_isAheadOf 24 = .ok (.invokevirtual 117, 3) := by decide +kernel
theorem dX12_isAheadOf_27 : decode cX12_isAheadOf 27 = .ok (.if_icmp .ne 12, 3) := by decide +kernel
theorem dX12_isAheadOf_30 : decode cX12_isAheadOf 30 = .ok (.iload_n 1, 1) := by decide +kernel
theorem dX12_isAheadOf_31 : decode cX12_isAheadOf 31 = .ok (.iload_n 2, 1) := by decide +kernel
theorem dX12_isAheadOf_32 : decode cX12_isAheadOf 32 = .ok (.if_icmp .ge 7, 3) := by decide +kernel
theorem dX12_isAheadOf_35 : decode cX12_isAheadOf 35 = .ok (.iconst 1, 1) := by decide +kernel
theorem dX12_isAheadOf_36 : decode cX12_isAheadOf 36 = .ok (.goto 4, 3) := by decide +kernel
theorem dX12_isAheadOf_39 : decode cX12_isAheadOf 39 = .ok (.iconst 0, 1) := by decide +kernel
theorem dX12_isAheadOf_40 : decode cX12_isAheadOf 40 = .ok (.ireturn, 1) := by decide +kernel
theorem dX12_stayUp_0 : decode cX12_stayUp 0 = .ok (.iload_n 1, 1) := by decide +kernel
theorem dX12_stayUp_1 : decode cX12_stayUp 1 = .ok (.istore_n 2, 1) := by decide +kernel
theorem dX12_stayUp_2 : decode cX12_stayUp 2 = .ok (.iconst 0, 1) := by decide +kernel
theorem dX12_stayUp_3 : decode cX12_stayUp 3 = .ok (.istore_n 3, 1) := by decide +kernel
theorem dX12_stayUp_4 : decode cX12_stayUp 4 = .ok (.iload_n 2, 1) := by decide +kernel
theorem dX12_stayUp_5 : decode cX12_stayUp 5 = .ok (.ifCond .eq 143, 3) := by decide +kernel
theorem dX12_stayUp_8 : decode cX12_stayUp 8 = .ok (.iconst (-1), 1) := by decide +kernel
theorem dX12_stayUp_9 : decode cX12_stayUp 9 = .ok (.istore 4, 2) := by decide +kernel
theorem dX12_stayUp_11 : decode cX12_stayUp 11 = .ok (.iconst 0, 1) := by decide +kernel
theorem dX12_stayUp_12 : decode cX12_stayUp 12 = .ok (.istore 5, 2) := by decide +kernel
theorem dX12_stayUp_14 : decode cX12_stayUp 14 = .ok (.iload 5, 2) := by decide +kernel
theorem dX12_stayUp_16 : decode cX12_stayUp 16 = .ok (.aload_n 0, 1) := by decide +kernel
theorem dX12_stayUp_17 : decode cX12_stayUp 17 = .ok (.getfield 9, 3) := by decide +kernel
theorem dX12_stayUp_20 : decode cX12_stayUp 20 = .ok (.iconst 2, 1) := by decide +kernel
theorem dX12_stayUp_21 : decode cX12_stayUp 21 = .ok (.iaload, 1) := by decide +kernel
theorem dX12_stayUp_22 : decode cX12_stayUp 22 = .ok (.if_icmp .ge 43, 3) := by decide +kernel
theorem dX12_stayUp_25 : decode cX12_stayUp 25 = .ok (.iload_n 2, 1) := by decide +kernel
theorem dX12_stayUp_26 : decode cX12_stayUp 26 = .ok (.iload 5, 2) := by decide +kernel
theorem dX12_stayUp_28 : decode cX12_stayUp 28 = .ok (.invokestatic 246, 3) := by decide +kernel
theorem dX12_stayUp_31 : decode cX12_stayUp 31 = .ok (.ifCond .eq 24, 3) := by decide +kernel
theorem dX12_stayUp_34 : decode cX12_stayUp 34 = .ok (.iload 4, 2) := by decide +kernel
theorem dX12_stayUp_36 : decode cX12_stayUp 36 = .ok (.ifCond .lt 14, 3) := by decide +kernel
theorem dX12_stayUp_39 : decode cX12_stayUp 39 = .ok (.aload_n 0, 1) := by decide +kernel
theorem dX12_stayUp_40 : decode cX12_stayUp 40 = .ok (.iload 5, 2) := by decide +kernel
theorem dX12_stayUp_42 : decode cX12_stayUp 42 = .ok (.iload 4, 2) := by decide +kernel
theorem dX12_stayUp_44 : decode cX12_stayUp 44 = .ok (.invokevirtual 249, 3) := by decide +kernel
theorem dX12_stayUp_47 : decode cX12_stayUp 47 = .ok (.ifCond .eq 8, 3) := by decide +kernel
theorem dX12_stayUp_50 : decode cX12_stayUp 50 = .ok (.iload 5, 2) := by decide +kernel
theorem dX12_stayUp_52 : decode cX12_stayUp 52 = .ok (.goto 5, 3) := by decide +kernel
theorem dX12_stayUp_55 : decode cX12_stayUp 55 = .ok (.iload 4, 2) := by decide +kernel
theorem dX12_stayUp_57 : decode cX12_stayUp 57 = .ok (.istore 4, 2) := by decide +kernel
theorem dX12_stayUp_59 : decode cX12_stayUp 59 = .ok (.iinc 5 1, 3) := by decide +kernel
theorem dX12_stayUp_62 : decode cX12_stayUp 62 = .ok (.goto (-48), 3) := by decide +kernel
theorem dX12_stayUp_65 : decode cX12_stayUp 65 = .ok (.iconst 0, 1) := by decide +kernel
theorem dX12_stayUp_66 : decode cX12_stayUp 66 = .ok (.istore 5, 2) := by decide +kernel
theorem dX12_stayUp_68 : decode cX12_stayUp 68 = .ok (.iconst 0, 1) := by decide +kernel
theorem dX12_stayUp_69 : decode cX12_stayUp 69 = .ok (.istore 6, 2) := by decide +kernel
theorem dX12_stayUp_71 : decode cX12_stayUp 71 = .ok (.iload 6, 2) := by decide +kernel
theorem dX12_stayUp_73 : decode cX12_stayUp 73 = .ok (.aload_n 0, 1) := by decide +kernel
theorem dX12_stayUp_74 : decode cX12_stayUp 74 = .ok (.getfield 9, 3) := by decide +kernel
theorem dX12_stayUp_77 : decode cX12_stayUp 77 = .ok (.iconst 2, 1) := by decide +kernel
theorem dX12_stayUp_78 : decode cX12_stayUp 78 = .ok (.iaload, 1) := by decide +kernel
theorem dX12_stayUp_79 : decode cX12_stayUp 79 = .ok (.if_icmp .ge 41, 3) := by decide +kernel
theorem dX12_stayUp_82 : decode cX12_stayUp 82 = .ok (.iload 5, 2) := by decide +kernel
theorem dX12_stayUp_84 : decode cX12_stayUp 84 = .ok (.ifCond .ne 23, 3) := by decide +kernel
theorem dX12_stayUp_87 : decode cX12_stayUp 87 = .ok (.iload_n 3, 1) := by decide +kernel
theorem dX12_stayUp_88 : decode cX12_stayUp 88 = .ok (.iload 6, 2) := by decide +kernel
theorem dX12_stayUp_90 : decode cX12_stayUp 90 = .ok (.invokestatic 246, 3) := by decide +kernel
theorem dX12_stayUp_93 : decode cX12_stayUp 93 = .ok (.ifCond .eq 18, 3) := by decide +kernel
theorem dX12_stayUp_96 : decode cX12_stayUp 96 = .ok (.aload_n 0, 1) := by decide +kernel
theorem dX12_stayUp_97 : decode cX12_stayUp 97 = .ok (.iload 4, 2) := by decide +kernel
theorem dX12_stayUp_99 : decode cX12_stayUp 99 = .ok (.iload 6, 2) := by decide +kernel
theorem dX12_stayUp_101 : decode cX12_stayUp 101 = .ok (.invokevirtual 243, 3) := by decide +kernel
theorem dX12_stayUp_104 : decode cX12_stayUp 104 = .ok (.ifCond .eq 7, 3) := by decide +kernel
theorem dX12_stayUp_107 : decode cX12_stayUp 107 = .ok (.iconst 1, 1) := by decide +kernel
theorem dX12_stayUp_108 : decode cX12_stayUp 108 = .ok (.goto 4, 3) := by decide +kernel
theorem dX12_stayUp_111 : decode cX12_stayUp 111 = .ok (.iconst 0, 1) := by decide +kernel
theorem dX12_stayUp_112 : decode cX12_stayUp 112 = .ok (.istore 5, 2) := by decide +kernel
theorem dX12_stayUp_114 : decode cX12_stayUp 114 = .ok (.iinc 6 1, 3) := by decide +kernel
theorem dX12_stayUp_117 : decode cX12_stayUp 117 = .ok (.goto (-46), 3) := by decide +kernel
theorem dX12_stayUp_120 : decode cX12_stayUp 120 = .ok (.iload_n 3, 1) := by decide +kernel
theorem dX12_stayUp_121 : decode cX12_stayUp 121 = .ok (.iload 5, 2) := by decide +kernel
theorem dX12_stayUp_123 : decode cX12_stayUp 123 = .ok (.ifCond .eq 7, 3) := by decide +kernel
theorem dX12_stayUp_126 : decode cX12_stayUp 126 = .ok (.iconst 0, 1) := by decide +kernel
theorem dX12_stayUp_127 : decode cX12_stayUp 127 = .ok (.goto 7, 3) := by decide +kernel
theorem dX12_stayUp_130 : decode cX12_stayUp 130 = .ok (.iconst 1, 1) := by decide +kernel
theorem dX12_stayUp_131 : decode cX12_stayUp 131 = .ok (.iload 4, 2) := by decide +kernel
theorem dX12_stayUp_133 : decode cX12_stayUp 133 = .ok (.ishl, 1) := by decide +kernel
theorem dX12_stayUp_134 : decode cX12_stayUp 134 = .ok (.ior, 1) := by decide +kernel
theorem dX12_stayUp_135 : decode cX12_stayUp 135 = .ok (.istore_n 3, 1) := by decide +kernel
theorem dX12_stayUp_136 : decode cX12_stayUp 136 = .ok (.iload_n 2, 1) := by decide +kernel
theorem dX12_stayUp_137 : decode cX12_stayUp 137 = .ok (.iconst 1, 1) := by decide +kernel
theorem dX12_stayUp_138 : decode cX12_stayUp 138 = .ok (.iload 4, 2) := by decide +kernel
theorem dX12_stayUp_140 : decode cX12_stayUp 140 = .ok (.ishl, 1) := by decide +kernel
theorem dX12_stayUp_141 : decode cX12_stayUp 141 = .ok (.iconst (-1), 1) := by decide +kernel
theorem dX12_stayUp_142 : decode cX12_stayUp 142 = .ok (.ixor, 1) := by decide +kernel
theorem dX12_stayUp_143 : decode cX12_stayUp 143 = .ok (.iand, 1) := by decide +kernel
theorem dX12_stayUp_144 : decode cX12_stayUp 144 = .ok (.istore_n 2, 1) := by decide +kernel
theorem dX12_stayUp_145 : decode cX12_stayUp 145 = .ok (.goto (-141), 3) := by decide +kernel
theorem dX12_stayUp_148 : decode cX12_stayUp 148 = .ok (.iload_n 3, 1) := by decide +kernel
theorem dX12_stayUp_149 : decode cX12_stayUp 149 = .ok (.ireturn, 1) := by decide +kernel
theorem dX12_lines_0 : decode cX12_lines 0 = .ok (.iload_n 1, 1) := by decide +kernel
theorem dX12_lines_1 : decode cX12_lines 1 = .ok (.iconst 0, 1) := by decide +kernel
theorem dX12_lines_2 : decode cX12_lines 2 = .ok (.iconst 1, 1) := by decide +kernel
theorem dX12_lines_3 : decode cX12_lines 3 = .ok (.invokestatic 75, 3) := by decide +kernel
theorem dX12_lines_6 : decode cX12_lines 6 = .ok (.ifCond .ne 10, 3) := by decide +kernel
theorem dX12_lines_9 : decode cX12_lines 9 = .ok (.aload_n 0, 1) := by decide +kernel
theorem dX12_lines_10 : decode cX12_lines 10 = .ok (.ldc 83, 2) := by decide +kernel
theorem dX12_lines_12 : decode cX12_lines 12 = .ok (.invokevirtual 84, 3) := by decide +kernel
theorem dX12_lines_15 : decode cX12_lines 15 = .ok (.ireturn, 1) := by decide +kernel
theorem dX12_lines_16 : decode cX12_lines 16 = .ok (.aload_n 0, 1) := by decide +kernel
theorem dX12_lines_17 : decode cX12_lines 17 = .ok (.invokevirtual 252, 3) := by decide +kernel
theorem dX12_lines_20 : decode cX12_lines 20 = .ok (.istore_n 2, 1) := by decide +kernel
theorem dX12_lines_21 : decode cX12_lines 21 = .ok (.iload_n 1, 1) := by decide +kernel
theorem dX12_lines_22 : decode cX12_lines 22 = .ok (.ifCond .ne 7, 3) := by decide +kernel
theorem dX12_lines_25 : decode cX12_lines 25 = .ok (.iload_n 2, 1) := by decide +kernel
theorem dX12_lines_26 : decode cX12_lines 26 = .ok (.goto 12, 3) := by decide +kernel
theorem dX12_lines_29 : decode cX12_lines 29 = .ok (.iload_n 2, 1) := by decide +kernel
theorem dX12_lines_30 : decode cX12_lines 30 = .ok (.aload_n 0, 1) := by decide +kernel
theorem dX12_lines_31 : decode cX12_lines 31 = .ok (.iload_n 2, 1) := by decide +kernel
theorem dX12_lines_32 : decode cX12_lines 32 = .ok (.invokevirtual 255, 3) := by decide +kernel
theorem dX12_lines_35 : decode cX12_lines 35 = .ok (.iconst (-1), 1) := by decide +kernel
theorem dX12_lines_36 : decode cX12_lines 36 = .ok (.ixor, 1) := by decide +kernel
theorem dX12_lines_37 : decode cX12_lines 37 = .ok (.iand, 1) := by decide +kernel
theorem dX12_lines_38 : decode cX12_lines 38 = .ok (.ireturn, 1) := by decide +kernel
theorem dX12_letterIs_0 : decode cX12_letterIs 0 = .ok (.aload_n 0, 1) := by decide +kernel
theorem dX12_letterIs_1 : decode cX12_letterIs 1 = .ok (.getfield 9, 3) := by decide +kernel
theorem dX12_letterIs_4 : decode cX12_letterIs 4 = .ok (.bipush 99, 2) := by decide +kernel
theorem dX12_letterIs_6 : decode cX12_letterIs 6 = .ok (.bipush 7, 2) := by decide +kernel
theorem dX12_letterIs_8 : decode cX12_letterIs 8 = .ok (.iload_n 1, 1) := by decide +kernel
theorem dX12_letterIs_9 : decode cX12_letterIs 9 = .ok (.imul, 1) := by decide +kernel
theorem dX12_letterIs_10 : decode cX12_letterIs 10 = .ok (.iadd, 1) := by decide +kernel
theorem dX12_letterIs_11 : decode cX12_letterIs 11 = .ok (.iload_n 2, 1) := by decide +kernel
theorem dX12_letterIs_12 : decode cX12_letterIs 12 = .ok (.iadd, 1) := by decide +kernel
theorem dX12_letterIs_13 : decode cX12_letterIs 13 = .ok (.iaload, 1) := by decide +kernel
theorem dX12_letterIs_14 : decode cX12_letterIs 14 = .ok (.ireturn, 1) := by decide +kernel
theorem dX12_letter_0 : decode cX12_letter 0 = .ok (.aload_n 0, 1) := by decide +kernel
theorem dX12_letter_1 : decode cX12_letter 1 = .ok (.iload_n 1, 1) := by decide +kernel
theorem dX12_letter_2 : decode cX12_letter 2 = .ok (.iconst 1, 1) := by decide +kernel
theorem dX12_letter_3 : decode cX12_letter 3 = .ok (.invokevirtual 100, 3) := by decide +kernel
theorem dX12_letter_6 : decode cX12_letter 6 = .ok (.ifCond .eq 47, 3) := by decide +kernel
theorem dX12_letter_9 : decode cX12_letter 9 = .ok (.aload_n 0, 1) := by decide +kernel
theorem dX12_letter_10 : decode cX12_letter 10 = .ok (.iload_n 2, 1) := by decide +kernel
theorem dX12_letter_11 : decode cX12_letter 11 = .ok (.iconst 1, 1) := by decide +kernel
theorem dX12_letter_12 : decode cX12_letter 12 = .ok (.invokevirtual 100, 3) := by decide +kernel
theorem dX12_letter_15 : decode cX12_letter 15 = .ok (.ifCond .eq 38, 3) := by decide +kernel
theorem dX12_letter_18 : decode cX12_letter 18 = .ok (.iload_n 1, 1) := by decide +kernel
theorem dX12_letter_19 : decode cX12_letter 19 = .ok (.iload_n 2, 1) := by decide +kernel
theorem dX12_letter_20 : decode cX12_letter 20 = .ok (.if_icmp .eq 33, 3) := by decide +kernel
theorem dX12_letter_23 : decode cX12_letter 23 = .ok (.iload_n 3, 1) := by decide +kernel
theorem dX12_letter_24 : decode cX12_letter 24 = .ok (.iconst 0, 1) := by decide +kernel
theorem dX12_letter_25 : decode cX12_letter 25 = .ok (.bipush 30, 2) := by decide +kernel
theorem dX12_letter_27 : decode cX12_letter 27 = .ok (.invokestatic 75, 3) := by decide +kernel
theorem dX12_letter_30 : decode cX12_letter 30 = .ok (.ifCond .eq 23, 3) := by decide +kernel
theorem dX12_letter_33 : decode cX12_letter 33 = .ok (.iload 4, 2) := by decide +kernel
theorem dX12_letter_35 : decode cX12_letter 35 = .ok (.iconst (-1), 1) := by decide +kernel
theorem dX12_letter_36 : decode cX12_letter 36 = .ok (.if_icmp .eq 13, 3) := by decide +kernel
theorem dX12_letter_39 : decode cX12_letter 39 = .ok (.aload_n 0, 1) := by decide +kernel
theorem dX12_letter_40 : decode cX12_letter 40 = .ok (.iload 4, 2) := by decide +kernel
theorem dX12_letter_42 : decode cX12_letter 42 = .ok (.iconst 3, 1) := by decide +kernel
theorem dX12_letter_43 : decode cX12_letter 43 = .ok (.invokevirtual 100, 3) := by decide +kernel
theorem dX12_letter_46 : decode cX12_letter 46 = .ok (.ifCond .eq 7, 3) := by decide +kernel
theorem dX12_letter_49 : decode cX12_letter 49 = .ok (.iconst 1, 1) := by decide +kernel
theorem dX12_letter_50 : decode cX12_letter 50 = .ok (.goto 4, 3) := by decide +kernel
theorem dX12_letter_53 : decode cX12_letter 53 = .ok (.iconst 0, 1) := by decide +kernel
theorem dX12_letter_54 : decode cX12_letter 54 = .ok (.istore 5, 2) := by decide +kernel
theorem dX12_letter_56 : decode cX12_letter 56 = .ok (.iload 5, 2) := by decide +kernel
theorem dX12_letter_58 : decode cX12_letter 58 = .ok (.ifCond .ne 10, 3) := by decide +kernel
theorem dX12_letter_61 : decode cX12_letter 61 = .ok (.aload_n 0, 1) := by decide +kernel
theorem dX12_letter_62 : decode cX12_letter 62 = .ok (.ldc 83, 2) := by decide +kernel
theorem dX12_letter_64 : decode cX12_letter 64 = .ok (.invokevirtual 84, 3) := by decide +kernel
theorem dX12_letter_67 : decode cX12_letter 67 = .ok (.ireturn, 1) := by decide +kernel
theorem dX12_letter_68 : decode cX12_letter 68 = .ok (.aload_n 0, 1) := by decide +kernel
theorem dX12_letter_69 : decode cX12_letter 69 = .ok (.getfield 9, 3) := by decide +kernel
theorem dX12_letter_72 : decode cX12_letter 72 = .ok (.iconst 3, 1) := by decide +kernel
theorem dX12_letter_73 : decode cX12_letter 73 = .ok (.iaload, 1) := by decide +kernel
theorem dX12_letter_74 : decode cX12_letter 74 = .ok (.istore 6, 2) := by decide +kernel
theorem dX12_letter_76 : decode cX12_letter 76 = .ok (.iload 6, 2) := by decide +kernel
theorem dX12_letter_78 : decode cX12_letter 78 = .ok (.bipush 12, 2) := by decide +kernel
theorem dX12_letter_80 : decode cX12_letter 80 = .ok (.if_icmp .ne 10, 3) := by decide +kernel
theorem dX12_letter_83 : decode cX12_letter 83 = .ok (.aload_n 0, 1) := by decide +kernel
theorem dX12_letter_84 : decode cX12_letter 84 = .ok (.ldc 93, 2) := by decide +kernel
theorem dX12_letter_86 : decode cX12_letter 86 = .ok (.invokevirtual 84, 3) := by decide +kernel
theorem dX12_letter_89 : decode cX12_letter 89 = .ok (.ireturn, 1) := by decide +kernel
theorem dX12_letter_90 : decode cX12_letter 90 = .ok (.bipush 99, 2) := by decide +kernel
theorem dX12_letter_92 : decode cX12_letter 92 = .ok (.bipush 7, 2) := by decide +kernel
theorem dX12_letter_94 : decode cX12_letter 94 = .ok (.iload 6, 2) := by decide +kernel
theorem dX12_letter_96 : decode cX12_letter 96 = .ok (.imul, 1) := by decide +kernel
theorem dX12_letter_97 : decode cX12_letter 97 = .ok (.iadd, 1) := by decide +kernel
theorem dX12_letter_98 : decode cX12_letter 98 = .ok (.istore 7, 2) := by decide +kernel
theorem dX12_letter_100 : decode cX12_letter 100 = .ok (.aload_n 0, 1) := by decide +kernel
theorem dX12_letter_101 : decode cX12_letter 101 = .ok (.getfield 9, 3) := by decide +kernel
theorem dX12_letter_104 : decode cX12_letter 104 = .ok (.iload 7, 2) := by decide +kernel
theorem dX12_letter_106 : decode cX12_letter 106 = .ok (.iconst 0, 1) := by decide +kernel
theorem dX12_letter_107 : decode cX12_letter 107 = .ok (.iadd, 1) := by decide +kernel
theorem dX12_letter_108 : decode cX12_letter 108 = .ok (.iload_n 1, 1) := by decide +kernel
theorem dX12_letter_109 : decode cX12_letter 109 = .ok (.iastore, 1) := by decide +kernel
theorem dX12_letter_110 : decode cX12_letter 110 = .ok (.aload_n 0, 1) := by decide +kernel
theorem dX12_letter_111 : decode cX12_letter 111 = .ok (.getfield 9, 3) := by decide +kernel
theorem dX12_letter_114 : decode cX12_letter 114 = .ok (.iload 7, 2) := by decide +kernel
theorem dX12_letter_116 : decode cX12_letter 116 = .ok (.iconst 1, 1) := by decide +kernel
theorem dX12_letter_117 : decode cX12_letter 117 = .ok (.iadd, 1) := by decide +kernel
theorem dX12_letter_118 : decode cX12_letter 118 = .ok (.iload_n 2, 1) := by decide +kernel
theorem dX12_letter_119 : decode cX12_letter 119 = .ok (.iastore, 1) := by decide +kernel
theorem dX12_letter_120 : decode cX12_letter 120 = .ok (.aload_n 0, 1) := by decide +kernel
theorem dX12_letter_121 : decode cX12_letter 121 = .ok (.getfield 9, 3) := by decide +kernel
theorem dX12_letter_124 : decode cX12_letter 124 = .ok (.iload 7, 2) := by decide +kernel
theorem dX12_letter_126 : decode cX12_letter 126 = .ok (.iconst 2, 1) := by decide +kernel
theorem dX12_letter_127 : decode cX12_letter 127 = .ok (.iadd, 1) := by decide +kernel
theorem dX12_letter_128 : decode cX12_letter 128 = .ok (.iload_n 3, 1) := by decide +kernel
theorem dX12_letter_129 : decode cX12_letter 129 = .ok (.iastore, 1) := by decide +kernel
theorem dX12_letter_130 : decode cX12_letter 130 = .ok (.aload_n 0, 1) := by decide +kernel
theorem dX12_letter_131 : decode cX12_letter 131 = .ok (.getfield 9, 3) := by decide +kernel
theorem dX12_letter_134 : decode cX12_letter 134 = .ok (.iload 7, 2) := by decide +kernel
theorem dX12_letter_136 : decode cX12_letter 136 = .ok (.iconst 3, 1) := by decide +kernel
theorem dX12_letter_137 : decode cX12_letter 137 = .ok (.iadd, 1) := by decide +kernel
theorem dX12_letter_138 : decode cX12_letter 138 = .ok (.iload 4, 2) := by decide +kernel
theorem dX12_letter_140 : decode cX12_letter 140 = .ok (.iastore, 1) := by decide +kernel
theorem dX12_letter_141 : decode cX12_letter 141 = .ok (.aload_n 0, 1) := by decide +kernel
theorem dX12_letter_142 : decode cX12_letter 142 = .ok (.getfield 9, 3) := by decide +kernel
theorem dX12_letter_145 : decode cX12_letter 145 = .ok (.iload 7, 2) := by decide +kernel
theorem dX12_letter_147 : decode cX12_letter 147 = .ok (.iconst 4, 1) := by decide +kernel
theorem dX12_letter_148 : decode cX12_letter 148 = .ok (.iadd, 1) := by decide +kernel
theorem dX12_letter_149 : decode cX12_letter 149 = .ok (.aload_n 0, 1) := by decide +kernel
theorem dX12_letter_150 : decode cX12_letter 150 = .ok (.getfield 9, 3) := by decide +kernel
theorem dX12_letter_153 : decode cX12_letter 153 = .ok (.iconst 0, 1) := by decide +kernel
theorem dX12_letter_154 : decode cX12_letter 154 = .ok (.iaload, 1) := by decide +kernel
theorem dX12_letter_155 : decode cX12_letter 155 = .ok (.iastore, 1) := by decide +kernel
theorem dX12_letter_156 : decode cX12_letter 156 = .ok (.aload_n 0, 1) := by decide +kernel
theorem dX12_letter_157 : decode cX12_letter 157 = .ok (.getfield 9, 3) := by decide +kernel
theorem dX12_letter_160 : decode cX12_letter 160 = .ok (.iload 7, 2) := by decide +kernel
theorem dX12_letter_162 : decode cX12_letter 162 = .ok (.iconst 5, 1) := by decide +kernel
theorem dX12_letter_163 : decode cX12_letter 163 = .ok (.iadd, 1) := by decide +kernel
theorem dX12_letter_164 : decode cX12_letter 164 = .ok (.iload_n 1, 1) := by decide +kernel
theorem dX12_letter_165 : decode cX12_letter 165 = .ok (.iastore, 1) := by decide +kernel
theorem dX12_letter_166 : decode cX12_letter 166 = .ok (.aload_n 0, 1) := by decide +kernel
theorem dX12_letter_167 : decode cX12_letter 167 = .ok (.getfield 9, 3) := by decide +kernel
theorem dX12_letter_170 : decode cX12_letter 170 = .ok (.iload 7, 2) := by decide +kernel
theorem dX12_letter_172 : decode cX12_letter 172 = .ok (.bipush 6, 2) := by decide +kernel
theorem dX12_letter_174 : decode cX12_letter 174 = .ok (.iadd, 1) := by decide +kernel
theorem dX12_letter_175 : decode cX12_letter 175 = .ok (.iconst (-1), 1) := by decide +kernel
theorem dX12_letter_176 : decode cX12_letter 176 = .ok (.iastore, 1) := by decide +kernel
theorem dX12_letter_177 : decode cX12_letter 177 = .ok (.aload_n 0, 1) := by decide +kernel
theorem dX12_letter_178 : decode cX12_letter 178 = .ok (.getfield 9, 3) := by decide +kernel
theorem dX12_letter_181 : decode cX12_letter 181 = .ok (.iconst 3, 1) := by decide +kernel
theorem dX12_letter_182 : decode cX12_letter 182 = .ok (.dup2, 1) := by decide +kernel
theorem dX12_letter_183 : decode cX12_letter 183 = .ok (.iaload, 1) := by decide +kernel
theorem dX12_letter_184 : decode cX12_letter 184 = .ok (.iconst 1, 1) := by decide +kernel
theorem dX12_letter_185 : decode cX12_letter 185 = .ok (.iadd, 1) := by decide +kernel
theorem dX12_letter_186 : decode cX12_letter 186 = .ok (.iastore, 1) := by decide +kernel
theorem dX12_letter_187 : decode cX12_letter 187 = .ok (.iload 6, 2) := by decide +kernel
theorem dX12_letter_189 : decode cX12_letter 189 = .ok (.ireturn, 1) := by decide +kernel
theorem dX12_ofLetter_0 : decode cX12_ofLetter 0 = .ok (.aload_n 0, 1) := by decide +kernel
theorem dX12_ofLetter_1 : decode cX12_ofLetter 1 = .ok (.iload_n 1, 1) := by decide +kernel
theorem dX12_ofLetter_2 : decode cX12_ofLetter 2 = .ok (.iconst 3, 1) := by decide +kernel
theorem dX12_ofLetter_3 : decode cX12_ofLetter 3 = .ok (.invokevirtual 100, 3) := by decide +kernel
theorem dX12_ofLetter_6 : decode cX12_ofLetter 6 = .ok (.ifCond .eq 22, 3) := by decide +kernel
theorem dX12_ofLetter_9 : decode cX12_ofLetter 9 = .ok (.iload_n 2, 1) := by decide +kernel
theorem dX12_ofLetter_10 : decode cX12_ofLetter 10 = .ok (.iconst 0, 1) := by decide +kernel
theorem dX12_ofLetter_11 : decode cX12_ofLetter 11 = .ok (.bipush 6, 2) := by decide +kernel
theorem dX12_ofLetter_13 : decode cX12_ofLetter 13 = .ok (.invokestatic 75, 3) := by decide +kernel
theorem dX12_ofLetter_16 : decode cX12_ofLetter 16 = .ok (.ifCond .eq 12, 3) := by decide +kernel
theorem dX12_ofLetter_19 : decode cX12_ofLetter 19 = .ok (.aload_n 0, 1) := by decide +kernel
theorem dX12_ofLetter_20 : decode cX12_ofLetter 20 = .ok (.iload_n 1, 1) := by decide +kernel
theorem dX12_ofLetter_21 : decode cX12_ofLetter 21 = .ok (.iload_n 2, 1) := by decide +kernel
theorem dX12_ofLetter_22 : decode cX12_ofLetter 22 = .ok (.invokevirtual 97, 3) := by decide +kernel
theorem dX12_ofLetter_25 : decode cX12_ofLetter 25 = .ok (.goto 9, 3) := by decide +kernel
theorem dX12_ofLetter_28 : decode cX12_ofLetter 28 = .ok (.aload_n 0, 1) := by decide +kernel
theorem dX12_ofLetter_29 : decode cX12_ofLetter 29 = .ok (.ldc 83, 2) := by decide +kernel
theorem dX12_ofLetter_31 : decode cX12_ofLetter 31 = .ok (.invokevirtual 84, 3) := by decide +kernel
theorem dX12_ofLetter_34 : decode cX12_ofLetter 34 = .ok (.ireturn, 1) := by decide +kernel
theorem dX12_comesTo_0 : decode cX12_comesTo 0 = .ok (.bipush 99, 2) := by decide +kernel
theorem dX12_comesTo_2 : decode cX12_comesTo 2 = .ok (.bipush 7, 2) := by decide +kernel
theorem dX12_comesTo_4 : decode cX12_comesTo 4 = .ok (.iload_n 1, 1) := by decide +kernel
theorem dX12_comesTo_5 : decode cX12_comesTo 5 = .ok (.imul, 1) := by decide +kernel
theorem dX12_comesTo_6 : decode cX12_comesTo 6 = .ok (.iadd, 1) := by decide +kernel
theorem dX12_comesTo_7 : decode cX12_comesTo 7 = .ok (.istore_n 3, 1) := by decide +kernel
theorem dX12_comesTo_8 : decode cX12_comesTo 8 = .ok (.aload_n 0, 1) := by decide +kernel
theorem dX12_comesTo_9 : decode cX12_comesTo 9 = .ok (.getfield 9, 3) := by decide +kernel
theorem dX12_comesTo_12 : decode cX12_comesTo 12 = .ok (.iload_n 3, 1) := by decide +kernel
theorem dX12_comesTo_13 : decode cX12_comesTo 13 = .ok (.iconst 5, 1) := by decide +kernel
theorem dX12_comesTo_14 : decode cX12_comesTo 14 = .ok (.iadd, 1) := by decide +kernel
theorem dX12_comesTo_15 : decode cX12_comesTo 15 = .ok (.iload_n 2, 1) := by decide +kernel
theorem dX12_comesTo_16 : decode cX12_comesTo 16 = .ok (.iastore, 1) := by decide +kernel
theorem dX12_comesTo_17 : decode cX12_comesTo 17 = .ok (.iload_n 2, 1) := by decide +kernel
theorem dX12_comesTo_18 : decode cX12_comesTo 18 = .ok (.aload_n 0, 1) := by decide +kernel
theorem dX12_comesTo_19 : decode cX12_comesTo 19 = .ok (.getfield 9, 3) := by decide +kernel
theorem dX12_comesTo_22 : decode cX12_comesTo 22 = .ok (.iload_n 3, 1) := by decide +kernel
theorem dX12_comesTo_23 : decode cX12_comesTo 23 = .ok (.iconst 1, 1) := by decide +kernel
theorem dX12_comesTo_24 : decode cX12_comesTo 24 = .ok (.iadd, 1) := by decide +kernel
theorem dX12_comesTo_25 : decode cX12_comesTo 25 = .ok (.iaload, 1) := by decide +kernel
theorem dX12_comesTo_26 : decode cX12_comesTo 26 = .ok (.if_icmp .ne 101, 3) := by decide +kernel
theorem dX12_comesTo_29 : decode cX12_comesTo 29 = .ok (.aload_n 0, 1) := by decide +kernel
theorem dX12_comesTo_30 : decode cX12_comesTo 30 = .ok (.getfield 9, 3) := by decide +kernel
theorem dX12_comesTo_33 : decode cX12_comesTo 33 = .ok (.iload_n 3, 1) := by decide +kernel
theorem dX12_comesTo_34 : decode cX12_comesTo 34 = .ok (.bipush 6, 2) := by decide +kernel
theorem dX12_comesTo_36 : decode cX12_comesTo 36 = .ok (.iadd, 1) := by decide +kernel
theorem dX12_comesTo_37 : decode cX12_comesTo 37 = .ok (.aload_n 0, 1) := by decide +kernel
theorem dX12_comesTo_38 : decode cX12_comesTo 38 = .ok (.getfield 9, 3) := by decide +kernel
theorem dX12_comesTo_41 : decode cX12_comesTo 41 = .ok (.iconst 0, 1) := by decide +kernel
theorem dX12_comesTo_42 : decode cX12_comesTo 42 = .ok (.iaload, 1) := by decide +kernel
theorem dX12_comesTo_43 : decode cX12_comesTo 43 = .ok (.iconst 1, 1) := by decide +kernel
theorem dX12_comesTo_44 : decode cX12_comesTo 44 = .ok (.iadd, 1) := by decide +kernel
theorem dX12_comesTo_45 : decode cX12_comesTo 45 = .ok (.iastore, 1) := by decide +kernel
theorem dX12_comesTo_46 : decode cX12_comesTo 46 = .ok (.aload_n 0, 1) := by decide +kernel
theorem dX12_comesTo_47 : decode cX12_comesTo 47 = .ok (.getfield 9, 3) := by decide +kernel
theorem dX12_comesTo_50 : decode cX12_comesTo 50 = .ok (.sipush 183, 3) := by decide +kernel
theorem dX12_comesTo_53 : decode cX12_comesTo 53 = .ok (.aload_n 0, 1) := by decide +kernel
theorem dX12_comesTo_54 : decode cX12_comesTo 54 = .ok (.getfield 9, 3) := by decide +kernel
theorem dX12_comesTo_57 : decode cX12_comesTo 57 = .ok (.iconst 4, 1) := by decide +kernel
theorem dX12_comesTo_58 : decode cX12_comesTo 58 = .ok (.iaload, 1) := by decide +kernel
theorem dX12_comesTo_59 : decode cX12_comesTo 59 = .ok (.iadd, 1) := by decide +kernel
theorem dX12_comesTo_60 : decode cX12_comesTo 60 = .ok (.iload_n 1, 1) := by decide +kernel
theorem dX12_comesTo_61 : decode cX12_comesTo 61 = .ok (.iastore, 1) := by decide +kernel
theorem dX12_comesTo_62 : decode cX12_comesTo 62 = .ok (.aload_n 0, 1) := by decide +kernel
theorem dX12_comesTo_63 : decode cX12_comesTo 63 = .ok (.getfield 9, 3) := by decide +kernel
theorem dX12_comesTo_66 : decode cX12_comesTo 66 = .ok (.iconst 4, 1) := by decide +kernel
theorem dX12_comesTo_67 : decode cX12_comesTo 67 = .ok (.dup2, 1) := by decide +kernel
theorem dX12_comesTo_68 : decode cX12_comesTo 68 = .ok (.iaload, 1) := by decide +kernel
theorem dX12_comesTo_69 : decode cX12_comesTo 69 = .ok (.iconst 1, 1) := by decide +kernel
theorem dX12_comesTo_70 : decode cX12_comesTo 70 = .ok (.iadd, 1) := by decide +kernel
theorem dX12_comesTo_71 : decode cX12_comesTo 71 = .ok (.iastore, 1) := by decide +kernel
theorem dX12_comesTo_72 : decode cX12_comesTo 72 = .ok (.aload_n 0, 1) := by decide +kernel
theorem dX12_comesTo_73 : decode cX12_comesTo 73 = .ok (.iconst 1, 1) := by decide +kernel
theorem dX12_comesTo_74 : decode cX12_comesTo 74 = .ok (.aload_n 0, 1) := by decide +kernel
theorem dX12_comesTo_75 : decode cX12_comesTo 75 = .ok (.getfield 9, 3) := by decide +kernel
theorem dX12_comesTo_78 : decode cX12_comesTo 78 = .ok (.iconst 0, 1) := by decide +kernel
theorem dX12_comesTo_79 : decode cX12_comesTo 79 = .ok (.iaload, 1) := by decide +kernel
theorem dX12_comesTo_80 : decode cX12_comesTo 80 = .ok (.iconst 1, 1) := by decide +kernel
theorem dX12_comesTo_81 : decode cX12_comesTo 81 = .ok (.iadd, 1) := by decide +kernel
theorem dX12_comesTo_82 : decode cX12_comesTo 82 = .ok (.aload_n 0, 1) := by decide +kernel
theorem dX12_comesTo_83 : decode cX12_comesTo 83 = .ok (.getfield 9, 3) := by decide +kernel
theorem dX12_comesTo_86 : decode cX12_comesTo 86 = .ok (.iload_n 3, 1) := by decide +kernel
theorem dX12_comesTo_87 : decode cX12_comesTo 87 = .ok (.iconst 4, 1) := by decide +kernel
theorem dX12_comesTo_88 : decode cX12_comesTo 88 = .ok (.iadd, 1) := by decide +kernel
theorem dX12_comesTo_89 : decode cX12_comesTo 89 = .ok (.iaload, 1) := by decide +kernel
theorem dX12_comesTo_90 : decode cX12_comesTo 90 = .ok (.isub, 1) := by decide +kernel
theorem dX12_comesTo_91 : decode cX12_comesTo 91 = .ok (.aload_n 0, 1) := by decide +kernel
theorem dX12_comesTo_92 : decode cX12_comesTo 92 = .ok (.getfield 9, 3) := by decide +kernel
theorem dX12_comesTo_95 : decode cX12_comesTo 95 = .ok (.iload_n 3, 1) := by decide +kernel
theorem dX12_comesTo_96 : decode cX12_comesTo 96 = .ok (.iconst 2, 1) := by decide +kernel
theorem dX12_comesTo_97 : decode cX12_comesTo 97 = .ok (.iadd, 1) := by decide +kernel
theorem dX12_comesTo_98 : decode cX12_comesTo 98 = .ok (.iaload, 1) := by decide +kernel
theorem dX12_comesTo_99 : decode cX12_comesTo 99 = .ok (.iconst 0, 1) := by decide +kernel
theorem dX12_comesTo_100 : decode cX12_comesTo 100 = .ok (.iconst 0, 1) := by decide +kernel
theorem dX12_comesTo_101 : decode cX12_comesTo 101 = .ok (.invokevirtual 146, 3) := by decide +kernel
theorem dX12_comesTo_104 : decode cX12_comesTo 104 = .ok (.istore 4, 2) := by decide +kernel
theorem dX12_comesTo_106 : decode cX12_comesTo 106 = .ok (.aload_n 0, 1) := by decide +kernel
theorem dX12_comesTo_107 : decode cX12_comesTo 107 = .ok (.getfield 9, 3) := by decide +kernel
theorem dX12_comesTo_110 : decode cX12_comesTo 110 = .ok (.iconst 5, 1) := by decide +kernel
theorem dX12_comesTo_111 : decode cX12_comesTo 111 = .ok (.ldc_w 258, 3) := by decide +kernel
theorem dX12_comesTo_114 : decode cX12_comesTo 114 = .ok (.aload_n 0, 1) := by decide +kernel
theorem dX12_comesTo_115 : decode cX12_comesTo 115 = .ok (.getfield 9, 3) := by decide +kernel
theorem dX12_comesTo_118 : decode cX12_comesTo 118 = .ok (.iconst 5, 1) := by decide +kernel
theorem dX12_comesTo_119 : decode cX12_comesTo 119 = .ok (.iaload, 1) := by decide +kernel
theorem dX12_comesTo_120 : decode cX12_comesTo 120 = .ok (.iload 4, 2) := by decide +kernel
theorem dX12_comesTo_122 : decode cX12_comesTo 122 = .ok (.iadd, 1) := by decide +kernel
theorem dX12_comesTo_123 : decode cX12_comesTo 123 = .ok (.invokestatic 66, 3) := by decide +kernel
theorem dX12_comesTo_126 : decode cX12_comesTo 126 = .ok (.iastore, 1) := by decide +kernel
theorem dX12_comesTo_127 : decode cX12_comesTo 127 = .ok (.return_, 1) := by decide +kernel
theorem dX12_hour_0 : decode cX12_hour 0 = .ok (.aload_n 0, 1) := by decide +kernel
theorem dX12_hour_1 : decode cX12_hour 1 = .ok (.aload_n 0, 1) := by decide +kernel
theorem dX12_hour_2 : decode cX12_hour 2 = .ok (.invokevirtual 252, 3) := by decide +kernel
theorem dX12_hour_5 : decode cX12_hour 5 = .ok (.invokevirtual 255, 3) := by decide +kernel
theorem dX12_hour_8 : decode cX12_hour 8 = .ok (.istore_n 1, 1) := by decide +kernel
theorem dX12_hour_9 : decode cX12_hour 9 = .ok (.iconst 0, 1) := by decide +kernel
theorem dX12_hour_10 : decode cX12_hour 10 = .ok (.istore_n 2, 1) := by decide +kernel
theorem dX12_hour_11 : decode cX12_hour 11 = .ok (.iconst 0, 1) := by decide +kernel
theorem dX12_hour_12 : decode cX12_hour 12 = .ok (.istore_n 3, 1) := by decide +kernel
theorem dX12_hour_13 : decode cX12_hour 13 = .ok (.iload_n 3, 1) := by decide +kernel
theorem dX12_hour_14 : decode cX12_hour 14 = .ok (.aload_n 0, 1) := by decide +kernel
theorem dX12_hour_15 : decode cX12_hour 15 = .ok (.getfield 9, 3) := by decide +kernel
theorem dX12_hour_18 : decode cX12_hour 18 = .ok (.iconst 2, 1) := by decide +kernel
theorem dX12_hour_19 : decode cX12_hour 19 = .ok (.iaload, 1) := by decide +kernel
theorem dX12_hour_20 : decode cX12_hour 20 = .ok (.if_icmp .ge 26, 3) := by decide +kernel
theorem dX12_hour_23 : decode cX12_hour 23 = .ok (.iload_n 1, 1) := by decide +kernel
theorem dX12_hour_24 : decode cX12_hour 24 = .ok (.iload_n 3, 1) := by decide +kernel
theorem dX12_hour_25 : decode cX12_hour 25 = .ok (.invokestatic 246, 3) := by decide +kernel
theorem dX12_hour_28 : decode cX12_hour 28 = .ok (.ifCond .eq 12, 3) := by decide +kernel
theorem dX12_hour_31 : decode cX12_hour 31 = .ok (.iload_n 2, 1) := by decide +kernel
theorem dX12_hour_32 : decode cX12_hour 32 = .ok (.aload_n 0, 1) := by decide +kernel
theorem dX12_hour_33 : decode cX12_hour 33 = .ok (.iload_n 3, 1) := by decide +kernel
theorem dX12_hour_34 : decode cX12_hour 34 = .ok (.iload_n 2, 1) := by decide +kernel
theorem dX12_hour_35 : decode cX12_hour 35 = .ok (.invokevirtual 259, 3) := by decide +kernel
theorem dX12_hour_38 : decode cX12_hour 38 = .ok (.ior, 1) := by decide +kernel
theorem dX12_hour_39 : decode cX12_hour 39 = .ok (.istore_n 2, 1) := by decide +kernel
theorem dX12_hour_40 : decode cX12_hour 40 = .ok (.iinc 3 1, 3) := by decide +kernel
theorem dX12_hour_43 : decode cX12_hour 43 = .ok (.goto (-30), 3) := by decide +kernel
theorem dX12_hour_46 : decode cX12_hour 46 = .ok (.aload_n 0, 1) := by decide +kernel
theorem dX12_hour_47 : decode cX12_hour 47 = .ok (.getfield 9, 3) := by decide +kernel
theorem dX12_hour_50 : decode cX12_hour 50 = .ok (.iconst 0, 1) := by decide +kernel
theorem dX12_hour_51 : decode cX12_hour 51 = .ok (.dup2, 1) := by decide +kernel
theorem dX12_hour_52 : decode cX12_hour 52 = .ok (.iaload, 1) := by decide +kernel
theorem dX12_hour_53 : decode cX12_hour 53 = .ok (.iconst 1, 1) := by decide +kernel
theorem dX12_hour_54 : decode cX12_hour 54 = .ok (.iadd, 1) := by decide +kernel
theorem dX12_hour_55 : decode cX12_hour 55 = .ok (.iastore, 1) := by decide +kernel
theorem dX12_hour_56 : decode cX12_hour 56 = .ok (.return_, 1) := by decide +kernel
theorem dX12_takesUp_0 : decode cX12_takesUp 0 = .ok (.aload_n 0, 1) := by decide +kernel
theorem dX12_takesUp_1 : decode cX12_takesUp 1 = .ok (.aload_n 0, 1) := by decide +kernel
theorem dX12_takesUp_2 : decode cX12_takesUp 2 = .ok (.iload_n 1, 1) := by decide +kernel
theorem dX12_takesUp_3 : decode cX12_takesUp 3 = .ok (.iconst 2, 1) := by decide +kernel
theorem dX12_takesUp_4 : decode cX12_takesUp 4 = .ok (.invokevirtual 117, 3) := by decide +kernel
theorem dX12_takesUp_7 : decode cX12_takesUp 7 = .ok (.invokevirtual 104, 3) := by decide +kernel
theorem dX12_takesUp_10 : decode cX12_takesUp 10 = .ok (.iload_n 2, 1) := by decide +kernel
theorem dX12_takesUp_11 : decode cX12_takesUp 11 = .ok (.iconst (-1), 1) := by decide +kernel
theorem dX12_takesUp_12 : decode cX12_takesUp 12 = .ok (.ixor, 1) := by decide +kernel
theorem dX12_takesUp_13 : decode cX12_takesUp 13 = .ok (.iand, 1) := by decide +kernel
theorem dX12_takesUp_14 : decode cX12_takesUp 14 = .ok (.istore_n 3, 1) := by decide +kernel
theorem dX12_takesUp_15 : decode cX12_takesUp 15 = .ok (.aload_n 0, 1) := by decide +kernel
theorem dX12_takesUp_16 : decode cX12_takesUp 16 = .ok (.iload_n 1, 1) := by decide +kernel
theorem dX12_takesUp_17 : decode cX12_takesUp 17 = .ok (.iconst 5, 1) := by decide +kernel
theorem dX12_takesUp_18 : decode cX12_takesUp 18 = .ok (.invokevirtual 117, 3) := by decide +kernel
theorem dX12_takesUp_21 : decode cX12_takesUp 21 = .ok (.istore 4, 2) := by decide +kernel
theorem dX12_takesUp_23 : decode cX12_takesUp 23 = .ok (.iconst 0, 1) := by decide +kernel
theorem dX12_takesUp_24 : decode cX12_takesUp 24 = .ok (.istore 5, 2) := by decide +kernel
theorem dX12_takesUp_26 : decode cX12_takesUp 26 = .ok (.iconst 0, 1) := by decide +kernel
theorem dX12_takesUp_27 : decode cX12_takesUp 27 = .ok (.istore 6, 2) := by decide +kernel
theorem dX12_takesUp_29 : decode cX12_takesUp 29 = .ok (.iconst 0, 1) := by decide +kernel
theorem dX12_takesUp_30 : decode cX12_takesUp 30 = .ok (.istore 7, 2) := by decide +kernel
theorem dX12_takesUp_32 : decode cX12_takesUp 32 = .ok (.iload 7, 2) := by decide +kernel
theorem dX12_takesUp_34 : decode cX12_takesUp 34 = .ok (.aload_n 0, 1) := by decide +kernel
theorem dX12_takesUp_35 : decode cX12_takesUp 35 = .ok (.getfield 9, 3) := by decide +kernel
theorem dX12_takesUp_38 : decode cX12_takesUp 38 = .ok (.iconst 3, 1) := by decide +kernel
theorem dX12_takesUp_39 : decode cX12_takesUp 39 = .ok (.iaload, 1) := by decide +kernel
theorem dX12_takesUp_40 : decode cX12_takesUp 40 = .ok (.if_icmp .ge 67, 3) := by decide +kernel
theorem dX12_takesUp_43 : decode cX12_takesUp 43 = .ok (.iload_n 3, 1) := by decide +kernel
theorem dX12_takesUp_44 : decode cX12_takesUp 44 = .ok (.iload 7, 2) := by decide +kernel
theorem dX12_takesUp_46 : decode cX12_takesUp 46 = .ok (.invokestatic 246, 3) := by decide +kernel
theorem dX12_takesUp_49 : decode cX12_takesUp 49 = .ok (.ifCond .eq 52, 3) := by decide +kernel
theorem dX12_takesUp_52 : decode cX12_takesUp 52 = .ok (.aload_n 0, 1) := by decide +kernel
theorem dX12_takesUp_53 : decode cX12_takesUp 53 = .ok (.iload_n 1, 1) := by decide +kernel
theorem dX12_takesUp_54 : decode cX12_takesUp 54 = .ok (.iload 4, 2) := by decide +kernel
theorem dX12_takesUp_56 : decode cX12_takesUp 56 = .ok (.iload 5, 2) := by decide +kernel
theorem dX12_takesUp_58 : decode cX12_takesUp 58 = .ok (.aload_n 0, 1) := by decide +kernel
theorem dX12_takesUp_59 : decode cX12_takesUp 59 = .ok (.iload 7, 2) := by decide +kernel
theorem dX12_takesUp_61 : decode cX12_takesUp 61 = .ok (.iconst 2, 1) := by decide +kernel
theorem dX12_takesUp_62 : decode cX12_takesUp 62 = .ok (.invokevirtual 97, 3) := by decide +kernel
theorem dX12_takesUp_65 : decode cX12_takesUp 65 = .ok (.iadd, 1) := by decide +kernel
theorem dX12_takesUp_66 : decode cX12_takesUp 66 = .ok (.invokevirtual 159, 3) := by decide +kernel
theorem dX12_takesUp_69 : decode cX12_takesUp 69 = .ok (.ifCond .eq 32, 3) := by decide +kernel
theorem dX12_takesUp_72 : decode cX12_takesUp 72 = .ok (.iload 5, 2) := by decide +kernel
theorem dX12_takesUp_74 : decode cX12_takesUp 74 = .ok (.aload_n 0, 1) := by decide +kernel
theorem dX12_takesUp_75 : decode cX12_takesUp 75 = .ok (.iload 7, 2) := by decide +kernel
theorem dX12_takesUp_77 : decode cX12_takesUp 77 = .ok (.iconst 2, 1) := by decide +kernel
theorem dX12_takesUp_78 : decode cX12_takesUp 78 = .ok (.invokevirtual 97, 3) := by decide +kernel
theorem dX12_takesUp_81 : decode cX12_takesUp 81 = .ok (.iadd, 1) := by decide +kernel
theorem dX12_takesUp_82 : decode cX12_takesUp 82 = .ok (.istore 5, 2) := by decide +kernel
theorem dX12_takesUp_84 : decode cX12_takesUp 84 = .ok (.iload 6, 2) := by decide +kernel
theorem dX12_takesUp_86 : decode cX12_takesUp 86 = .ok (.iconst 1, 1) := by decide +kernel
theorem dX12_takesUp_87 : decode cX12_takesUp 87 = .ok (.iload 7, 2) := by decide +kernel
theorem dX12_takesUp_89 : decode cX12_takesUp 89 = .ok (.ishl, 1) := by decide +kernel
theorem dX12_takesUp_90 : decode cX12_takesUp 90 = .ok (.ior, 1) := by decide +kernel
theorem dX12_takesUp_91 : decode cX12_takesUp 91 = .ok (.istore 6, 2) := by decide +kernel
theorem dX12_takesUp_93 : decode cX12_takesUp 93 = .ok (.aload_n 0, 1) := by decide +kernel
theorem dX12_takesUp_94 : decode cX12_takesUp 94 = .ok (.iload 7, 2) := by decide +kernel
theorem dX12_takesUp_96 : decode cX12_takesUp 96 = .ok (.iload 4, 2) := by decide +kernel
theorem dX12_takesUp_98 : decode cX12_takesUp 98 = .ok (.invokevirtual 262, 3) := by decide +kernel
theorem dX12_takesUp_101 : decode cX12_takesUp 101 = .ok (.iinc 7 1, 3) := by decide +kernel
theorem dX12_takesUp_104 : decode cX12_takesUp 104 = .ok (.goto (-72), 3) := by decide +kernel
theorem dX12_takesUp_107 : decode cX12_takesUp 107 = .ok (.iload 6, 2) := by decide +kernel
theorem dX12_takesUp_109 : decode cX12_takesUp 109 = .ok (.ireturn, 1) := by decide +kernel
theorem dX12_hoursGo_0 : decode cX12_hoursGo 0 = .ok (.iconst 0, 1) := by decide +kernel
theorem dX12_hoursGo_1 : decode cX12_hoursGo 1 = .ok (.istore_n 2, 1) := by decide +kernel
theorem dX12_hoursGo_2 : decode cX12_hoursGo 2 = .ok (.iload_n 2, 1) := by decide +kernel
theorem dX12_hoursGo_3 : decode cX12_hoursGo 3 = .ok (.iload_n 1, 1) := by decide +kernel
theorem dX12_hoursGo_4 : decode cX12_hoursGo 4 = .ok (.if_icmp .ge 13, 3) := by decide +kernel
theorem dX12_hoursGo_7 : decode cX12_hoursGo 7 = .ok (.aload_n 0, 1) := by decide +kernel
theorem dX12_hoursGo_8 : decode cX12_hoursGo 8 = .ok (.invokevirtual 266, 3) := by decide +kernel
theorem dX12_hoursGo_11 : decode cX12_hoursGo 11 = .ok (.iinc 2 1, 3) := by decide +kernel
theorem dX12_hoursGo_14 : decode cX12_hoursGo 14 = .ok (.goto (-12), 3) := by decide +kernel
theorem dX12_hoursGo_17 : decode cX12_hoursGo 17 = .ok (.return_, 1) := by decide +kernel
theorem dX12_isSpan_0 : decode cX12_isSpan 0 = .ok (.iload_n 0, 1) := by decide +kernel
theorem dX12_isSpan_1 : decode cX12_isSpan 1 = .ok (.iconst 1, 1) := by decide +kernel
theorem dX12_isSpan_2 : decode cX12_isSpan 2 = .ok (.bipush 72, 2) := by decide +kernel
theorem dX12_isSpan_4 : decode cX12_isSpan 4 = .ok (.invokestatic 75, 3) := by decide +kernel
theorem dX12_isSpan_7 : decode cX12_isSpan 7 = .ok (.ireturn, 1) := by decide +kernel
theorem dX12_hours_0 : decode cX12_hours 0 = .ok (.iload_n 1, 1) := by decide +kernel
theorem dX12_hours_1 : decode cX12_hours 1 = .ok (.invokestatic 269, 3) := by decide +kernel
theorem dX12_hours_4 : decode cX12_hours 4 = .ok (.ifCond .ne 10, 3) := by decide +kernel
theorem dX12_hours_7 : decode cX12_hours 7 = .ok (.aload_n 0, 1) := by decide +kernel
theorem dX12_hours_8 : decode cX12_hours 8 = .ok (.ldc 83, 2) := by decide +kernel
theorem dX12_hours_10 : decode cX12_hours 10 = .ok (.invokevirtual 84, 3) := by decide +kernel
theorem dX12_hours_13 : decode cX12_hours 13 = .ok (.ireturn, 1) := by decide +kernel
theorem dX12_hours_14 : decode cX12_hours 14 = .ok (.aload_n 0, 1) := by decide +kernel
theorem dX12_hours_15 : decode cX12_hours 15 = .ok (.getfield 9, 3) := by decide +kernel
theorem dX12_hours_18 : decode cX12_hours 18 = .ok (.iconst 0, 1) := by decide +kernel
theorem dX12_hours_19 : decode cX12_hours 19 = .ok (.iaload, 1) := by decide +kernel
theorem dX12_hours_20 : decode cX12_hours 20 = .ok (.iload_n 1, 1) := by decide +kernel
theorem dX12_hours_21 : decode cX12_hours 21 = .ok (.iadd, 1) := by decide +kernel
theorem dX12_hours_22 : decode cX12_hours 22 = .ok (.sipush 9999, 3) := by decide +kernel
theorem dX12_hours_25 : decode cX12_hours 25 = .ok (.if_icmp .le 10, 3) := by decide +kernel
theorem dX12_hours_28 : decode cX12_hours 28 = .ok (.aload_n 0, 1) := by decide +kernel
theorem dX12_hours_29 : decode cX12_hours 29 = .ok (.ldc 92, 2) := by decide +kernel
theorem dX12_hours_31 : decode cX12_hours 31 = .ok (.invokevirtual 84, 3) := by decide +kernel
theorem dX12_hours_34 : decode cX12_hours 34 = .ok (.ireturn, 1) := by decide +kernel
theorem dX12_hours_35 : decode cX12_hours 35 = .ok (.aload_n 0, 1) := by decide +kernel
theorem dX12_hours_36 : decode cX12_hours 36 = .ok (.iload_n 1, 1) := by decide +kernel
theorem dX12_hours_37 : decode cX12_hours 37 = .ok (.invokevirtual 272, 3) := by decide +kernel
theorem dX12_hours_40 : decode cX12_hours 40 = .ok (.aload_n 0, 1) := by decide +kernel
theorem dX12_hours_41 : decode cX12_hours 41 = .ok (.getfield 9, 3) := by decide +kernel
theorem dX12_hours_44 : decode cX12_hours 44 = .ok (.iconst 0, 1) := by decide +kernel
theorem dX12_hours_45 : decode cX12_hours 45 = .ok (.iaload, 1) := by decide +kernel
theorem dX12_hours_46 : decode cX12_hours 46 = .ok (.ireturn, 1) := by decide +kernel
theorem dX12_drawn_0 : decode cX12_drawn 0 = .ok (.aload_n 0, 1) := by decide +kernel
theorem dX12_drawn_1 : decode cX12_drawn 1 = .ok (.getfield 9, 3) := by decide +kernel
theorem dX12_drawn_4 : decode cX12_drawn 4 = .ok (.bipush 8, 2) := by decide +kernel
theorem dX12_drawn_6 : decode cX12_drawn 6 = .ok (.aload_n 0, 1) := by decide +kernel
theorem dX12_drawn_7 : decode cX12_drawn 7 = .ok (.getfield 9, 3) := by decide +kernel
theorem dX12_drawn_10 : decode cX12_drawn 10 = .ok (.bipush 8, 2) := by decide +kernel
theorem dX12_drawn_12 : decode cX12_drawn 12 = .ok (.iaload, 1) := by decide +kernel
theorem dX12_drawn_13 : decode cX12_drawn 13 = .ok (.ldc_w 275, 3) := by decide +kernel
theorem dX12_drawn_16 : decode cX12_drawn 16 = .ok (.imul, 1) := by decide +kernel
theorem dX12_drawn_17 : decode cX12_drawn 17 = .ok (.sipush 12345, 3) := by decide +kernel
theorem dX12_drawn_20 : decode cX12_drawn 20 = .ok (.iadd, 1) := by decide +kernel
theorem dX12_drawn_21 : decode cX12_drawn 21 = .ok (.iastore, 1) := by decide +kernel
theorem dX12_drawn_22 : decode cX12_drawn 22 = .ok (.aload_n 0, 1) := by decide +kernel
theorem dX12_drawn_23 : decode cX12_drawn 23 = .ok (.getfield 9, 3) := by decide +kernel
theorem dX12_drawn_26 : decode cX12_drawn 26 = .ok (.bipush 8, 2) := by decide +kernel
theorem dX12_drawn_28 : decode cX12_drawn 28 = .ok (.iaload, 1) := by decide +kernel
theorem dX12_drawn_29 : decode cX12_drawn 29 = .ok (.bipush 8, 2) := by decide +kernel
theorem dX12_drawn_31 : decode cX12_drawn 31 = .ok (.iushr, 1) := by decide +kernel
theorem dX12_drawn_32 : decode cX12_drawn 32 = .ok (.iload_n 1, 1) := by decide +kernel
theorem dX12_drawn_33 : decode cX12_drawn 33 = .ok (.irem, 1) := by decide +kernel
theorem dX12_drawn_34 : decode cX12_drawn 34 = .ok (.ireturn, 1) := by decide +kernel
theorem dX12_loose_0 : decode cX12_loose 0 = .ok (.iload_n 1, 1) := by decide +kernel
theorem dX12_loose_1 : decode cX12_loose 1 = .ok (.invokestatic 269, 3) := by decide +kernel
theorem dX12_loose_4 : decode cX12_loose 4 = .ok (.ifCond .eq 13, 3) := by decide +kernel
theorem dX12_loose_7 : decode cX12_loose 7 = .ok (.iload_n 2, 1) := by decide +kernel
theorem dX12_loose_8 : decode cX12_loose 8 = .ok (.iconst 0, 1) := by decide +kernel
theorem dX12_loose_9 : decode cX12_loose 9 = .ok (.bipush 10, 2) := by decide +kernel
theorem dX12_loose_11 : decode cX12_loose 11 = .ok (.invokestatic 75, 3) := by decide +kernel
theorem dX12_loose_14 : decode cX12_loose 14 = .ok (.ifCond .ne 10, 3) := by decide +kernel
theorem dX12_loose_17 : decode cX12_loose 17 = .ok (.aload_n 0, 1) := by decide +kernel
theorem dX12_loose_18 : decode cX12_loose 18 = .ok (.ldc 83, 2) := by decide +kernel
theorem dX12_loose_20 : decode cX12_loose 20 = .ok (.invokevirtual 84, 3) := by decide +kernel
theorem dX12_loose_23 : decode cX12_loose 23 = .ok (.ireturn, 1) := by decide +kernel
theorem dX12_loose_24 : decode cX12_loose 24 = .ok (.aload_n 0, 1) := by decide +kernel
theorem dX12_loose_25 : decode cX12_loose 25 = .ok (.getfield 9, 3) := by decide +kernel
theorem dX12_loose_28 : decode cX12_loose 28 = .ok (.iconst 0, 1) := by decide +kernel
theorem dX12_loose_29 : decode cX12_loose 29 = .ok (.iaload, 1) := by decide +kernel
theorem dX12_loose_30 : decode cX12_loose 30 = .ok (.iload_n 1, 1) := by decide +kernel
theorem dX12_loose_31 : decode cX12_loose 31 = .ok (.iadd, 1) := by decide +kernel
theorem dX12_loose_32 : decode cX12_loose 32 = .ok (.sipush 9999, 3) := by decide +kernel
theorem dX12_loose_35 : decode cX12_loose 35 = .ok (.if_icmp .le 10, 3) := by decide +kernel
theorem dX12_loose_38 : decode cX12_loose 38 = .ok (.aload_n 0, 1) := by decide +kernel
theorem dX12_loose_39 : decode cX12_loose 39 = .ok (.ldc 92, 2) := by decide +kernel
theorem dX12_loose_41 : decode cX12_loose 41 = .ok (.invokevirtual 84, 3) := by decide +kernel
theorem dX12_loose_44 : decode cX12_loose 44 = .ok (.ireturn, 1) := by decide +kernel
theorem dX12_loose_45 : decode cX12_loose 45 = .ok (.iconst 0, 1) := by decide +kernel
theorem dX12_loose_46 : decode cX12_loose 46 = .ok (.istore_n 3, 1) := by decide +kernel
theorem dX12_loose_47 : decode cX12_loose 47 = .ok (.iload_n 3, 1) := by decide +kernel
theorem dX12_loose_48 : decode cX12_loose 48 = .ok (.iload_n 1, 1) := by decide +kernel
theorem dX12_loose_49 : decode cX12_loose 49 = .ok (.if_icmp .ge 36, 3) := by decide +kernel
theorem dX12_loose_52 : decode cX12_loose 52 = .ok (.aload_n 0, 1) := by decide +kernel
theorem dX12_loose_53 : decode cX12_loose 53 = .ok (.bipush 10, 2) := by decide +kernel
theorem dX12_loose_55 : decode cX12_loose 55 = .ok (.invokevirtual 276, 3) := by decide +kernel
theorem dX12_loose_58 : decode cX12_loose 58 = .ok (.iload_n 2, 1) := by decide +kernel
theorem dX12_loose_59 : decode cX12_loose 59 = .ok (.if_icmp .ge 16, 3) := by decide +kernel
theorem dX12_loose_62 : decode cX12_loose 62 = .ok (.aload_n 0, 1) := by decide +kernel
theorem dX12_loose_63 : decode cX12_loose 63 = .ok (.getfield 9, 3) := by decide +kernel
theorem dX12_loose_66 : decode cX12_loose 66 = .ok (.iconst 0, 1) := by decide +kernel
theorem dX12_loose_67 : decode cX12_loose 67 = .ok (.dup2, 1) := by decide +kernel
theorem dX12_loose_68 : decode cX12_loose 68 = .ok (.iaload, 1) := by decide +kernel
theorem dX12_loose_69 : decode cX12_loose 69 = .ok (.iconst 1, 1) := by decide +kernel
theorem dX12_loose_70 : decode cX12_loose 70 = .ok (.iadd, 1) := by decide +kernel
theorem dX12_loose_71 : decode cX12_loose 71 = .ok (.iastore, 1) := by decide +kernel
theorem dX12_loose_72 : decode cX12_loose 72 = .ok (.goto 7, 3) := by decide +kernel
theorem dX12_loose_75 : decode cX12_loose 75 = .ok (.aload_n 0, 1) := by decide +kernel
theorem dX12_loose_76 : decode cX12_loose 76 = .ok (.invokevirtual 266, 3) := by decide +kernel
theorem dX12_loose_79 : decode cX12_loose 79 = .ok (.iinc 3 1, 3) := by decide +kernel
theorem dX12_loose_82 : decode cX12_loose 82 = .ok (.goto (-35), 3) := by decide +kernel
theorem dX12_loose_85 : decode cX12_loose 85 = .ok (.aload_n 0, 1) := by decide +kernel
theorem dX12_loose_86 : decode cX12_loose 86 = .ok (.getfield 9, 3) := by decide +kernel
theorem dX12_loose_89 : decode cX12_loose 89 = .ok (.iconst 0, 1) := by decide +kernel
theorem dX12_loose_90 : decode cX12_loose 90 = .ok (.iaload, 1) := by decide +kernel
theorem dX12_loose_91 : decode cX12_loose 91 = .ok (.ireturn, 1) := by decide +kernel
theorem dX12_isAhead_0 : decode cX12_isAhead 0 = .ok (.iload_n 0, 1) := by decide +kernel
theorem dX12_isAhead_1 : decode cX12_isAhead 1 = .ok (.iconst 0, 1) := by decide +kernel
theorem dX12_isAhead_2 : decode cX12_isAhead 2 = .ok (.bipush 72, 2) := by decide +kernel
theorem dX12_isAhead_4 : decode cX12_isAhead 4 = .ok (.invokestatic 75, 3) := by decide +kernel
theorem dX12_isAhead_7 : decode cX12_isAhead 7 = .ok (.ireturn, 1) := by decide +kernel
theorem dX12_then_0 : decode cX12_then 0 = .ok (.iload_n 1, 1) := by decide +kernel
theorem dX12_then_1 : decode cX12_then 1 = .ok (.invokestatic 279, 3) := by decide +kernel
theorem dX12_then_4 : decode cX12_then 4 = .ok (.ifCond .eq 12, 3) := by decide +kernel
theorem dX12_then_7 : decode cX12_then 7 = .ok (.iload_n 2, 1) := by decide +kernel
theorem dX12_then_8 : decode cX12_then 8 = .ok (.iconst 0, 1) := by decide +kernel
theorem dX12_then_9 : decode cX12_then 9 = .ok (.iconst 1, 1) := by decide +kernel
theorem dX12_then_10 : decode cX12_then 10 = .ok (.invokestatic 75, 3) := by decide +kernel
theorem dX12_then_13 : decode cX12_then 13 = .ok (.ifCond .ne 10, 3) := by decide +kernel
theorem dX12_then_16 : decode cX12_then 16 = .ok (.aload_n 0, 1) := by decide +kernel
theorem dX12_then_17 : decode cX12_then 17 = .ok (.ldc 83, 2) := by decide +kernel
theorem dX12_then_19 : decode cX12_then 19 = .ok (.invokevirtual 84, 3) := by decide +kernel
theorem dX12_then_22 : decode cX12_then 22 = .ok (.ireturn, 1) := by decide +kernel
theorem dX12_then_23 : decode cX12_then 23 = .ok (.aload_n 0, 1) := by decide +kernel
theorem dX12_then_24 : decode cX12_then 24 = .ok (.getfield 9, 3) := by decide +kernel
theorem dX12_then_27 : decode cX12_then 27 = .ok (.aload_n 0, 1) := by decide +kernel
theorem dX12_then_28 : decode cX12_then 28 = .ok (.getfield 16, 3) := by decide +kernel
theorem dX12_then_31 : decode cX12_then 31 = .ok (.invokestatic 79, 3) := by decide +kernel
theorem dX12_then_34 : decode cX12_then 34 = .ok (.aload_n 0, 1) := by decide +kernel
theorem dX12_then_35 : decode cX12_then 35 = .ok (.iload_n 1, 1) := by decide +kernel
theorem dX12_then_36 : decode cX12_then 36 = .ok (.invokevirtual 272, 3) := by decide +kernel
theorem dX12_then_39 : decode cX12_then 39 = .ok (.aload_n 0, 1) := by decide +kernel
theorem dX12_then_40 : decode cX12_then 40 = .ok (.aload_n 0, 1) := by decide +kernel
theorem dX12_then_41 : decode cX12_then 41 = .ok (.getfield 9, 3) := by decide +kernel
theorem dX12_then_44 : decode cX12_then 44 = .ok (.iconst 4, 1) := by decide +kernel
theorem dX12_then_45 : decode cX12_then 45 = .ok (.iload_n 2, 1) := by decide +kernel
theorem dX12_then_46 : decode cX12_then 46 = .ok (.iadd, 1) := by decide +kernel
theorem dX12_then_47 : decode cX12_then 47 = .ok (.iaload, 1) := by decide +kernel
theorem dX12_then_48 : decode cX12_then 48 = .ok (.invokevirtual 282, 3) := by decide +kernel
theorem dX12_then_51 : decode cX12_then 51 = .ok (.ireturn, 1) := by decide +kernel
theorem dX12_where_0 : decode cX12_where 0 = .ok (.iload_n 1, 1) := by decide +kernel
theorem dX12_where_1 : decode cX12_where 1 = .ok (.invokestatic 279, 3) := by decide +kernel
theorem dX12_where_4 : decode cX12_where 4 = .ok (.ifCond .eq 22, 3) := by decide +kernel
theorem dX12_where_7 : decode cX12_where 7 = .ok (.aload_n 0, 1) := by decide +kernel
theorem dX12_where_8 : decode cX12_where 8 = .ok (.iload_n 2, 1) := by decide +kernel
theorem dX12_where_9 : decode cX12_where 9 = .ok (.iconst 3, 1) := by decide +kernel
theorem dX12_where_10 : decode cX12_where 10 = .ok (.invokevirtual 100, 3) := by decide +kernel
theorem dX12_where_13 : decode cX12_where 13 = .ok (.ifCond .eq 13, 3) := by decide +kernel
theorem dX12_where_16 : decode cX12_where 16 = .ok (.iload_n 3, 1) := by decide +kernel
theorem dX12_where_17 : decode cX12_where 17 = .ok (.iconst 5, 1) := by decide +kernel
theorem dX12_where_18 : decode cX12_where 18 = .ok (.bipush 6, 2) := by decide +kernel
theorem dX12_where_20 : decode cX12_where 20 = .ok (.invokestatic 75, 3) := by decide +kernel
theorem dX12_where_23 : decode cX12_where 23 = .ok (.ifCond .ne 10, 3) := by decide +kernel
theorem dX12_where_26 : decode cX12_where 26 = .ok (.aload_n 0, 1) := by decide +kernel
theorem dX12_where_27 : decode cX12_where 27 = .ok (.ldc 83, 2) := by decide +kernel
theorem dX12_where_29 : decode cX12_where 29 = .ok (.invokevirtual 84, 3) := by decide +kernel
theorem dX12_where_32 : decode cX12_where 32 = .ok (.ireturn, 1) := by decide +kernel
theorem dX12_where_33 : decode cX12_where 33 = .ok (.aload_n 0, 1) := by decide +kernel
theorem dX12_where_34 : decode cX12_where 34 = .ok (.getfield 9, 3) := by decide +kernel
theorem dX12_where_37 : decode cX12_where 37 = .ok (.aload_n 0, 1) := by decide +kernel
theorem dX12_where_38 : decode cX12_where 38 = .ok (.getfield 16, 3) := by decide +kernel
theorem dX12_where_41 : decode cX12_where 41 = .ok (.invokestatic 79, 3) := by decide +kernel
theorem dX12_where_44 : decode cX12_where 44 = .ok (.aload_n 0, 1) := by decide +kernel
theorem dX12_where_45 : decode cX12_where 45 = .ok (.iload_n 1, 1) := by decide +kernel
theorem dX12_where_46 : decode cX12_where 46 = .ok (.invokevirtual 272, 3) := by decide +kernel
theorem dX12_where_49 : decode cX12_where 49 = .ok (.aload_n 0, 1) := by decide +kernel
theorem dX12_where_50 : decode cX12_where 50 = .ok (.aload_n 0, 1) := by decide +kernel
theorem dX12_where_51 : decode cX12_where 51 = .ok (.iload_n 2, 1) := by decide +kernel
theorem dX12_where_52 : decode cX12_where 52 = .ok (.iload_n 3, 1) := by decide +kernel
theorem dX12_where_53 : decode cX12_where 53 = .ok (.invokevirtual 97, 3) := by decide +kernel
theorem dX12_where_56 : decode cX12_where 56 = .ok (.invokevirtual 282, 3) := by decide +kernel
theorem dX12_where_59 : decode cX12_where 59 = .ok (.ireturn, 1) := by decide +kernel
theorem dX12_grown_0 : decode cX12_grown 0 = .ok (.iload_n 1, 1) := by decide +kernel
theorem dX12_grown_1 : decode cX12_grown 1 = .ok (.istore 4, 2) := by decide +kernel
theorem dX12_grown_3 : decode cX12_grown 3 = .ok (.iconst 0, 1) := by decide +kernel
theorem dX12_grown_4 : decode cX12_grown 4 = .ok (.istore 5, 2) := by decide +kernel
theorem dX12_grown_6 : decode cX12_grown 6 = .ok (.iload 5, 2) := by decide +kernel
theorem dX12_grown_8 : decode cX12_grown 8 = .ok (.aload_n 0, 1) := by decide +kernel
theorem dX12_grown_9 : decode cX12_grown 9 = .ok (.getfield 9, 3) := by decide +kernel
theorem dX12_grown_12 : decode cX12_grown 12 = .ok (.iconst 2, 1) := by decide +kernel
theorem dX12_grown_13 : decode cX12_grown 13 = .ok (.iaload, 1) := by decide +kernel
theorem dX12_grown_14 : decode cX12_grown 14 = .ok (.if_icmp .ge 73, 3) := by decide +kernel
theorem dX12_grown_17 : decode cX12_grown 17 = .ok (.iload_n 1, 1) := by decide +kernel
theorem dX12_grown_18 : decode cX12_grown 18 = .ok (.aload_n 0, 1) := by decide +kernel
theorem dX12_grown_19 : decode cX12_grown 19 = .ok (.iload 5, 2) := by decide +kernel
theorem dX12_grown_21 : decode cX12_grown 21 = .ok (.iconst 2, 1) := by decide +kernel
theorem dX12_grown_22 : decode cX12_grown 22 = .ok (.invokevirtual 117, 3) := by decide +kernel
theorem dX12_grown_25 : decode cX12_grown 25 = .ok (.invokestatic 246, 3) := by decide +kernel
theorem dX12_grown_28 : decode cX12_grown 28 = .ok (.ifCond .eq 53, 3) := by decide +kernel
theorem dX12_grown_31 : decode cX12_grown 31 = .ok (.iconst 0, 1) := by decide +kernel
theorem dX12_grown_32 : decode cX12_grown 32 = .ok (.istore 6, 2) := by decide +kernel
theorem dX12_grown_34 : decode cX12_grown 34 = .ok (.iload 6, 2) := by decide +kernel
theorem dX12_grown_36 : decode cX12_grown 36 = .ok (.aload_n 0, 1) := by decide +kernel
theorem dX12_grown_37 : decode cX12_grown 37 = .ok (.getfield 9, 3) := by decide +kernel
theorem dX12_grown_40 : decode cX12_grown 40 = .ok (.iconst 1, 1) := by decide +kernel
theorem dX12_grown_41 : decode cX12_grown 41 = .ok (.iaload, 1) := by decide +kernel
theorem dX12_grown_42 : decode cX12_grown 42 = .ok (.if_icmp .ge 39, 3) := by decide +kernel
theorem dX12_grown_45 : decode cX12_grown 45 = .ok (.iload 4, 2) := by decide +kernel
theorem dX12_grown_47 : decode cX12_grown 47 = .ok (.aload_n 0, 1) := by decide +kernel
theorem dX12_grown_48 : decode cX12_grown 48 = .ok (.iload 5, 2) := by decide +kernel
theorem dX12_grown_50 : decode cX12_grown 50 = .ok (.iload 6, 2) := by decide +kernel
theorem dX12_grown_52 : decode cX12_grown 52 = .ok (.iload_n 3, 1) := by decide +kernel
theorem dX12_grown_53 : decode cX12_grown 53 = .ok (.iload_n 2, 1) := by decide +kernel
theorem dX12_grown_54 : decode cX12_grown 54 = .ok (.bipush 24, 2) := by decide +kernel
theorem dX12_grown_56 : decode cX12_grown 56 = .ok (.irem, 1) := by decide +kernel
theorem dX12_grown_57 : decode cX12_grown 57 = .ok (.iload_n 2, 1) := by decide +kernel
theorem dX12_grown_58 : decode cX12_grown 58 = .ok (.invokevirtual 152, 3) := by decide +kernel
theorem dX12_grown_61 : decode cX12_grown 61 = .ok (.ifCond .eq 10, 3) := by decide +kernel
theorem dX12_grown_64 : decode cX12_grown 64 = .ok (.iconst 1, 1) := by decide +kernel
theorem dX12_grown_65 : decode cX12_grown 65 = .ok (.iload 6, 2) := by decide +kernel
theorem dX12_grown_67 : decode cX12_grown 67 = .ok (.ishl, 1) := by decide +kernel
theorem dX12_grown_68 : decode cX12_grown 68 = .ok (.goto 4, 3) := by decide +kernel
theorem dX12_grown_71 : decode cX12_grown 71 = .ok (.iconst 0, 1) := by decide +kernel
theorem dX12_grown_72 : decode cX12_grown 72 = .ok (.ior, 1) := by decide +kernel
theorem dX12_grown_73 : decode cX12_grown 73 = .ok (.istore 4, 2) := by decide +kernel
theorem dX12_grown_75 : decode cX12_grown 75 = .ok (.iinc 6 1, 3) := by decide +kernel
theorem dX12_grown_78 : decode cX12_grown 78 = .ok (.goto (-44), 3) := by decide +kernel
theorem dX12_grown_81 : decode cX12_grown 81 = .ok (.iinc 5 1, 3) := by decide +kernel
theorem dX12_grown_84 : decode cX12_grown 84 = .ok (.goto (-78), 3) := by decide +kernel
theorem dX12_grown_87 : decode cX12_grown 87 = .ok (.iload 4, 2) := by decide +kernel
theorem dX12_grown_89 : decode cX12_grown 89 = .ok (.ireturn, 1) := by decide +kernel
theorem dX12_soonestOf_0 : decode cX12_soonestOf 0 = .ok (.iconst 1, 1) := by decide +kernel
theorem dX12_soonestOf_1 : decode cX12_soonestOf 1 = .ok (.iload_n 1, 1) := by decide +kernel
theorem dX12_soonestOf_2 : decode cX12_soonestOf 2 = .ok (.ishl, 1) := by decide +kernel
theorem dX12_soonestOf_3 : decode cX12_soonestOf 3 = .ok (.istore 4, 2) := by decide +kernel
theorem dX12_soonestOf_5 : decode cX12_soonestOf 5 = .ok (.iconst 0, 1) := by decide +kernel
theorem dX12_soonestOf_6 : decode cX12_soonestOf 6 = .ok (.istore 5, 2) := by decide +kernel
theorem dX12_soonestOf_8 : decode cX12_soonestOf 8 = .ok (.iload 5, 2) := by decide +kernel
theorem dX12_soonestOf_10 : decode cX12_soonestOf 10 = .ok (.bipush 72, 2) := by decide +kernel
theorem dX12_soonestOf_12 : decode cX12_soonestOf 12 = .ok (.if_icmp .ge 41, 3) := by decide +kernel
theorem dX12_soonestOf_15 : decode cX12_soonestOf 15 = .ok (.aload_n 0, 1) := by decide +kernel
theorem dX12_soonestOf_16 : decode cX12_soonestOf 16 = .ok (.iload 4, 2) := by decide +kernel
theorem dX12_soonestOf_18 : decode cX12_soonestOf 18 = .ok (.aload_n 0, 1) := by decide +kernel
theorem dX12_soonestOf_19 : decode cX12_soonestOf 19 = .ok (.getfield 9, 3) := by decide +kernel
theorem dX12_soonestOf_22 : decode cX12_soonestOf 22 = .ok (.iconst 0, 1) := by decide +kernel
theorem dX12_soonestOf_23 : decode cX12_soonestOf 23 = .ok (.iaload, 1) := by decide +kernel
theorem dX12_soonestOf_24 : decode cX12_soonestOf 24 = .ok (.iload 5, 2) := by decide +kernel
theorem dX12_soonestOf_26 : decode cX12_soonestOf 26 = .ok (.iadd, 1) := by decide +kernel
theorem dX12_soonestOf_27 : decode cX12_soonestOf 27 = .ok (.iload_n 3, 1) := by decide +kernel
theorem dX12_soonestOf_28 : decode cX12_soonestOf 28 = .ok (.invokevirtual 285, 3) := by decide +kernel
theorem dX12_soonestOf_31 : decode cX12_soonestOf 31 = .ok (.istore 4, 2) := by decide +kernel
theorem dX12_soonestOf_33 : decode cX12_soonestOf 33 = .ok (.iload 4, 2) := by decide +kernel
theorem dX12_soonestOf_35 : decode cX12_soonestOf 35 = .ok (.iload_n 2, 1) := by decide +kernel
theorem dX12_soonestOf_36 : decode cX12_soonestOf 36 = .ok (.invokestatic 246, 3) := by decide +kernel
theorem dX12_soonestOf_39 : decode cX12_soonestOf 39 = .ok (.ifCond .eq 8, 3) := by decide +kernel
theorem dX12_soonestOf_42 : decode cX12_soonestOf 42 = .ok (.iload 5, 2) := by decide +kernel
theorem dX12_soonestOf_44 : decode cX12_soonestOf 44 = .ok (.iconst 1, 1) := by decide +kernel
theorem dX12_soonestOf_45 : decode cX12_soonestOf 45 = .ok (.iadd, 1) := by decide +kernel
theorem dX12_soonestOf_46 : decode cX12_soonestOf 46 = .ok (.ireturn, 1) := by decide +kernel
theorem dX12_soonestOf_47 : decode cX12_soonestOf 47 = .ok (.iinc 5 1, 3) := by decide +kernel
theorem dX12_soonestOf_50 : decode cX12_soonestOf 50 = .ok (.goto (-42), 3) := by decide +kernel
theorem dX12_soonestOf_53 : decode cX12_soonestOf 53 = .ok (.iconst (-1), 1) := by decide +kernel
theorem dX12_soonestOf_54 : decode cX12_soonestOf 54 = .ok (.ireturn, 1) := by decide +kernel
theorem dX12_isWay_0 : decode cX12_isWay 0 = .ok (.aload_n 0, 1) := by decide +kernel
theorem dX12_isWay_1 : decode cX12_isWay 1 = .ok (.iload_n 1, 1) := by decide +kernel
theorem dX12_isWay_2 : decode cX12_isWay 2 = .ok (.iconst 1, 1) := by decide +kernel
theorem dX12_isWay_3 : decode cX12_isWay 3 = .ok (.invokevirtual 100, 3) := by decide +kernel
theorem dX12_isWay_6 : decode cX12_isWay 6 = .ok (.ifCond .eq 28, 3) := by decide +kernel
theorem dX12_isWay_9 : decode cX12_isWay 9 = .ok (.aload_n 0, 1) := by decide +kernel
theorem dX12_isWay_10 : decode cX12_isWay 10 = .ok (.iload_n 2, 1) := by decide +kernel
theorem dX12_isWay_11 : decode cX12_isWay 11 = .ok (.iconst 1, 1) := by decide +kernel
theorem dX12_isWay_12 : decode cX12_isWay 12 = .ok (.invokevirtual 100, 3) := by decide +kernel
theorem dX12_isWay_15 : decode cX12_isWay 15 = .ok (.ifCond .eq 19, 3) := by decide +kernel
theorem dX12_isWay_18 : decode cX12_isWay 18 = .ok (.iload_n 1, 1) := by decide +kernel
theorem dX12_isWay_19 : decode cX12_isWay 19 = .ok (.iload_n 2, 1) := by decide +kernel
theorem dX12_isWay_20 : decode cX12_isWay 20 = .ok (.if_icmp .eq 14, 3) := by decide +kernel
theorem dX12_isWay_23 : decode cX12_isWay 23 = .ok (.iload_n 3, 1) := by decide +kernel
theorem dX12_isWay_24 : decode cX12_isWay 24 = .ok (.invokestatic 156, 3) := by decide +kernel
theorem dX12_isWay_27 : decode cX12_isWay 27 = .ok (.ifCond .eq 7, 3) := by decide +kernel
theorem dX12_isWay_30 : decode cX12_isWay 30 = .ok (.iconst 1, 1) := by decide +kernel
theorem dX12_isWay_31 : decode cX12_isWay 31 = .ok (.goto 4, 3) := by decide +kernel
theorem dX12_isWay_34 : decode cX12_isWay 34 = .ok (.iconst 0, 1) := by decide +kernel
theorem dX12_isWay_35 : decode cX12_isWay 35 = .ok (.ireturn, 1) := by decide +kernel
theorem dX12_soonest_0 : decode cX12_soonest 0 = .ok (.aload_n 0, 1) := by decide +kernel
theorem dX12_soonest_1 : decode cX12_soonest 1 = .ok (.iload_n 1, 1) := by decide +kernel
theorem dX12_soonest_2 : decode cX12_soonest 2 = .ok (.iload_n 2, 1) := by decide +kernel
theorem dX12_soonest_3 : decode cX12_soonest 3 = .ok (.iload_n 3, 1) := by decide +kernel
theorem dX12_soonest_4 : decode cX12_soonest 4 = .ok (.invokevirtual 288, 3) := by decide +kernel
theorem dX12_soonest_7 : decode cX12_soonest 7 = .ok (.ifCond .ne 10, 3) := by decide +kernel
theorem dX12_soonest_10 : decode cX12_soonest 10 = .ok (.aload_n 0, 1) := by decide +kernel
theorem dX12_soonest_11 : decode cX12_soonest 11 = .ok (.ldc 83, 2) := by decide +kernel
theorem dX12_soonest_13 : decode cX12_soonest 13 = .ok (.invokevirtual 84, 3) := by decide +kernel
theorem dX12_soonest_16 : decode cX12_soonest 16 = .ok (.ireturn, 1) := by decide +kernel
theorem dX12_soonest_17 : decode cX12_soonest 17 = .ok (.aload_n 0, 1) := by decide +kernel
theorem dX12_soonest_18 : decode cX12_soonest 18 = .ok (.iload_n 1, 1) := by decide +kernel
theorem dX12_soonest_19 : decode cX12_soonest 19 = .ok (.iload_n 2, 1) := by decide +kernel
theorem dX12_soonest_20 : decode cX12_soonest 20 = .ok (.iload_n 3, 1) := by decide +kernel
theorem dX12_soonest_21 : decode cX12_soonest 21 = .ok (.invokevirtual 291, 3) := by decide +kernel
theorem dX12_soonest_24 : decode cX12_soonest 24 = .ok (.istore 4, 2) := by decide +kernel
theorem dX12_soonest_26 : decode cX12_soonest 26 = .ok (.iload 4, 2) := by decide +kernel
theorem dX12_soonest_28 : decode cX12_soonest 28 = .ok (.ifCond .ge 13, 3) := by decide +kernel
theorem dX12_soonest_31 : decode cX12_soonest 31 = .ok (.aload_n 0, 1) := by decide +kernel
theorem dX12_soonest_32 : decode cX12_soonest 32 = .ok (.ldc_w 294, 3) := by decide +kernel
theorem dX12_soonest_35 : decode cX12_soonest 35 = .ok (.invokevirtual 84, 3) := by decide +kernel
theorem dX12_soonest_38 : decode cX12_soonest 38 = .ok (.goto 5, 3) := by decide +kernel
theorem dX12_soonest_41 : decode cX12_soonest 41 = .ok (.iload 4, 2) := by decide +kernel
theorem dX12_soonest_43 : decode cX12_soonest 43 = .ok (.ireturn, 1) := by decide +kernel
theorem dX12_sureBy_0 : decode cX12_sureBy 0 = .ok (.iload_n 1, 1) := by decide +kernel
theorem dX12_sureBy_1 : decode cX12_sureBy 1 = .ok (.iload_n 2, 1) := by decide +kernel
theorem dX12_sureBy_2 : decode cX12_sureBy 2 = .ok (.invokestatic 246, 3) := by decide +kernel
theorem dX12_sureBy_5 : decode cX12_sureBy 5 = .ok (.ifCond .eq 34, 3) := by decide +kernel
theorem dX12_sureBy_8 : decode cX12_sureBy 8 = .ok (.lconst 1, 1) := by decide +kernel
theorem dX12_sureBy_9 : decode cX12_sureBy 9 = .ok (.lstore 7, 2) := by decide +kernel
theorem dX12_sureBy_11 : decode cX12_sureBy 11 = .ok (.iload 4, 2) := by decide +kernel
theorem dX12_sureBy_13 : decode cX12_sureBy 13 = .ok (.istore 9, 2) := by decide +kernel
theorem dX12_sureBy_15 : decode cX12_sureBy 15 = .ok (.iload 9, 2) := by decide +kernel
theorem dX12_sureBy_17 : decode cX12_sureBy 17 = .ok (.iload 5, 2) := by decide +kernel
theorem dX12_sureBy_19 : decode cX12_sureBy 19 = .ok (.if_icmp .ge 17, 3) := by decide +kernel
theorem dX12_sureBy_22 : decode cX12_sureBy 22 = .ok (.lload 7, 2) := by decide +kernel
theorem dX12_sureBy_24 : decode cX12_sureBy 24 = .ok (.ldc2_w 295, 3) := by decide +kernel
theorem dX12_sureBy_27 : decode cX12_sureBy 27 = .ok (.lmul, 1) := by decide +kernel
theorem dX12_sureBy_28 : decode cX12_sureBy 28 = .ok (.lstore 7, 2) := by decide +kernel
theorem dX12_sureBy_30 : decode cX12_sureBy 30 = .ok (.iinc 9 1, 3) := by decide +kernel
theorem dX12_sureBy_33 : decode cX12_sureBy 33 = .ok (.goto (-18), 3) := by decide +kernel
theorem dX12_sureBy_36 : decode cX12_sureBy 36 = .ok (.lload 7, 2) := by decide +kernel
theorem dX12_sureBy_38 : decode cX12_sureBy 38 = .ok (.lreturn, 1) := by decide +kernel
theorem dX12_sureBy_39 : decode cX12_sureBy 39 = .ok (.iload 4, 2) := by decide +kernel
theorem dX12_sureBy_41 : decode cX12_sureBy 41 = .ok (.iload 5, 2) := by decide +kernel
theorem dX12_sureBy_43 : decode cX12_sureBy 43 = .ok (.if_icmp .ne 5, 3) := by decide +kernel
theorem dX12_sureBy_46 : decode cX12_sureBy 46 = .ok (.lconst 0, 1) := by decide +kernel
theorem dX12_sureBy_47 : decode cX12_sureBy 47 = .ok (.lreturn, 1) := by decide +kernel
theorem dX12_sureBy_48 : decode cX12_sureBy 48 = .ok (.iload 6, 2) := by decide +kernel
theorem dX12_sureBy_50 : decode cX12_sureBy 50 = .ok (.ifCond .ne 7, 3) := by decide +kernel
theorem dX12_sureBy_53 : decode cX12_sureBy 53 = .ok (.lconst 0, 1) := by decide +kernel
theorem dX12_sureBy_54 : decode cX12_sureBy 54 = .ok (.goto 22, 3) := by decide +kernel
theorem dX12_sureBy_57 : decode cX12_sureBy 57 = .ok (.iload 6, 2) := by decide +kernel
theorem dX12_sureBy_59 : decode cX12_sureBy 59 = .ok (.i2l, 1) := by decide +kernel
theorem dX12_sureBy_60 : decode cX12_sureBy 60 = .ok (.aload_n 0, 1) := by decide +kernel
theorem dX12_sureBy_61 : decode cX12_sureBy 61 = .ok (.iload_n 1, 1) := by decide +kernel
theorem dX12_sureBy_62 : decode cX12_sureBy 62 = .ok (.iload_n 2, 1) := by decide +kernel
theorem dX12_sureBy_63 : decode cX12_sureBy 63 = .ok (.iload_n 3, 1) := by decide +kernel
theorem dX12_sureBy_64 : decode cX12_sureBy 64 = .ok (.iload 4, 2) := by decide +kernel
theorem dX12_sureBy_66 : decode cX12_sureBy 66 = .ok (.iconst 1, 1) := by decide +kernel
theorem dX12_sureBy_67 : decode cX12_sureBy 67 = .ok (.iadd, 1) := by decide +kernel
theorem dX12_sureBy_68 : decode cX12_sureBy 68 = .ok (.iload 5, 2) := by decide +kernel
theorem dX12_sureBy_70 : decode cX12_sureBy 70 = .ok (.iload 6, 2) := by decide +kernel
theorem dX12_sureBy_72 : decode cX12_sureBy 72 = .ok (.invokevirtual 297, 3) := by decide +kernel
theorem dX12_sureBy_75 : decode cX12_sureBy 75 = .ok (.lmul, 1) := by decide +kernel
theorem dX12_sureBy_76 : decode cX12_sureBy 76 = .ok (.lstore 7, 2) := by decide +kernel
theorem dX12_sureBy_78 : decode cX12_sureBy 78 = .ok (.aload_n 0, 1) := by decide +kernel
theorem dX12_sureBy_79 : decode cX12_sureBy 79 = .ok (.iload_n 1, 1) := by decide +kernel
theorem dX12_sureBy_80 : decode cX12_sureBy 80 = .ok (.aload_n 0, 1) := by decide +kernel
theorem dX12_sureBy_81 : decode cX12_sureBy 81 = .ok (.getfield 9, 3) := by decide +kernel
theorem dX12_sureBy_84 : decode cX12_sureBy 84 = .ok (.iconst 0, 1) := by decide +kernel
theorem dX12_sureBy_85 : decode cX12_sureBy 85 = .ok (.iaload, 1) := by decide +kernel
theorem dX12_sureBy_86 : decode cX12_sureBy 86 = .ok (.iload 4, 2) := by decide +kernel
theorem dX12_sureBy_88 : decode cX12_sureBy 88 = .ok (.iadd, 1) := by decide +kernel
theorem dX12_sureBy_89 : decode cX12_sureBy 89 = .ok (.iload_n 3, 1) := by decide +kernel
theorem dX12_sureBy_90 : decode cX12_sureBy 90 = .ok (.invokevirtual 285, 3) := by decide +kernel
theorem dX12_sureBy_93 : decode cX12_sureBy 93 = .ok (.istore 9, 2) := by decide +kernel
theorem dX12_sureBy_95 : decode cX12_sureBy 95 = .ok (.lload 7, 2) := by decide +kernel
theorem dX12_sureBy_97 : decode cX12_sureBy 97 = .ok (.iload 6, 2) := by decide +kernel
theorem dX12_sureBy_99 : decode cX12_sureBy 99 = .ok (.bipush 10, 2) := by decide +kernel
theorem dX12_sureBy_101 : decode cX12_sureBy 101 = .ok (.if_icmp .ne 7, 3) := by decide +kernel
theorem dX12_sureBy_104 : decode cX12_sureBy 104 = .ok (.lconst 0, 1) := by decide +kernel
theorem dX12_sureBy_105 : decode cX12_sureBy 105 = .ok (.goto 26, 3) := by decide +kernel
theorem dX12_sureBy_108 : decode cX12_sureBy 108 = .ok (.bipush 10, 2) := by decide +kernel
theorem dX12_sureBy_110 : decode cX12_sureBy 110 = .ok (.iload 6, 2) := by decide +kernel
theorem dX12_sureBy_112 : decode cX12_sureBy 112 = .ok (.isub, 1) := by decide +kernel
theorem dX12_sureBy_113 : decode cX12_sureBy 113 = .ok (.i2l, 1) := by decide +kernel
theorem dX12_sureBy_114 : decode cX12_sureBy 114 = .ok (.aload_n 0, 1) := by decide +kernel
theorem dX12_sureBy_115 : decode cX12_sureBy 115 = .ok (.iload 9, 2) := by decide +kernel
theorem dX12_sureBy_117 : decode cX12_sureBy 117 = .ok (.iload_n 2, 1) := by decide +kernel
theorem dX12_sureBy_118 : decode cX12_sureBy 118 = .ok (.iload_n 3, 1) := by decide +kernel
theorem dX12_sureBy_119 : decode cX12_sureBy 119 = .ok (.iload 4, 2) := by decide +kernel
theorem dX12_sureBy_121 : decode cX12_sureBy 121 = .ok (.iconst 1, 1) := by decide +kernel
theorem dX12_sureBy_122 : decode cX12_sureBy 122 = .ok (.iadd, 1) := by decide +kernel
theorem dX12_sureBy_123 : decode cX12_sureBy 123 = .ok (.iload 5, 2) := by decide +kernel
theorem dX12_sureBy_125 : decode cX12_sureBy 125 = .ok (.iload 6, 2) := by decide +kernel
theorem dX12_sureBy_127 : decode cX12_sureBy 127 = .ok (.invokevirtual 297, 3) := by decide +kernel
theorem dX12_sureBy_130 : decode cX12_sureBy 130 = .ok (.lmul, 1) := by decide +kernel
theorem dX12_sureBy_131 : decode cX12_sureBy 131 = .ok (.ladd, 1) := by decide +kernel
theorem dX12_sureBy_132 : decode cX12_sureBy 132 = .ok (.lreturn, 1) := by decide +kernel
theorem dX12_divisor_0 : decode cX12_divisor 0 = .ok (.lload_n 2, 1) := by decide +kernel
theorem dX12_divisor_1 : decode cX12_divisor 1 = .ok (.lconst 0, 1) := by decide +kernel
theorem dX12_divisor_2 : decode cX12_divisor 2 = .ok (.lcmp, 1) := by decide +kernel
theorem dX12_divisor_3 : decode cX12_divisor 3 = .ok (.ifCond .ne 7, 3) := by decide +kernel
theorem dX12_divisor_6 : decode cX12_divisor 6 = .ok (.lload_n 0, 1) := by decide +kernel
theorem dX12_divisor_7 : decode cX12_divisor 7 = .ok (.goto 10, 3) := by decide +kernel
theorem dX12_divisor_10 : decode cX12_divisor 10 = .ok (.lload_n 2, 1) := by decide +kernel
theorem dX12_divisor_11 : decode cX12_divisor 11 = .ok (.lload_n 0, 1) := by decide +kernel
theorem dX12_divisor_12 : decode cX12_divisor 12 = .ok (.lload_n 2, 1) := by decide +kernel
theorem dX12_divisor_13 : decode cX12_divisor 13 = .ok (.lrem, 1) := by decide +kernel
theorem dX12_divisor_14 : decode cX12_divisor 14 = .ok (.invokestatic 301, 3) := by decide +kernel
theorem dX12_divisor_17 : decode cX12_divisor 17 = .ok (.lreturn, 1) := by decide +kernel
theorem dX12_sure_0 : decode cX12_sure 0 = .ok (.iload_n 1, 1) := by decide +kernel
theorem dX12_sure_1 : decode cX12_sure 1 = .ok (.iconst 0, 1) := by decide +kernel
theorem dX12_sure_2 : decode cX12_sure 2 = .ok (.bipush 99, 2) := by decide +kernel
theorem dX12_sure_4 : decode cX12_sure 4 = .ok (.invokestatic 75, 3) := by decide +kernel
theorem dX12_sure_7 : decode cX12_sure 7 = .ok (.ifCond .eq 70, 3) := by decide +kernel
theorem dX12_sure_10 : decode cX12_sure 10 = .ok (.aload_n 0, 1) := by decide +kernel
theorem dX12_sure_11 : decode cX12_sure 11 = .ok (.iload_n 1, 1) := by decide +kernel
theorem dX12_sure_12 : decode cX12_sure 12 = .ok (.bipush 10, 2) := by decide +kernel
theorem dX12_sure_14 : decode cX12_sure 14 = .ok (.idiv, 1) := by decide +kernel
theorem dX12_sure_15 : decode cX12_sure 15 = .ok (.iload_n 1, 1) := by decide +kernel
theorem dX12_sure_16 : decode cX12_sure 16 = .ok (.bipush 10, 2) := by decide +kernel
theorem dX12_sure_18 : decode cX12_sure 18 = .ok (.irem, 1) := by decide +kernel
theorem dX12_sure_19 : decode cX12_sure 19 = .ok (.iload_n 2, 1) := by decide +kernel
theorem dX12_sure_20 : decode cX12_sure 20 = .ok (.invokevirtual 288, 3) := by decide +kernel
theorem dX12_sure_23 : decode cX12_sure 23 = .ok (.ifCond .eq 54, 3) := by decide +kernel
theorem dX12_sure_26 : decode cX12_sure 26 = .ok (.iload_n 3, 1) := by decide +kernel
theorem dX12_sure_27 : decode cX12_sure 27 = .ok (.iconst 0, 1) := by decide +kernel
theorem dX12_sure_28 : decode cX12_sure 28 = .ok (.sipush 1099, 3) := by decide +kernel
theorem dX12_sure_31 : decode cX12_sure 31 = .ok (.invokestatic 75, 3) := by decide +kernel
theorem dX12_sure_34 : decode cX12_sure 34 = .ok (.ifCond .eq 43, 3) := by decide +kernel
theorem dX12_sure_37 : decode cX12_sure 37 = .ok (.iload_n 3, 1) := by decide +kernel
theorem dX12_sure_38 : decode cX12_sure 38 = .ok (.bipush 100, 2) := by decide +kernel
theorem dX12_sure_40 : decode cX12_sure 40 = .ok (.idiv, 1) := by decide +kernel
theorem dX12_sure_41 : decode cX12_sure 41 = .ok (.iconst 0, 1) := by decide +kernel
theorem dX12_sure_42 : decode cX12_sure 42 = .ok (.bipush 10, 2) := by decide +kernel
theorem dX12_sure_44 : decode cX12_sure 44 = .ok (.invokestatic 75, 3) := by decide +kernel
theorem dX12_sure_47 : decode cX12_sure 47 = .ok (.ifCond .eq 30, 3) := by decide +kernel
theorem dX12_sure_50 : decode cX12_sure 50 = .ok (.iload_n 3, 1) := by decide +kernel
theorem dX12_sure_51 : decode cX12_sure 51 = .ok (.bipush 100, 2) := by decide +kernel
theorem dX12_sure_53 : decode cX12_sure 53 = .ok (.irem, 1) := by decide +kernel
theorem dX12_sure_54 : decode cX12_sure 54 = .ok (.iconst 0, 1) := by decide +kernel
theorem dX12_sure_55 : decode cX12_sure 55 = .ok (.bipush 10, 2) := by decide +kernel
theorem dX12_sure_57 : decode cX12_sure 57 = .ok (.invokestatic 75, 3) := by decide +kernel
theorem dX12_sure_60 : decode cX12_sure 60 = .ok (.ifCond .eq 17, 3) := by decide +kernel
theorem dX12_sure_63 : decode cX12_sure 63 = .ok (.iload 4, 2) := by decide +kernel
theorem dX12_sure_65 : decode cX12_sure 65 = .ok (.iconst 0, 1) := by decide +kernel
theorem dX12_sure_66 : decode cX12_sure 66 = .ok (.iconst 1, 1) := by decide +kernel
theorem dX12_sure_67 : decode cX12_sure 67 = .ok (.invokestatic 75, 3) := by decide +kernel
theorem dX12_sure_70 : decode cX12_sure 70 = .ok (.ifCond .eq 7, 3) := by decide +kernel
theorem dX12_sure_73 : decode cX12_sure 73 = .ok (.iconst 1, 1) := by decide +kernel
theorem dX12_sure_74 : decode cX12_sure 74 = .ok (.goto 4, 3) := by decide +kernel
theorem dX12_sure_77 : decode cX12_sure 77 = .ok (.iconst 0, 1) := by decide +kernel
theorem dX12_sure_78 : decode cX12_sure 78 = .ok (.istore 5, 2) := by decide +kernel
theorem dX12_sure_80 : decode cX12_sure 80 = .ok (.iload 5, 2) := by decide +kernel
theorem dX12_sure_82 : decode cX12_sure 82 = .ok (.ifCond .ne 11, 3) := by decide +kernel
theorem dX12_sure_85 : decode cX12_sure 85 = .ok (.aload_n 0, 1) := by decide +kernel
theorem dX12_sure_86 : decode cX12_sure 86 = .ok (.ldc 83, 2) := by decide +kernel
theorem dX12_sure_88 : decode cX12_sure 88 = .ok (.invokevirtual 84, 3) := by decide +kernel
theorem dX12_sure_91 : decode cX12_sure 91 = .ok (.i2l, 1) := by decide +kernel
theorem dX12_sure_92 : decode cX12_sure 92 = .ok (.lreturn, 1) := by decide +kernel
theorem dX12_sure_93 : decode cX12_sure 93 = .ok (.iload_n 3, 1) := by decide +kernel
theorem dX12_sure_94 : decode cX12_sure 94 = .ok (.bipush 100, 2) := by decide +kernel
theorem dX12_sure_96 : decode cX12_sure 96 = .ok (.idiv, 1) := by decide +kernel
theorem dX12_sure_97 : decode cX12_sure 97 = .ok (.istore 6, 2) := by decide +kernel
theorem dX12_sure_99 : decode cX12_sure 99 = .ok (.lconst 1, 1) := by decide +kernel
theorem dX12_sure_100 : decode cX12_sure 100 = .ok (.lstore 7, 2) := by decide +kernel
theorem dX12_sure_102 : decode cX12_sure 102 = .ok (.iconst 0, 1) := by decide +kernel
theorem dX12_sure_103 : decode cX12_sure 103 = .ok (.istore 9, 2) := by decide +kernel
theorem dX12_sure_105 : decode cX12_sure 105 = .ok (.iload 9, 2) := by decide +kernel
theorem dX12_sure_107 : decode cX12_sure 107 = .ok (.iload 6, 2) := by decide +kernel
theorem dX12_sure_109 : decode cX12_sure 109 = .ok (.if_icmp .ge 17, 3) := by decide +kernel
theorem dX12_sure_112 : decode cX12_sure 112 = .ok (.lload 7, 2) := by decide +kernel
theorem dX12_sure_114 : decode cX12_sure 114 = .ok (.ldc2_w 295, 3) := by decide +kernel
theorem dX12_sure_117 : decode cX12_sure 117 = .ok (.lmul, 1) := by decide +kernel
theorem dX12_sure_118 : decode cX12_sure 118 = .ok (.lstore 7, 2) := by decide +kernel
theorem dX12_sure_120 : decode cX12_sure 120 = .ok (.iinc 9 1, 3) := by decide +kernel
theorem dX12_sure_123 : decode cX12_sure 123 = .ok (.goto (-18), 3) := by decide +kernel
theorem dX12_sure_126 : decode cX12_sure 126 = .ok (.aload_n 0, 1) := by decide +kernel
theorem dX12_sure_127 : decode cX12_sure 127 = .ok (.iconst 1, 1) := by decide +kernel
theorem dX12_sure_128 : decode cX12_sure 128 = .ok (.iload_n 1, 1) := by decide +kernel
theorem dX12_sure_129 : decode cX12_sure 129 = .ok (.bipush 10, 2) := by decide +kernel
theorem dX12_sure_131 : decode cX12_sure 131 = .ok (.idiv, 1) := by decide +kernel
theorem dX12_sure_132 : decode cX12_sure 132 = .ok (.ishl, 1) := by decide +kernel
theorem dX12_sure_133 : decode cX12_sure 133 = .ok (.iload_n 1, 1) := by decide +kernel
theorem dX12_sure_134 : decode cX12_sure 134 = .ok (.bipush 10, 2) := by decide +kernel
theorem dX12_sure_136 : decode cX12_sure 136 = .ok (.irem, 1) := by decide +kernel
theorem dX12_sure_137 : decode cX12_sure 137 = .ok (.iload_n 2, 1) := by decide +kernel
theorem dX12_sure_138 : decode cX12_sure 138 = .ok (.iconst 0, 1) := by decide +kernel
theorem dX12_sure_139 : decode cX12_sure 139 = .ok (.iload 6, 2) := by decide +kernel
theorem dX12_sure_141 : decode cX12_sure 141 = .ok (.iload_n 3, 1) := by decide +kernel
theorem dX12_sure_142 : decode cX12_sure 142 = .ok (.bipush 100, 2) := by decide +kernel
theorem dX12_sure_144 : decode cX12_sure 144 = .ok (.irem, 1) := by decide +kernel
theorem dX12_sure_145 : decode cX12_sure 145 = .ok (.invokevirtual 297, 3) := by decide +kernel
theorem dX12_sure_148 : decode cX12_sure 148 = .ok (.lstore 9, 2) := by decide +kernel
theorem dX12_sure_150 : decode cX12_sure 150 = .ok (.lload 7, 2) := by decide +kernel
theorem dX12_sure_152 : decode cX12_sure 152 = .ok (.lload 9, 2) := by decide +kernel
theorem dX12_sure_154 : decode cX12_sure 154 = .ok (.invokestatic 301, 3) := by decide +kernel
theorem dX12_sure_157 : decode cX12_sure 157 = .ok (.lstore 11, 2) := by decide +kernel
theorem dX12_sure_159 : decode cX12_sure 159 = .ok (.iload 4, 2) := by decide +kernel
theorem dX12_sure_161 : decode cX12_sure 161 = .ok (.ifCond .ne 11, 3) := by decide +kernel
theorem dX12_sure_164 : decode cX12_sure 164 = .ok (.lload 9, 2) := by decide +kernel
theorem dX12_sure_166 : decode cX12_sure 166 = .ok (.lload 11, 2) := by decide +kernel
theorem dX12_sure_168 : decode cX12_sure 168 = .ok (.ldiv, 1) := by decide +kernel
theorem dX12_sure_169 : decode cX12_sure 169 = .ok (.goto 8, 3) := by decide +kernel
theorem dX12_sure_172 : decode cX12_sure 172 = .ok (.lload 7, 2) := by decide +kernel
theorem dX12_sure_174 : decode cX12_sure 174 = .ok (.lload 11, 2) := by decide +kernel
theorem dX12_sure_176 : decode cX12_sure 176 = .ok (.ldiv, 1) := by decide +kernel
theorem dX12_sure_177 : decode cX12_sure 177 = .ok (.lreturn, 1) := by decide +kernel
theorem dX12_best_0 : decode cX12_best 0 = .ok (.aload_n 0, 1) := by decide +kernel
theorem dX12_best_1 : decode cX12_best 1 = .ok (.iload_n 1, 1) := by decide +kernel
theorem dX12_best_2 : decode cX12_best 2 = .ok (.iconst 2, 1) := by decide +kernel
theorem dX12_best_3 : decode cX12_best 3 = .ok (.invokevirtual 100, 3) := by decide +kernel
theorem dX12_best_6 : decode cX12_best 6 = .ok (.ifCond .eq 10, 3) := by decide +kernel
theorem dX12_best_9 : decode cX12_best 9 = .ok (.iload_n 2, 1) := by decide +kernel
theorem dX12_best_10 : decode cX12_best 10 = .ok (.invokestatic 279, 3) := by decide +kernel
theorem dX12_best_13 : decode cX12_best 13 = .ok (.ifCond .ne 10, 3) := by decide +kernel
theorem dX12_best_16 : decode cX12_best 16 = .ok (.aload_n 0, 1) := by decide +kernel
theorem dX12_best_17 : decode cX12_best 17 = .ok (.ldc 83, 2) := by decide +kernel
theorem dX12_best_19 : decode cX12_best 19 = .ok (.invokevirtual 84, 3) := by decide +kernel
theorem dX12_best_22 : decode cX12_best 22 = .ok (.ireturn, 1) := by decide +kernel
theorem dX12_best_23 : decode cX12_best 23 = .ok (.aload_n 0, 1) := by decide +kernel
theorem dX12_best_24 : decode cX12_best 24 = .ok (.getfield 9, 3) := by decide +kernel
theorem dX12_best_27 : decode cX12_best 27 = .ok (.aload_n 0, 1) := by decide +kernel
theorem dX12_best_28 : decode cX12_best 28 = .ok (.getfield 16, 3) := by decide +kernel
theorem dX12_best_31 : decode cX12_best 31 = .ok (.invokestatic 79, 3) := by decide +kernel
theorem dX12_best_34 : decode cX12_best 34 = .ok (.iconst (-1), 1) := by decide +kernel
theorem dX12_best_35 : decode cX12_best 35 = .ok (.istore_n 3, 1) := by decide +kernel
theorem dX12_best_36 : decode cX12_best 36 = .ok (.iconst (-1), 1) := by decide +kernel
theorem dX12_best_37 : decode cX12_best 37 = .ok (.istore 4, 2) := by decide +kernel
theorem dX12_best_39 : decode cX12_best 39 = .ok (.iconst (-1), 1) := by decide +kernel
theorem dX12_best_40 : decode cX12_best 40 = .ok (.istore 5, 2) := by decide +kernel
theorem dX12_best_42 : decode cX12_best 42 = .ok (.iload 5, 2) := by decide +kernel
theorem dX12_best_44 : decode cX12_best 44 = .ok (.aload_n 0, 1) := by decide +kernel
theorem dX12_best_45 : decode cX12_best 45 = .ok (.getfield 9, 3) := by decide +kernel
theorem dX12_best_48 : decode cX12_best 48 = .ok (.iconst 1, 1) := by decide +kernel
theorem dX12_best_49 : decode cX12_best 49 = .ok (.iaload, 1) := by decide +kernel
theorem dX12_best_50 : decode cX12_best 50 = .ok (.if_icmp .ge 67, 3) := by decide +kernel
theorem dX12_best_53 : decode cX12_best 53 = .ok (.iload 5, 2) := by decide +kernel
theorem dX12_best_55 : decode cX12_best 55 = .ok (.aload_n 0, 1) := by decide +kernel
theorem dX12_best_56 : decode cX12_best 56 = .ok (.iload_n 1, 1) := by decide +kernel
theorem dX12_best_57 : decode cX12_best 57 = .ok (.iconst 2, 1) := by decide +kernel
theorem dX12_best_58 : decode cX12_best 58 = .ok (.invokevirtual 117, 3) := by decide +kernel
theorem dX12_best_61 : decode cX12_best 61 = .ok (.if_icmp .eq 50, 3) := by decide +kernel
theorem dX12_best_64 : decode cX12_best 64 = .ok (.aload_n 0, 1) := by decide +kernel
theorem dX12_best_65 : decode cX12_best 65 = .ok (.getfield 9, 3) := by decide +kernel
theorem dX12_best_68 : decode cX12_best 68 = .ok (.bipush 51, 2) := by decide +kernel
theorem dX12_best_70 : decode cX12_best 70 = .ok (.bipush 6, 2) := by decide +kernel
theorem dX12_best_72 : decode cX12_best 72 = .ok (.iload_n 1, 1) := by decide +kernel
theorem dX12_best_73 : decode cX12_best 73 = .ok (.imul, 1) := by decide +kernel
theorem dX12_best_74 : decode cX12_best 74 = .ok (.iadd, 1) := by decide +kernel
theorem dX12_best_75 : decode cX12_best 75 = .ok (.iconst 5, 1) := by decide +kernel
theorem dX12_best_76 : decode cX12_best 76 = .ok (.iadd, 1) := by decide +kernel
theorem dX12_best_77 : decode cX12_best 77 = .ok (.iload 5, 2) := by decide +kernel
theorem dX12_best_79 : decode cX12_best 79 = .ok (.iastore, 1) := by decide +kernel
theorem dX12_best_80 : decode cX12_best 80 = .ok (.aload_n 0, 1) := by decide +kernel
theorem dX12_best_81 : decode cX12_best 81 = .ok (.iload_n 2, 1) := by decide +kernel
theorem dX12_best_82 : decode cX12_best 82 = .ok (.invokevirtual 272, 3) := by decide +kernel
theorem dX12_best_85 : decode cX12_best 85 = .ok (.aload_n 0, 1) := by decide +kernel
theorem dX12_best_86 : decode cX12_best 86 = .ok (.aload_n 0, 1) := by decide +kernel
theorem dX12_best_87 : decode cX12_best 87 = .ok (.getfield 9, 3) := by decide +kernel
theorem dX12_best_90 : decode cX12_best 90 = .ok (.iconst 4, 1) := by decide +kernel
theorem dX12_best_91 : decode cX12_best 91 = .ok (.iaload, 1) := by decide +kernel
theorem dX12_best_92 : decode cX12_best 92 = .ok (.invokevirtual 282, 3) := by decide +kernel
theorem dX12_best_95 : decode cX12_best 95 = .ok (.istore 6, 2) := by decide +kernel
theorem dX12_best_97 : decode cX12_best 97 = .ok (.iload 6, 2) := by decide +kernel
theorem dX12_best_99 : decode cX12_best 99 = .ok (.iload 4, 2) := by decide +kernel
theorem dX12_best_101 : decode cX12_best 101 = .ok (.if_icmp .le 10, 3) := by decide +kernel
theorem dX12_best_104 : decode cX12_best 104 = .ok (.iload 6, 2) := by decide +kernel
theorem dX12_best_106 : decode cX12_best 106 = .ok (.istore 4, 2) := by decide +kernel
theorem dX12_best_108 : decode cX12_best 108 = .ok (.iload 5, 2) := by decide +kernel
theorem dX12_best_110 : decode cX12_best 110 = .ok (.istore_n 3, 1) := by decide +kernel
theorem dX12_best_111 : decode cX12_best 111 = .ok (.iinc 5 1, 3) := by decide +kernel
theorem dX12_best_114 : decode cX12_best 114 = .ok (.goto (-72), 3) := by decide +kernel
theorem dX12_best_117 : decode cX12_best 117 = .ok (.iload_n 3, 1) := by decide +kernel
theorem dX12_best_118 : decode cX12_best 118 = .ok (.ireturn, 1) := by decide +kernel
theorem dX12_freshOf_0 : decode cX12_freshOf 0 = .ok (.aload_n 0, 1) := by decide +kernel
theorem dX12_freshOf_1 : decode cX12_freshOf 1 = .ok (.getfield 9, 3) := by decide +kernel
theorem dX12_freshOf_4 : decode cX12_freshOf 4 = .ok (.aload_n 0, 1) := by decide +kernel
theorem dX12_freshOf_5 : decode cX12_freshOf 5 = .ok (.getfield 16, 3) := by decide +kernel
theorem dX12_freshOf_8 : decode cX12_freshOf 8 = .ok (.invokestatic 79, 3) := by decide +kernel
theorem dX12_freshOf_11 : decode cX12_freshOf 11 = .ok (.iconst (-1), 1) := by decide +kernel
theorem dX12_freshOf_12 : decode cX12_freshOf 12 = .ok (.istore 4, 2) := by decide +kernel
theorem dX12_freshOf_14 : decode cX12_freshOf 14 = .ok (.iconst 0, 1) := by decide +kernel
theorem dX12_freshOf_15 : decode cX12_freshOf 15 = .ok (.istore 5, 2) := by decide +kernel
theorem dX12_freshOf_17 : decode cX12_freshOf 17 = .ok (.iload 5, 2) := by decide +kernel
theorem dX12_freshOf_19 : decode cX12_freshOf 19 = .ok (.sipush 256, 3) := by decide +kernel
theorem dX12_freshOf_22 : decode cX12_freshOf 22 = .ok (.if_icmp .ge 97, 3) := by decide +kernel
theorem dX12_freshOf_25 : decode cX12_freshOf 25 = .ok (.aload_n 0, 1) := by decide +kernel
theorem dX12_freshOf_26 : decode cX12_freshOf 26 = .ok (.iload 5, 2) := by decide +kernel
theorem dX12_freshOf_28 : decode cX12_freshOf 28 = .ok (.invokevirtual 88, 3) := by decide +kernel
theorem dX12_freshOf_31 : decode cX12_freshOf 31 = .ok (.ifCond .ne 64, 3) := by decide +kernel
theorem dX12_freshOf_34 : decode cX12_freshOf 34 = .ok (.aload_n 0, 1) := by decide +kernel
theorem dX12_freshOf_35 : decode cX12_freshOf 35 = .ok (.iconst 0, 1) := by decide +kernel
theorem dX12_freshOf_36 : decode cX12_freshOf 36 = .ok (.iconst 0, 1) := by decide +kernel
theorem dX12_freshOf_37 : decode cX12_freshOf 37 = .ok (.aload_n 0, 1) := by decide +kernel
theorem dX12_freshOf_38 : decode cX12_freshOf 38 = .ok (.iload 5, 2) := by decide +kernel
theorem dX12_freshOf_40 : decode cX12_freshOf 40 = .ok (.iconst 0, 1) := by decide +kernel
theorem dX12_freshOf_41 : decode cX12_freshOf 41 = .ok (.invokevirtual 94, 3) := by decide +kernel
theorem dX12_freshOf_44 : decode cX12_freshOf 44 = .ok (.bipush 40, 2) := by decide +kernel
theorem dX12_freshOf_46 : decode cX12_freshOf 46 = .ok (.bipush 20, 2) := by decide +kernel
theorem dX12_freshOf_48 : decode cX12_freshOf 48 = .ok (.invokevirtual 113, 3) := by decide +kernel
theorem dX12_freshOf_51 : decode cX12_freshOf 51 = .ok (.istore 6, 2) := by decide +kernel
theorem dX12_freshOf_53 : decode cX12_freshOf 53 = .ok (.aload_n 0, 1) := by decide +kernel
theorem dX12_freshOf_54 : decode cX12_freshOf 54 = .ok (.aload_n 0, 1) := by decide +kernel
theorem dX12_freshOf_55 : decode cX12_freshOf 55 = .ok (.iload_n 1, 1) := by decide +kernel
theorem dX12_freshOf_56 : decode cX12_freshOf 56 = .ok (.iload_n 2, 1) := by decide +kernel
theorem dX12_freshOf_57 : decode cX12_freshOf 57 = .ok (.iload_n 3, 1) := by decide +kernel
theorem dX12_freshOf_58 : decode cX12_freshOf 58 = .ok (.invokevirtual 291, 3) := by decide +kernel
theorem dX12_freshOf_61 : decode cX12_freshOf 61 = .ok (.invokevirtual 282, 3) := by decide +kernel
theorem dX12_freshOf_64 : decode cX12_freshOf 64 = .ok (.istore 7, 2) := by decide +kernel
theorem dX12_freshOf_66 : decode cX12_freshOf 66 = .ok (.iload 7, 2) := by decide +kernel
theorem dX12_freshOf_68 : decode cX12_freshOf 68 = .ok (.ifCond .le 27, 3) := by decide +kernel
theorem dX12_freshOf_71 : decode cX12_freshOf 71 = .ok (.iload 4, 2) := by decide +kernel
theorem dX12_freshOf_73 : decode cX12_freshOf 73 = .ok (.ifCond .lt 12, 3) := by decide +kernel
theorem dX12_freshOf_76 : decode cX12_freshOf 76 = .ok (.iload 7, 2) := by decide +kernel
theorem dX12_freshOf_78 : decode cX12_freshOf 78 = .ok (.aload_n 0, 1) := by decide +kernel
theorem dX12_freshOf_79 : decode cX12_freshOf 79 = .ok (.getfield 305, 3) := by decide +kernel
theorem dX12_freshOf_82 : decode cX12_freshOf 82 = .ok (.if_icmp .ge 13, 3) := by decide +kernel
theorem dX12_freshOf_85 : decode cX12_freshOf 85 = .ok (.iload 5, 2) := by decide +kernel
theorem dX12_freshOf_87 : decode cX12_freshOf 87 = .ok (.istore 4, 2) := by decide +kernel
theorem dX12_freshOf_89 : decode cX12_freshOf 89 = .ok (.aload_n 0, 1) := by decide +kernel
theorem dX12_freshOf_90 : decode cX12_freshOf 90 = .ok (.iload 7, 2) := by decide +kernel
theorem dX12_freshOf_92 : decode cX12_freshOf 92 = .ok (.putfield 305, 3) := by decide +kernel
theorem dX12_freshOf_95 : decode cX12_freshOf 95 = .ok (.iload 5, 2) := by decide +kernel
theorem dX12_freshOf_97 : decode cX12_freshOf 97 = .ok (.iload 5, 2) := by decide +kernel
theorem dX12_freshOf_99 : decode cX12_freshOf 99 = .ok (.bipush 16, 2) := by decide +kernel
theorem dX12_freshOf_101 : decode cX12_freshOf 101 = .ok (.irem, 1) := by decide +kernel
theorem dX12_freshOf_102 : decode cX12_freshOf 102 = .ok (.bipush 14, 2) := by decide +kernel
theorem dX12_freshOf_104 : decode cX12_freshOf 104 = .ok (.if_icmp .ne 8, 3) := by decide +kernel
theorem dX12_freshOf_107 : decode cX12_freshOf 107 = .ok (.bipush 18, 2) := by decide +kernel
theorem dX12_freshOf_109 : decode cX12_freshOf 109 = .ok (.goto 4, 3) := by decide +kernel
theorem dX12_freshOf_112 : decode cX12_freshOf 112 = .ok (.iconst 2, 1) := by decide +kernel
theorem dX12_freshOf_113 : decode cX12_freshOf 113 = .ok (.iadd, 1) := by decide +kernel
theorem dX12_freshOf_114 : decode cX12_freshOf 114 = .ok (.istore 5, 2) := by decide +kernel
theorem dX12_freshOf_116 : decode cX12_freshOf 116 = .ok (.goto (-99), 3) := by decide +kernel
theorem dX12_freshOf_119 : decode cX12_freshOf 119 = .ok (.iload 4, 2) := by decide +kernel
theorem dX12_freshOf_121 : decode cX12_freshOf 121 = .ok (.ireturn, 1) := by decide +kernel
theorem dX12_fresh_0 : decode cX12_fresh 0 = .ok (.aload_n 0, 1) := by decide +kernel
theorem dX12_fresh_1 : decode cX12_fresh 1 = .ok (.iload_n 1, 1) := by decide +kernel
theorem dX12_fresh_2 : decode cX12_fresh 2 = .ok (.iload_n 2, 1) := by decide +kernel
theorem dX12_fresh_3 : decode cX12_fresh 3 = .ok (.iload_n 3, 1) := by decide +kernel
theorem dX12_fresh_4 : decode cX12_fresh 4 = .ok (.invokevirtual 288, 3) := by decide +kernel
theorem dX12_fresh_7 : decode cX12_fresh 7 = .ok (.ifCond .eq 13, 3) := by decide +kernel
theorem dX12_fresh_10 : decode cX12_fresh 10 = .ok (.iload 4, 2) := by decide +kernel
theorem dX12_fresh_12 : decode cX12_fresh 12 = .ok (.iconst 0, 1) := by decide +kernel
theorem dX12_fresh_13 : decode cX12_fresh 13 = .ok (.iconst 1, 1) := by decide +kernel
theorem dX12_fresh_14 : decode cX12_fresh 14 = .ok (.invokestatic 75, 3) := by decide +kernel
theorem dX12_fresh_17 : decode cX12_fresh 17 = .ok (.ifCond .ne 10, 3) := by decide +kernel
theorem dX12_fresh_20 : decode cX12_fresh 20 = .ok (.aload_n 0, 1) := by decide +kernel
theorem dX12_fresh_21 : decode cX12_fresh 21 = .ok (.ldc 83, 2) := by decide +kernel
theorem dX12_fresh_23 : decode cX12_fresh 23 = .ok (.invokevirtual 84, 3) := by decide +kernel
theorem dX12_fresh_26 : decode cX12_fresh 26 = .ok (.ireturn, 1) := by decide +kernel
theorem dX12_fresh_27 : decode cX12_fresh 27 = .ok (.aload_n 0, 1) := by decide +kernel
theorem dX12_fresh_28 : decode cX12_fresh 28 = .ok (.getfield 9, 3) := by decide +kernel
theorem dX12_fresh_31 : decode cX12_fresh 31 = .ok (.iconst 1, 1) := by decide +kernel
theorem dX12_fresh_32 : decode cX12_fresh 32 = .ok (.iaload, 1) := by decide +kernel
theorem dX12_fresh_33 : decode cX12_fresh 33 = .ok (.bipush 9, 2) := by decide +kernel
theorem dX12_fresh_35 : decode cX12_fresh 35 = .ok (.if_icmp .eq 14, 3) := by decide +kernel
theorem dX12_fresh_38 : decode cX12_fresh 38 = .ok (.aload_n 0, 1) := by decide +kernel
theorem dX12_fresh_39 : decode cX12_fresh 39 = .ok (.getfield 9, 3) := by decide +kernel
theorem dX12_fresh_42 : decode cX12_fresh 42 = .ok (.iconst 2, 1) := by decide +kernel
theorem dX12_fresh_43 : decode cX12_fresh 43 = .ok (.iaload, 1) := by decide +kernel
theorem dX12_fresh_44 : decode cX12_fresh 44 = .ok (.bipush 8, 2) := by decide +kernel
theorem dX12_fresh_46 : decode cX12_fresh 46 = .ok (.if_icmp .ne 10, 3) := by decide +kernel
theorem dX12_fresh_49 : decode cX12_fresh 49 = .ok (.aload_n 0, 1) := by decide +kernel
theorem dX12_fresh_50 : decode cX12_fresh 50 = .ok (.ldc 92, 2) := by decide +kernel
theorem dX12_fresh_52 : decode cX12_fresh 52 = .ok (.invokevirtual 84, 3) := by decide +kernel
theorem dX12_fresh_55 : decode cX12_fresh 55 = .ok (.ireturn, 1) := by decide +kernel
theorem dX12_fresh_56 : decode cX12_fresh 56 = .ok (.aload_n 0, 1) := by decide +kernel
theorem dX12_fresh_57 : decode cX12_fresh 57 = .ok (.iload_n 1, 1) := by decide +kernel
theorem dX12_fresh_58 : decode cX12_fresh 58 = .ok (.iload_n 2, 1) := by decide +kernel
theorem dX12_fresh_59 : decode cX12_fresh 59 = .ok (.iload_n 3, 1) := by decide +kernel
theorem dX12_fresh_60 : decode cX12_fresh 60 = .ok (.invokevirtual 308, 3) := by decide +kernel
theorem dX12_fresh_63 : decode cX12_fresh 63 = .ok (.istore 5, 2) := by decide +kernel
theorem dX12_fresh_65 : decode cX12_fresh 65 = .ok (.iload 5, 2) := by decide +kernel
theorem dX12_fresh_67 : decode cX12_fresh 67 = .ok (.ifCond .ge 13, 3) := by decide +kernel
theorem dX12_fresh_70 : decode cX12_fresh 70 = .ok (.aload_n 0, 1) := by decide +kernel
theorem dX12_fresh_71 : decode cX12_fresh 71 = .ok (.ldc_w 294, 3) := by decide +kernel
theorem dX12_fresh_74 : decode cX12_fresh 74 = .ok (.invokevirtual 84, 3) := by decide +kernel
theorem dX12_fresh_77 : decode cX12_fresh 77 = .ok (.goto 17, 3) := by decide +kernel
theorem dX12_fresh_80 : decode cX12_fresh 80 = .ok (.iload 4, 2) := by decide +kernel
theorem dX12_fresh_82 : decode cX12_fresh 82 = .ok (.ifCond .ne 8, 3) := by decide +kernel
theorem dX12_fresh_85 : decode cX12_fresh 85 = .ok (.iload 5, 2) := by decide +kernel
theorem dX12_fresh_87 : decode cX12_fresh 87 = .ok (.goto 7, 3) := by decide +kernel
theorem dX12_fresh_90 : decode cX12_fresh 90 = .ok (.aload_n 0, 1) := by decide +kernel
theorem dX12_fresh_91 : decode cX12_fresh 91 = .ok (.getfield 305, 3) := by decide +kernel
theorem dX12_fresh_94 : decode cX12_fresh 94 = .ok (.ireturn, 1) := by decide +kernel
theorem dX12_hasArrived_0 : decode cX12_hasArrived 0 = .ok (.aload_n 0, 1) := by decide +kernel
theorem dX12_hasArrived_1 : decode cX12_hasArrived 1 = .ok (.iload_n 1, 1) := by decide +kernel
theorem dX12_hasArrived_2 : decode cX12_hasArrived 2 = .ok (.bipush 6, 2) := by decide +kernel
theorem dX12_hasArrived_4 : decode cX12_hasArrived 4 = .ok (.invokevirtual 97, 3) := by decide +kernel
theorem dX12_hasArrived_7 : decode cX12_hasArrived 7 = .ok (.ifCond .lt 7, 3) := by decide +kernel
theorem dX12_hasArrived_10 : decode cX12_hasArrived 10 = .ok (.iconst 1, 1) := by decide +kernel
theorem dX12_hasArrived_11 : decode cX12_hasArrived 11 = .ok (.goto 4, 3) := by decide +kernel
theorem dX12_hasArrived_14 : decode cX12_hasArrived 14 = .ok (.iconst 0, 1) := by decide +kernel
theorem dX12_hasArrived_15 : decode cX12_hasArrived 15 = .ok (.ireturn, 1) := by decide +kernel
theorem dX12_mends_0 : decode cX12_mends 0 = .ok (.iconst 0, 1) := by decide +kernel
theorem dX12_mends_1 : decode cX12_mends 1 = .ok (.istore_n 1, 1) := by decide +kernel
theorem dX12_mends_2 : decode cX12_mends 2 = .ok (.iconst 0, 1) := by decide +kernel
theorem dX12_mends_3 : decode cX12_mends 3 = .ok (.istore_n 2, 1) := by decide +kernel
theorem dX12_mends_4 : decode cX12_mends 4 = .ok (.iload_n 2, 1) := by decide +kernel
theorem dX12_mends_5 : decode cX12_mends 5 = .ok (.aload_n 0, 1) := by decide +kernel
theorem dX12_mends_6 : decode cX12_mends 6 = .ok (.getfield 9, 3) := by decide +kernel
theorem dX12_mends_9 : decode cX12_mends 9 = .ok (.iconst 4, 1) := by decide +kernel
theorem dX12_mends_10 : decode cX12_mends 10 = .ok (.iaload, 1) := by decide +kernel
theorem dX12_mends_11 : decode cX12_mends 11 = .ok (.if_icmp .ge 118, 3) := by decide +kernel
theorem dX12_mends_14 : decode cX12_mends 14 = .ok (.iconst (-1), 1) := by decide +kernel
theorem dX12_mends_15 : decode cX12_mends 15 = .ok (.istore_n 3, 1) := by decide +kernel
theorem dX12_mends_16 : decode cX12_mends 16 = .ok (.aload_n 0, 1) := by decide +kernel
theorem dX12_mends_17 : decode cX12_mends 17 = .ok (.getfield 9, 3) := by decide +kernel
theorem dX12_mends_20 : decode cX12_mends 20 = .ok (.iconst 4, 1) := by decide +kernel
theorem dX12_mends_21 : decode cX12_mends 21 = .ok (.iaload, 1) := by decide +kernel
theorem dX12_mends_22 : decode cX12_mends 22 = .ok (.iconst 1, 1) := by decide +kernel
theorem dX12_mends_23 : decode cX12_mends 23 = .ok (.isub, 1) := by decide +kernel
theorem dX12_mends_24 : decode cX12_mends 24 = .ok (.istore 4, 2) := by decide +kernel
theorem dX12_mends_26 : decode cX12_mends 26 = .ok (.iload 4, 2) := by decide +kernel
theorem dX12_mends_28 : decode cX12_mends 28 = .ok (.ifCond .lt 82, 3) := by decide +kernel
theorem dX12_mends_31 : decode cX12_mends 31 = .ok (.aload_n 0, 1) := by decide +kernel
theorem dX12_mends_32 : decode cX12_mends 32 = .ok (.getfield 9, 3) := by decide +kernel
theorem dX12_mends_35 : decode cX12_mends 35 = .ok (.sipush 183, 3) := by decide +kernel
theorem dX12_mends_38 : decode cX12_mends 38 = .ok (.iload 4, 2) := by decide +kernel
theorem dX12_mends_40 : decode cX12_mends 40 = .ok (.iadd, 1) := by decide +kernel
theorem dX12_mends_41 : decode cX12_mends 41 = .ok (.iaload, 1) := by decide +kernel
theorem dX12_mends_42 : decode cX12_mends 42 = .ok (.istore 5, 2) := by decide +kernel
theorem dX12_mends_44 : decode cX12_mends 44 = .ok (.aload_n 0, 1) := by decide +kernel
theorem dX12_mends_45 : decode cX12_mends 45 = .ok (.iload 5, 2) := by decide +kernel
theorem dX12_mends_47 : decode cX12_mends 47 = .ok (.iconst 3, 1) := by decide +kernel
theorem dX12_mends_48 : decode cX12_mends 48 = .ok (.invokevirtual 97, 3) := by decide +kernel
theorem dX12_mends_51 : decode cX12_mends 51 = .ok (.istore 6, 2) := by decide +kernel
theorem dX12_mends_53 : decode cX12_mends 53 = .ok (.iload 6, 2) := by decide +kernel
theorem dX12_mends_55 : decode cX12_mends 55 = .ok (.ifCond .lt 21, 3) := by decide +kernel
theorem dX12_mends_58 : decode cX12_mends 58 = .ok (.aload_n 0, 1) := by decide +kernel
theorem dX12_mends_59 : decode cX12_mends 59 = .ok (.iload 6, 2) := by decide +kernel
theorem dX12_mends_61 : decode cX12_mends 61 = .ok (.invokevirtual 311, 3) := by decide +kernel
theorem dX12_mends_64 : decode cX12_mends 64 = .ok (.ifCond .eq 12, 3) := by decide +kernel
theorem dX12_mends_67 : decode cX12_mends 67 = .ok (.iload_n 1, 1) := by decide +kernel
theorem dX12_mends_68 : decode cX12_mends 68 = .ok (.iload 6, 2) := by decide +kernel
theorem dX12_mends_70 : decode cX12_mends 70 = .ok (.invokestatic 246, 3) := by decide +kernel
theorem dX12_mends_73 : decode cX12_mends 73 = .ok (.ifCond .eq 7, 3) := by decide +kernel
theorem dX12_mends_76 : decode cX12_mends 76 = .ok (.iconst 1, 1) := by decide +kernel
theorem dX12_mends_77 : decode cX12_mends 77 = .ok (.goto 4, 3) := by decide +kernel
theorem dX12_mends_80 : decode cX12_mends 80 = .ok (.iconst 0, 1) := by decide +kernel
theorem dX12_mends_81 : decode cX12_mends 81 = .ok (.istore 7, 2) := by decide +kernel
theorem dX12_mends_83 : decode cX12_mends 83 = .ok (.iload_n 1, 1) := by decide +kernel
theorem dX12_mends_84 : decode cX12_mends 84 = .ok (.iload 5, 2) := by decide +kernel
theorem dX12_mends_86 : decode cX12_mends 86 = .ok (.invokestatic 246, 3) := by decide +kernel
theorem dX12_mends_89 : decode cX12_mends 89 = .ok (.ifCond .ne 13, 3) := by decide +kernel
theorem dX12_mends_92 : decode cX12_mends 92 = .ok (.iload 7, 2) := by decide +kernel
theorem dX12_mends_94 : decode cX12_mends 94 = .ok (.ifCond .eq 8, 3) := by decide +kernel
theorem dX12_mends_97 : decode cX12_mends 97 = .ok (.iload 5, 2) := by decide +kernel
theorem dX12_mends_99 : decode cX12_mends 99 = .ok (.goto 4, 3) := by decide +kernel
theorem dX12_mends_102 : decode cX12_mends 102 = .ok (.iload_n 3, 1) := by decide +kernel
theorem dX12_mends_103 : decode cX12_mends 103 = .ok (.istore_n 3, 1) := by decide +kernel
theorem dX12_mends_104 : decode cX12_mends 104 = .ok (.iinc 4 (-1), 3) := by decide +kernel
theorem dX12_mends_107 : decode cX12_mends 107 = .ok (.goto (-81), 3) := by decide +kernel
theorem dX12_mends_110 : decode cX12_mends 110 = .ok (.aload_n 0, 1) := by decide +kernel
theorem dX12_mends_111 : decode cX12_mends 111 = .ok (.getfield 47, 3) := by decide +kernel
theorem dX12_mends_114 : decode cX12_mends 114 = .ok (.iload_n 2, 1) := by decide +kernel
theorem dX12_mends_115 : decode cX12_mends 115 = .ok (.iload_n 3, 1) := by decide +kernel
theorem dX12_mends_116 : decode cX12_mends 116 = .ok (.iastore, 1) := by decide +kernel
theorem dX12_mends_117 : decode cX12_mends 117 = .ok (.iload_n 1, 1) := by decide +kernel
theorem dX12_mends_118 : decode cX12_mends 118 = .ok (.iconst 1, 1) := by decide +kernel
theorem dX12_mends_119 : decode cX12_mends 119 = .ok (.iload_n 3, 1) := by decide +kernel
theorem dX12_mends_120 : decode cX12_mends 120 = .ok (.ishl, 1) := by decide +kernel
theorem dX12_mends_121 : decode cX12_mends 121 = .ok (.ior, 1) := by decide +kernel
theorem dX12_mends_122 : decode cX12_mends 122 = .ok (.istore_n 1, 1) := by decide +kernel
theorem dX12_mends_123 : decode cX12_mends 123 = .ok (.iinc 2 1, 3) := by decide +kernel
theorem dX12_mends_126 : decode cX12_mends 126 = .ok (.goto (-122), 3) := by decide +kernel
theorem dX12_mends_129 : decode cX12_mends 129 = .ok (.return_, 1) := by decide +kernel
theorem dX12_order_0 : decode cX12_order 0 = .ok (.iload_n 1, 1) := by decide +kernel
theorem dX12_order_1 : decode cX12_order 1 = .ok (.iconst 0, 1) := by decide +kernel
theorem dX12_order_2 : decode cX12_order 2 = .ok (.iconst 1, 1) := by decide +kernel
theorem dX12_order_3 : decode cX12_order 3 = .ok (.invokestatic 75, 3) := by decide +kernel
theorem dX12_order_6 : decode cX12_order 6 = .ok (.ifCond .eq 7, 3) := by decide +kernel
theorem dX12_order_9 : decode cX12_order 9 = .ok (.iload_n 2, 1) := by decide +kernel
theorem dX12_order_10 : decode cX12_order 10 = .ok (.ifCond .ge 10, 3) := by decide +kernel
theorem dX12_order_13 : decode cX12_order 13 = .ok (.aload_n 0, 1) := by decide +kernel
theorem dX12_order_14 : decode cX12_order 14 = .ok (.ldc 83, 2) := by decide +kernel
theorem dX12_order_16 : decode cX12_order 16 = .ok (.invokevirtual 84, 3) := by decide +kernel
theorem dX12_order_19 : decode cX12_order 19 = .ok (.ireturn, 1) := by decide +kernel
theorem dX12_order_20 : decode cX12_order 20 = .ok (.iload_n 2, 1) := by decide +kernel
theorem dX12_order_21 : decode cX12_order 21 = .ok (.aload_n 0, 1) := by decide +kernel
theorem dX12_order_22 : decode cX12_order 22 = .ok (.getfield 9, 3) := by decide +kernel
theorem dX12_order_25 : decode cX12_order 25 = .ok (.iconst 4, 1) := by decide +kernel
theorem dX12_order_26 : decode cX12_order 26 = .ok (.iaload, 1) := by decide +kernel
theorem dX12_order_27 : decode cX12_order 27 = .ok (.if_icmp .lt 11, 3) := by decide +kernel
theorem dX12_order_30 : decode cX12_order 30 = .ok (.aload_n 0, 1) := by decide +kernel
theorem dX12_order_31 : decode cX12_order 31 = .ok (.ldc_w 294, 3) := by decide +kernel
theorem dX12_order_34 : decode cX12_order 34 = .ok (.invokevirtual 84, 3) := by decide +kernel
theorem dX12_order_37 : decode cX12_order 37 = .ok (.ireturn, 1) := by decide +kernel
theorem dX12_order_38 : decode cX12_order 38 = .ok (.aload_n 0, 1) := by decide +kernel
theorem dX12_order_39 : decode cX12_order 39 = .ok (.invokevirtual 314, 3) := by decide +kernel
theorem dX12_order_42 : decode cX12_order 42 = .ok (.iload_n 1, 1) := by decide +kernel
theorem dX12_order_43 : decode cX12_order 43 = .ok (.ifCond .ne 16, 3) := by decide +kernel
theorem dX12_order_46 : decode cX12_order 46 = .ok (.aload_n 0, 1) := by decide +kernel
theorem dX12_order_47 : decode cX12_order 47 = .ok (.getfield 9, 3) := by decide +kernel
theorem dX12_order_50 : decode cX12_order 50 = .ok (.sipush 183, 3) := by decide +kernel
theorem dX12_order_53 : decode cX12_order 53 = .ok (.iload_n 2, 1) := by decide +kernel
theorem dX12_order_54 : decode cX12_order 54 = .ok (.iadd, 1) := by decide +kernel
theorem dX12_order_55 : decode cX12_order 55 = .ok (.iaload, 1) := by decide +kernel
theorem dX12_order_56 : decode cX12_order 56 = .ok (.goto 9, 3) := by decide +kernel
theorem dX12_order_59 : decode cX12_order 59 = .ok (.aload_n 0, 1) := by decide +kernel
theorem dX12_order_60 : decode cX12_order 60 = .ok (.getfield 47, 3) := by decide +kernel
theorem dX12_order_63 : decode cX12_order 63 = .ok (.iload_n 2, 1) := by decide +kernel
theorem dX12_order_64 : decode cX12_order 64 = .ok (.iaload, 1) := by decide +kernel
theorem dX12_order_65 : decode cX12_order 65 = .ok (.ireturn, 1) := by decide +kernel
theorem dX12_before_0 : decode cX12_before 0 = .ok (.iconst 0, 1) := by decide +kernel
theorem dX12_before_1 : decode cX12_before 1 = .ok (.istore_n 1, 1) := by decide +kernel
theorem dX12_before_2 : decode cX12_before 2 = .ok (.iconst 0, 1) := by decide +kernel
theorem dX12_before_3 : decode cX12_before 3 = .ok (.istore_n 2, 1) := by decide +kernel
theorem dX12_before_4 : decode cX12_before 4 = .ok (.iload_n 2, 1) := by decide +kernel
theorem dX12_before_5 : decode cX12_before 5 = .ok (.aload_n 0, 1) := by decide +kernel
theorem dX12_before_6 : decode cX12_before 6 = .ok (.getfield 9, 3) := by decide +kernel
theorem dX12_before_9 : decode cX12_before 9 = .ok (.iconst 4, 1) := by decide +kernel
theorem dX12_before_10 : decode cX12_before 10 = .ok (.iaload, 1) := by decide +kernel
theorem dX12_before_11 : decode cX12_before 11 = .ok (.if_icmp .ge 50, 3) := by decide +kernel
theorem dX12_before_14 : decode cX12_before 14 = .ok (.aload_n 0, 1) := by decide +kernel
theorem dX12_before_15 : decode cX12_before 15 = .ok (.getfield 9, 3) := by decide +kernel
theorem dX12_before_18 : decode cX12_before 18 = .ok (.sipush 183, 3) := by decide +kernel
theorem dX12_before_21 : decode cX12_before 21 = .ok (.iload_n 2, 1) := by decide +kernel
theorem dX12_before_22 : decode cX12_before 22 = .ok (.iadd, 1) := by decide +kernel
theorem dX12_before_23 : decode cX12_before 23 = .ok (.iaload, 1) := by decide +kernel
theorem dX12_before_24 : decode cX12_before 24 = .ok (.istore_n 3, 1) := by decide +kernel
theorem dX12_before_25 : decode cX12_before 25 = .ok (.aload_n 0, 1) := by decide +kernel
theorem dX12_before_26 : decode cX12_before 26 = .ok (.iload_n 3, 1) := by decide +kernel
theorem dX12_before_27 : decode cX12_before 27 = .ok (.iconst 3, 1) := by decide +kernel
theorem dX12_before_28 : decode cX12_before 28 = .ok (.invokevirtual 97, 3) := by decide +kernel
theorem dX12_before_31 : decode cX12_before 31 = .ok (.istore 4, 2) := by decide +kernel
theorem dX12_before_33 : decode cX12_before 33 = .ok (.iload 4, 2) := by decide +kernel
theorem dX12_before_35 : decode cX12_before 35 = .ok (.ifCond .lt 14, 3) := by decide +kernel
theorem dX12_before_38 : decode cX12_before 38 = .ok (.iload_n 1, 1) := by decide +kernel
theorem dX12_before_39 : decode cX12_before 39 = .ok (.iload 4, 2) := by decide +kernel
theorem dX12_before_41 : decode cX12_before 41 = .ok (.invokestatic 246, 3) := by decide +kernel
theorem dX12_before_44 : decode cX12_before 44 = .ok (.ifCond .ne 5, 3) := by decide +kernel
theorem dX12_before_47 : decode cX12_before 47 = .ok (.iload_n 3, 1) := by decide +kernel
theorem dX12_before_48 : decode cX12_before 48 = .ok (.ireturn, 1) := by decide +kernel
theorem dX12_before_49 : decode cX12_before 49 = .ok (.iload_n 1, 1) := by decide +kernel
theorem dX12_before_50 : decode cX12_before 50 = .ok (.iconst 1, 1) := by decide +kernel
theorem dX12_before_51 : decode cX12_before 51 = .ok (.iload_n 3, 1) := by decide +kernel
theorem dX12_before_52 : decode cX12_before 52 = .ok (.ishl, 1) := by decide +kernel
theorem dX12_before_53 : decode cX12_before 53 = .ok (.ior, 1) := by decide +kernel
theorem dX12_before_54 : decode cX12_before 54 = .ok (.istore_n 1, 1) := by decide +kernel
theorem dX12_before_55 : decode cX12_before 55 = .ok (.iinc 2 1, 3) := by decide +kernel
theorem dX12_before_58 : decode cX12_before 58 = .ok (.goto (-54), 3) := by decide +kernel
theorem dX12_before_61 : decode cX12_before 61 = .ok (.aload_n 0, 1) := by decide +kernel
theorem dX12_before_62 : decode cX12_before 62 = .ok (.ldc_w 294, 3) := by decide +kernel
theorem dX12_before_65 : decode cX12_before 65 = .ok (.invokevirtual 84, 3) := by decide +kernel
theorem dX12_before_68 : decode cX12_before 68 = .ok (.ireturn, 1) := by decide +kernel
theorem dX12_seed_0 : decode cX12_seed 0 = .ok (.aload_n 0, 1) := by decide +kernel
theorem dX12_seed_1 : decode cX12_seed 1 = .ok (.bipush 8, 2) := by decide +kernel
theorem dX12_seed_3 : decode cX12_seed 3 = .ok (.iload_n 1, 1) := by decide +kernel
theorem dX12_seed_4 : decode cX12_seed 4 = .ok (.invokevirtual 110, 3) := by decide +kernel
theorem dX12_seed_7 : decode cX12_seed 7 = .ok (.ireturn, 1) := by decide +kernel
theorem dX12_began_0 : decode cX12_began 0 = .ok (.aload_n 0, 1) := by decide +kernel
theorem dX12_began_1 : decode cX12_began 1 = .ok (.getfield 317, 3) := by decide +kernel
theorem dX12_began_4 : decode cX12_began 4 = .ok (.bipush 40, 2) := by decide +kernel
theorem dX12_began_6 : decode cX12_began 6 = .ok (.if_icmp .ge 23, 3) := by decide +kernel
theorem dX12_began_9 : decode cX12_began 9 = .ok (.aload_n 0, 1) := by decide +kernel
theorem dX12_began_10 : decode cX12_began 10 = .ok (.getfield 50, 3) := by decide +kernel
theorem dX12_began_13 : decode cX12_began 13 = .ok (.aload_n 0, 1) := by decide +kernel
theorem dX12_began_14 : decode cX12_began 14 = .ok (.getfield 317, 3) := by decide +kernel
theorem dX12_began_17 : decode cX12_began 17 = .ok (.iload_n 1, 1) := by decide +kernel
theorem dX12_began_18 : decode cX12_began 18 = .ok (.iastore, 1) := by decide +kernel
theorem dX12_began_19 : decode cX12_began 19 = .ok (.aload_n 0, 1) := by decide +kernel
theorem dX12_began_20 : decode cX12_began 20 = .ok (.dup, 1) := by decide +kernel
theorem dX12_began_21 : decode cX12_began 21 = .ok (.getfield 317, 3) := by decide +kernel
theorem dX12_began_24 : decode cX12_began 24 = .ok (.iconst 1, 1) := by decide +kernel
theorem dX12_began_25 : decode cX12_began 25 = .ok (.iadd, 1) := by decide +kernel
theorem dX12_began_26 : decode cX12_began 26 = .ok (.putfield 317, 3) := by decide +kernel
theorem dX12_began_29 : decode cX12_began 29 = .ok (.return_, 1) := by decide +kernel
theorem dX12_hasOwn_0 : decode cX12_hasOwn 0 = .ok (.iload_n 0, 1) := by decide +kernel
theorem dX12_hasOwn_1 : decode cX12_hasOwn 1 = .ok (.tableswitch 84 0 5 #[39, 41, 52, 62, 41, 73], 39) := by decide +kernel
theorem dX12_hasOwn_40 : decode cX12_hasOwn 40 = .ok (.iconst 1, 1) := by decide +kernel
theorem dX12_hasOwn_41 : decode cX12_hasOwn 41 = .ok (.ireturn, 1) := by decide +kernel
theorem dX12_hasOwn_42 : decode cX12_hasOwn 42 = .ok (.iload_n 1, 1) := by decide +kernel
theorem dX12_hasOwn_43 : decode cX12_hasOwn 43 = .ok (.iconst 1, 1) := by decide +kernel
theorem dX12_hasOwn_44 : decode cX12_hasOwn 44 = .ok (.if_icmp .ne 7, 3) := by decide +kernel
theorem dX12_hasOwn_47 : decode cX12_hasOwn 47 = .ok (.iconst 1, 1) := by decide +kernel
theorem dX12_hasOwn_48 : decode cX12_hasOwn 48 = .ok (.goto 4, 3) := by decide +kernel
theorem dX12_hasOwn_51 : decode cX12_hasOwn 51 = .ok (.iconst 0, 1) := by decide +kernel
theorem dX12_hasOwn_52 : decode cX12_hasOwn 52 = .ok (.ireturn, 1) := by decide +kernel
theorem dX12_hasOwn_53 : decode cX12_hasOwn 53 = .ok (.iload_n 1, 1) := by decide +kernel
theorem dX12_hasOwn_54 : decode cX12_hasOwn 54 = .ok (.ifCond .ne 7, 3) := by decide +kernel
theorem dX12_hasOwn_57 : decode cX12_hasOwn 57 = .ok (.iconst 1, 1) := by decide +kernel
theorem dX12_hasOwn_58 : decode cX12_hasOwn 58 = .ok (.goto 4, 3) := by decide +kernel
theorem dX12_hasOwn_61 : decode cX12_hasOwn 61 = .ok (.iconst 0, 1) := by decide +kernel
theorem dX12_hasOwn_62 : decode cX12_hasOwn 62 = .ok (.ireturn, 1) := by decide +kernel
theorem dX12_hasOwn_63 : decode cX12_hasOwn 63 = .ok (.iload_n 1, 1) := by decide +kernel
theorem dX12_hasOwn_64 : decode cX12_hasOwn 64 = .ok (.iconst 2, 1) := by decide +kernel
theorem dX12_hasOwn_65 : decode cX12_hasOwn 65 = .ok (.if_icmp .ne 7, 3) := by decide +kernel
theorem dX12_hasOwn_68 : decode cX12_hasOwn 68 = .ok (.iconst 1, 1) := by decide +kernel
theorem dX12_hasOwn_69 : decode cX12_hasOwn 69 = .ok (.goto 4, 3) := by decide +kernel
theorem dX12_hasOwn_72 : decode cX12_hasOwn 72 = .ok (.iconst 0, 1) := by decide +kernel
theorem dX12_hasOwn_73 : decode cX12_hasOwn 73 = .ok (.ireturn, 1) := by decide +kernel
theorem dX12_hasOwn_74 : decode cX12_hasOwn 74 = .ok (.iload_n 1, 1) := by decide +kernel
theorem dX12_hasOwn_75 : decode cX12_hasOwn 75 = .ok (.iconst 3, 1) := by decide +kernel
theorem dX12_hasOwn_76 : decode cX12_hasOwn 76 = .ok (.if_icmp .ne 7, 3) := by decide +kernel
theorem dX12_hasOwn_79 : decode cX12_hasOwn 79 = .ok (.iconst 1, 1) := by decide +kernel
theorem dX12_hasOwn_80 : decode cX12_hasOwn 80 = .ok (.goto 4, 3) := by decide +kernel
theorem dX12_hasOwn_83 : decode cX12_hasOwn 83 = .ok (.iconst 0, 1) := by decide +kernel
theorem dX12_hasOwn_84 : decode cX12_hasOwn 84 = .ok (.ireturn, 1) := by decide +kernel
theorem dX12_hasOwn_85 : decode cX12_hasOwn 85 = .ok (.iload_n 1, 1) := by decide +kernel
theorem dX12_hasOwn_86 : decode cX12_hasOwn 86 = .ok (.iconst 1, 1) := by decide +kernel
theorem dX12_hasOwn_87 : decode cX12_hasOwn 87 = .ok (.if_icmp .le 7, 3) := by decide +kernel
theorem dX12_hasOwn_90 : decode cX12_hasOwn 90 = .ok (.iconst 1, 1) := by decide +kernel
theorem dX12_hasOwn_91 : decode cX12_hasOwn 91 = .ok (.goto 4, 3) := by decide +kernel
theorem dX12_hasOwn_94 : decode cX12_hasOwn 94 = .ok (.iconst 0, 1) := by decide +kernel
theorem dX12_hasOwn_95 : decode cX12_hasOwn 95 = .ok (.ireturn, 1) := by decide +kernel
theorem dX12_voiced_0 : decode cX12_voiced 0 = .ok (.aload_n 0, 1) := by decide +kernel
theorem dX12_voiced_1 : decode cX12_voiced 1 = .ok (.aload_n 0, 1) := by decide +kernel
theorem dX12_voiced_2 : decode cX12_voiced 2 = .ok (.aload_n 0, 1) := by decide +kernel
theorem dX12_voiced_3 : decode cX12_voiced 3 = .ok (.getfield 320, 3) := by decide +kernel
theorem dX12_voiced_6 : decode cX12_voiced 6 = .ok (.iconst 0, 1) := by decide +kernel
theorem dX12_voiced_7 : decode cX12_voiced 7 = .ok (.invokevirtual 117, 3) := by decide +kernel
theorem dX12_voiced_10 : decode cX12_voiced 10 = .ok (.iload_n 1, 1) := by decide +kernel
theorem dX12_voiced_11 : decode cX12_voiced 11 = .ok (.iload_n 2, 1) := by decide +kernel
theorem dX12_voiced_12 : decode cX12_voiced 12 = .ok (.invokevirtual 323, 3) := by decide +kernel
theorem dX12_voiced_15 : decode cX12_voiced 15 = .ok (.ireturn, 1) := by decide +kernel
theorem dX12_bodyFrom_0 : decode cX12_bodyFrom 0 = .ok (.iload_n 1, 1) := by decide +kernel
theorem dX12_bodyFrom_1 : decode cX12_bodyFrom 1 = .ok (.istore 4, 2) := by decide +kernel
theorem dX12_bodyFrom_3 : decode cX12_bodyFrom 3 = .ok (.iload 4, 2) := by decide +kernel
theorem dX12_bodyFrom_5 : decode cX12_bodyFrom 5 = .ok (.iload_n 2, 1) := by decide +kernel
theorem dX12_bodyFrom_6 : decode cX12_bodyFrom 6 = .ok (.invokestatic 326, 3) := by decide +kernel
theorem dX12_bodyFrom_9 : decode cX12_bodyFrom 9 = .ok (.ifCond .ne 13, 3) := by decide +kernel
theorem dX12_bodyFrom_12 : decode cX12_bodyFrom 12 = .ok (.iload 4, 2) := by decide +kernel
theorem dX12_bodyFrom_14 : decode cX12_bodyFrom 14 = .ok (.invokestatic 120, 3) := by decide +kernel
theorem dX12_bodyFrom_17 : decode cX12_bodyFrom 17 = .ok (.istore 4, 2) := by decide +kernel
theorem dX12_bodyFrom_19 : decode cX12_bodyFrom 19 = .ok (.goto (-16), 3) := by decide +kernel
theorem dX12_bodyFrom_22 : decode cX12_bodyFrom 22 = .ok (.aload_n 0, 1) := by decide +kernel
theorem dX12_bodyFrom_23 : decode cX12_bodyFrom 23 = .ok (.iload 4, 2) := by decide +kernel
theorem dX12_bodyFrom_25 : decode cX12_bodyFrom 25 = .ok (.iload_n 2, 1) := by decide +kernel
theorem dX12_bodyFrom_26 : decode cX12_bodyFrom 26 = .ok (.iload_n 3, 1) := by decide +kernel
theorem dX12_bodyFrom_27 : decode cX12_bodyFrom 27 = .ok (.invokevirtual 329, 3) := by decide +kernel
theorem dX12_bodyFrom_30 : decode cX12_bodyFrom 30 = .ok (.ireturn, 1) := by decide +kernel
theorem dX12_body_0 : decode cX12_body 0 = .ok (.aload_n 0, 1) := by decide +kernel
theorem dX12_body_1 : decode cX12_body 1 = .ok (.getfield 320, 3) := by decide +kernel
theorem dX12_body_4 : decode cX12_body 4 = .ok (.istore 4, 2) := by decide +kernel
theorem dX12_body_6 : decode cX12_body 6 = .ok (.aload_n 0, 1) := by decide +kernel
theorem dX12_body_7 : decode cX12_body 7 = .ok (.aload_n 0, 1) := by decide +kernel
theorem dX12_body_8 : decode cX12_body 8 = .ok (.getfield 320, 3) := by decide +kernel
theorem dX12_body_11 : decode cX12_body 11 = .ok (.iconst 1, 1) := by decide +kernel
theorem dX12_body_12 : decode cX12_body 12 = .ok (.invokevirtual 117, 3) := by decide +kernel
theorem dX12_body_15 : decode cX12_body 15 = .ok (.istore 5, 2) := by decide +kernel
theorem dX12_body_17 : decode cX12_body 17 = .ok (.iconst 4, 1) := by decide +kernel
theorem dX12_body_18 : decode cX12_body 18 = .ok (.iload_n 1, 1) := by decide +kernel
theorem dX12_body_19 : decode cX12_body 19 = .ok (.imul, 1) := by decide +kernel
theorem dX12_body_20 : decode cX12_body 20 = .ok (.iload_n 2, 1) := by decide +kernel
theorem dX12_body_21 : decode cX12_body 21 = .ok (.iadd, 1) := by decide +kernel
theorem dX12_body_22 : decode cX12_body 22 = .ok (.tableswitch 297 0 26 #[122, 133, 148, 159, 297, 183, 297, 297, 208, 297, 297, 297, 297, 297, 224, 297, 297, 239, 297, 297, 297, 297, 297, 255, 297, 297, 280], 122) := by decide +kernel
theorem dX12_body_144 : decode cX12_body 144 = .ok (.aload_n 0, 1) := by decide +kernel
theorem dX12_body_145 : decode cX12_body 145 = .ok (.bipush 10, 2) := by decide +kernel
theorem dX12_body_147 : decode cX12_body 147 = .ok (.invokevirtual 332, 3) := by decide +kernel
theorem dX12_body_150 : decode cX12_body 150 = .ok (.iload_n 3, 1) := by decide +kernel
theorem dX12_body_151 : decode cX12_body 151 = .ok (.iload 4, 2) := by decide +kernel
theorem dX12_body_153 : decode cX12_body 153 = .ok (.iadd, 1) := by decide +kernel
theorem dX12_body_154 : decode cX12_body 154 = .ok (.ireturn, 1) := by decide +kernel
theorem dX12_body_155 : decode cX12_body 155 = .ok (.aload_n 0, 1) := by decide +kernel
theorem dX12_body_156 : decode cX12_body 156 = .ok (.bipush 11, 2) := by decide +kernel
theorem dX12_body_158 : decode cX12_body 158 = .ok (.invokevirtual 332, 3) := by decide +kernel
theorem dX12_body_161 : decode cX12_body 161 = .ok (.aload_n 0, 1) := by decide +kernel
theorem dX12_body_162 : decode cX12_body 162 = .ok (.iconst 0, 1) := by decide +kernel
theorem dX12_body_163 : decode cX12_body 163 = .ok (.iload_n 3, 1) := by decide +kernel
theorem dX12_body_164 : decode cX12_body 164 = .ok (.invokevirtual 335, 3) := by decide +kernel
theorem dX12_body_167 : decode cX12_body 167 = .ok (.iconst 2, 1) := by decide +kernel
theorem dX12_body_168 : decode cX12_body 168 = .ok (.imul, 1) := by decide +kernel
theorem dX12_body_169 : decode cX12_body 169 = .ok (.ireturn, 1) := by decide +kernel
theorem dX12_body_170 : decode cX12_body 170 = .ok (.aload_n 0, 1) := by decide +kernel
theorem dX12_body_171 : decode cX12_body 171 = .ok (.bipush 12, 2) := by decide +kernel
theorem dX12_body_173 : decode cX12_body 173 = .ok (.invokevirtual 332, 3) := by decide +kernel
theorem dX12_body_176 : decode cX12_body 176 = .ok (.iload_n 3, 1) := by decide +kernel
theorem dX12_body_177 : decode cX12_body 177 = .ok (.iload 5, 2) := by decide +kernel
theorem dX12_body_179 : decode cX12_body 179 = .ok (.isub, 1) := by decide +kernel
theorem dX12_body_180 : decode cX12_body 180 = .ok (.ireturn, 1) := by decide +kernel
theorem dX12_body_181 : decode cX12_body 181 = .ok (.aload_n 0, 1) := by decide +kernel
theorem dX12_body_182 : decode cX12_body 182 = .ok (.bipush 13, 2) := by decide +kernel
theorem dX12_body_184 : decode cX12_body 184 = .ok (.invokevirtual 332, 3) := by decide +kernel
theorem dX12_body_187 : decode cX12_body 187 = .ok (.aload_n 0, 1) := by decide +kernel
theorem dX12_body_188 : decode cX12_body 188 = .ok (.iconst 1, 1) := by decide +kernel
theorem dX12_body_189 : decode cX12_body 189 = .ok (.iload_n 3, 1) := by decide +kernel
theorem dX12_body_190 : decode cX12_body 190 = .ok (.invokevirtual 335, 3) := by decide +kernel
theorem dX12_body_193 : decode cX12_body 193 = .ok (.istore 6, 2) := by decide +kernel
theorem dX12_body_195 : decode cX12_body 195 = .ok (.iload 6, 2) := by decide +kernel
theorem dX12_body_197 : decode cX12_body 197 = .ok (.aload_n 0, 1) := by decide +kernel
theorem dX12_body_198 : decode cX12_body 198 = .ok (.iconst 2, 1) := by decide +kernel
theorem dX12_body_199 : decode cX12_body 199 = .ok (.iload_n 3, 1) := by decide +kernel
theorem dX12_body_200 : decode cX12_body 200 = .ok (.invokevirtual 335, 3) := by decide +kernel
theorem dX12_body_203 : decode cX12_body 203 = .ok (.ixor, 1) := by decide +kernel
theorem dX12_body_204 : decode cX12_body 204 = .ok (.ireturn, 1) := by decide +kernel
theorem dX12_body_205 : decode cX12_body 205 = .ok (.aload_n 0, 1) := by decide +kernel
theorem dX12_body_206 : decode cX12_body 206 = .ok (.bipush 20, 2) := by decide +kernel
theorem dX12_body_208 : decode cX12_body 208 = .ok (.invokevirtual 332, 3) := by decide +kernel
theorem dX12_body_211 : decode cX12_body 211 = .ok (.aload_n 0, 1) := by decide +kernel
theorem dX12_body_212 : decode cX12_body 212 = .ok (.iconst 0, 1) := by decide +kernel
theorem dX12_body_213 : decode cX12_body 213 = .ok (.iconst 1, 1) := by decide +kernel
theorem dX12_body_214 : decode cX12_body 214 = .ok (.iload_n 3, 1) := by decide +kernel
theorem dX12_body_215 : decode cX12_body 215 = .ok (.invokevirtual 323, 3) := by decide +kernel
theorem dX12_body_218 : decode cX12_body 218 = .ok (.istore 6, 2) := by decide +kernel
theorem dX12_body_220 : decode cX12_body 220 = .ok (.iload 6, 2) := by decide +kernel
theorem dX12_body_222 : decode cX12_body 222 = .ok (.aload_n 0, 1) := by decide +kernel
theorem dX12_body_223 : decode cX12_body 223 = .ok (.iconst 2, 1) := by decide +kernel
theorem dX12_body_224 : decode cX12_body 224 = .ok (.iconst 1, 1) := by decide +kernel
theorem dX12_body_225 : decode cX12_body 225 = .ok (.invokevirtual 335, 3) := by decide +kernel
theorem dX12_body_228 : decode cX12_body 228 = .ok (.isub, 1) := by decide +kernel
theorem dX12_body_229 : decode cX12_body 229 = .ok (.ireturn, 1) := by decide +kernel
theorem dX12_body_230 : decode cX12_body 230 = .ok (.aload_n 0, 1) := by decide +kernel
theorem dX12_body_231 : decode cX12_body 231 = .ok (.bipush 30, 2) := by decide +kernel
theorem dX12_body_233 : decode cX12_body 233 = .ok (.invokevirtual 332, 3) := by decide +kernel
theorem dX12_body_236 : decode cX12_body 236 = .ok (.aload_n 0, 1) := by decide +kernel
theorem dX12_body_237 : decode cX12_body 237 = .ok (.iconst 0, 1) := by decide +kernel
theorem dX12_body_238 : decode cX12_body 238 = .ok (.iconst 0, 1) := by decide +kernel
theorem dX12_body_239 : decode cX12_body 239 = .ok (.iload_n 3, 1) := by decide +kernel
theorem dX12_body_240 : decode cX12_body 240 = .ok (.invokevirtual 323, 3) := by decide +kernel
theorem dX12_body_243 : decode cX12_body 243 = .ok (.iconst 3, 1) := by decide +kernel
theorem dX12_body_244 : decode cX12_body 244 = .ok (.imul, 1) := by decide +kernel
theorem dX12_body_245 : decode cX12_body 245 = .ok (.ireturn, 1) := by decide +kernel
theorem dX12_body_246 : decode cX12_body 246 = .ok (.aload_n 0, 1) := by decide +kernel
theorem dX12_body_247 : decode cX12_body 247 = .ok (.bipush 40, 2) := by decide +kernel
theorem dX12_body_249 : decode cX12_body 249 = .ok (.invokevirtual 332, 3) := by decide +kernel
theorem dX12_body_252 : decode cX12_body 252 = .ok (.aload_n 0, 1) := by decide +kernel
theorem dX12_body_253 : decode cX12_body 253 = .ok (.iconst 0, 1) := by decide +kernel
theorem dX12_body_254 : decode cX12_body 254 = .ok (.iconst 2, 1) := by decide +kernel
theorem dX12_body_255 : decode cX12_body 255 = .ok (.iload_n 3, 1) := by decide +kernel
theorem dX12_body_256 : decode cX12_body 256 = .ok (.invokevirtual 323, 3) := by decide +kernel
theorem dX12_body_259 : decode cX12_body 259 = .ok (.ineg, 1) := by decide +kernel
theorem dX12_body_260 : decode cX12_body 260 = .ok (.ireturn, 1) := by decide +kernel
theorem dX12_body_261 : decode cX12_body 261 = .ok (.aload_n 0, 1) := by decide +kernel
theorem dX12_body_262 : decode cX12_body 262 = .ok (.bipush 50, 2) := by decide +kernel
theorem dX12_body_264 : decode cX12_body 264 = .ok (.invokevirtual 332, 3) := by decide +kernel
theorem dX12_body_267 : decode cX12_body 267 = .ok (.aload_n 0, 1) := by decide +kernel
theorem dX12_body_268 : decode cX12_body 268 = .ok (.iconst 1, 1) := by decide +kernel
theorem dX12_body_269 : decode cX12_body 269 = .ok (.iconst 1, 1) := by decide +kernel
theorem dX12_body_270 : decode cX12_body 270 = .ok (.iload_n 3, 1) := by decide +kernel
theorem dX12_body_271 : decode cX12_body 271 = .ok (.iconst 1, 1) := by decide +kernel
theorem dX12_body_272 : decode cX12_body 272 = .ok (.iadd, 1) := by decide +kernel
theorem dX12_body_273 : decode cX12_body 273 = .ok (.invokevirtual 323, 3) := by decide +kernel
theorem dX12_body_276 : decode cX12_body 276 = .ok (.ireturn, 1) := by decide +kernel
theorem dX12_body_277 : decode cX12_body 277 = .ok (.aload_n 0, 1) := by decide +kernel
theorem dX12_body_278 : decode cX12_body 278 = .ok (.bipush 60, 2) := by decide +kernel
theorem dX12_body_280 : decode cX12_body 280 = .ok (.invokevirtual 332, 3) := by decide +kernel
theorem dX12_body_283 : decode cX12_body 283 = .ok (.aload_n 0, 1) := by decide +kernel
theorem dX12_body_284 : decode cX12_body 284 = .ok (.iconst 2, 1) := by decide +kernel
theorem dX12_body_285 : decode cX12_body 285 = .ok (.iconst 3, 1) := by decide +kernel
theorem dX12_body_286 : decode cX12_body 286 = .ok (.iload_n 3, 1) := by decide +kernel
theorem dX12_body_287 : decode cX12_body 287 = .ok (.invokevirtual 323, 3) := by decide +kernel
theorem dX12_body_290 : decode cX12_body 290 = .ok (.istore 6, 2) := by decide +kernel
theorem dX12_body_292 : decode cX12_body 292 = .ok (.iload 6, 2) := by decide +kernel
theorem dX12_body_294 : decode cX12_body 294 = .ok (.aload_n 0, 1) := by decide +kernel
theorem dX12_body_295 : decode cX12_body 295 = .ok (.iconst 0, 1) := by decide +kernel
theorem dX12_body_296 : decode cX12_body 296 = .ok (.iconst 2, 1) := by decide +kernel
theorem dX12_body_297 : decode cX12_body 297 = .ok (.invokevirtual 335, 3) := by decide +kernel
theorem dX12_body_300 : decode cX12_body 300 = .ok (.isub, 1) := by decide +kernel
theorem dX12_body_301 : decode cX12_body 301 = .ok (.ireturn, 1) := by decide +kernel
theorem dX12_body_302 : decode cX12_body 302 = .ok (.aload_n 0, 1) := by decide +kernel
theorem dX12_body_303 : decode cX12_body 303 = .ok (.bipush 70, 2) := by decide +kernel
theorem dX12_body_305 : decode cX12_body 305 = .ok (.invokevirtual 332, 3) := by decide +kernel
theorem dX12_body_308 : decode cX12_body 308 = .ok (.aload_n 0, 1) := by decide +kernel
theorem dX12_body_309 : decode cX12_body 309 = .ok (.iconst 3, 1) := by decide +kernel
theorem dX12_body_310 : decode cX12_body 310 = .ok (.iconst 2, 1) := by decide +kernel
theorem dX12_body_311 : decode cX12_body 311 = .ok (.iload_n 3, 1) := by decide +kernel
theorem dX12_body_312 : decode cX12_body 312 = .ok (.invokevirtual 323, 3) := by decide +kernel
theorem dX12_body_315 : decode cX12_body 315 = .ok (.iload 4, 2) := by decide +kernel
theorem dX12_body_317 : decode cX12_body 317 = .ok (.ixor, 1) := by decide +kernel
theorem dX12_body_318 : decode cX12_body 318 = .ok (.ireturn, 1) := by decide +kernel
theorem dX12_body_319 : decode cX12_body 319 = .ok (.aload_n 0, 1) := by decide +kernel
theorem dX12_body_320 : decode cX12_body 320 = .ok (.bipush 71, 2) := by decide +kernel
theorem dX12_body_322 : decode cX12_body 322 = .ok (.invokevirtual 332, 3) := by decide +kernel
theorem dX12_body_325 : decode cX12_body 325 = .ok (.aload_n 0, 1) := by decide +kernel
theorem dX12_body_326 : decode cX12_body 326 = .ok (.iconst 1, 1) := by decide +kernel
theorem dX12_body_327 : decode cX12_body 327 = .ok (.iload_n 3, 1) := by decide +kernel
theorem dX12_body_328 : decode cX12_body 328 = .ok (.invokevirtual 335, 3) := by decide +kernel
theorem dX12_body_331 : decode cX12_body 331 = .ok (.istore 6, 2) := by decide +kernel
theorem dX12_body_333 : decode cX12_body 333 = .ok (.iload 6, 2) := by decide +kernel
theorem dX12_body_335 : decode cX12_body 335 = .ok (.aload_n 0, 1) := by decide +kernel
theorem dX12_body_336 : decode cX12_body 336 = .ok (.iconst 3, 1) := by decide +kernel
theorem dX12_body_337 : decode cX12_body 337 = .ok (.iconst 3, 1) := by decide +kernel
theorem dX12_body_338 : decode cX12_body 338 = .ok (.iload_n 3, 1) := by decide +kernel
theorem dX12_body_339 : decode cX12_body 339 = .ok (.invokevirtual 323, 3) := by decide +kernel
theorem dX12_body_342 : decode cX12_body 342 = .ok (.isub, 1) := by decide +kernel
theorem dX12_body_343 : decode cX12_body 343 = .ok (.ireturn, 1) := by decide +kernel
theorem dX12_voice_0 : decode cX12_voice 0 = .ok (.aload_n 0, 1) := by decide +kernel
theorem dX12_voice_1 : decode cX12_voice 1 = .ok (.iload_n 1, 1) := by decide +kernel
theorem dX12_voice_2 : decode cX12_voice 2 = .ok (.iconst 2, 1) := by decide +kernel
theorem dX12_voice_3 : decode cX12_voice 3 = .ok (.invokevirtual 100, 3) := by decide +kernel
theorem dX12_voice_6 : decode cX12_voice 6 = .ok (.ifCond .eq 12, 3) := by decide +kernel
theorem dX12_voice_9 : decode cX12_voice 9 = .ok (.iload_n 2, 1) := by decide +kernel
theorem dX12_voice_10 : decode cX12_voice 10 = .ok (.iconst 0, 1) := by decide +kernel
theorem dX12_voice_11 : decode cX12_voice 11 = .ok (.iconst 3, 1) := by decide +kernel
theorem dX12_voice_12 : decode cX12_voice 12 = .ok (.invokestatic 75, 3) := by decide +kernel
theorem dX12_voice_15 : decode cX12_voice 15 = .ok (.ifCond .ne 10, 3) := by decide +kernel
theorem dX12_voice_18 : decode cX12_voice 18 = .ok (.aload_n 0, 1) := by decide +kernel
theorem dX12_voice_19 : decode cX12_voice 19 = .ok (.ldc 83, 2) := by decide +kernel
theorem dX12_voice_21 : decode cX12_voice 21 = .ok (.invokevirtual 84, 3) := by decide +kernel
theorem dX12_voice_24 : decode cX12_voice 24 = .ok (.ireturn, 1) := by decide +kernel
theorem dX12_voice_25 : decode cX12_voice 25 = .ok (.aload_n 0, 1) := by decide +kernel
theorem dX12_voice_26 : decode cX12_voice 26 = .ok (.iconst 0, 1) := by decide +kernel
theorem dX12_voice_27 : decode cX12_voice 27 = .ok (.putfield 317, 3) := by decide +kernel
theorem dX12_voice_30 : decode cX12_voice 30 = .ok (.aload_n 0, 1) := by decide +kernel
theorem dX12_voice_31 : decode cX12_voice 31 = .ok (.iload_n 1, 1) := by decide +kernel
theorem dX12_voice_32 : decode cX12_voice 32 = .ok (.putfield 320, 3) := by decide +kernel
theorem dX12_voice_35 : decode cX12_voice 35 = .ok (.aload_n 0, 1) := by decide +kernel
theorem dX12_voice_36 : decode cX12_voice 36 = .ok (.iload_n 2, 1) := by decide +kernel
theorem dX12_voice_37 : decode cX12_voice 37 = .ok (.iload_n 3, 1) := by decide +kernel
theorem dX12_voice_38 : decode cX12_voice 38 = .ok (.invokevirtual 335, 3) := by decide +kernel
theorem dX12_voice_41 : decode cX12_voice 41 = .ok (.ireturn, 1) := by decide +kernel
theorem dX12_trace_0 : decode cX12_trace 0 = .ok (.iload_n 1, 1) := by decide +kernel
theorem dX12_trace_1 : decode cX12_trace 1 = .ok (.iconst 0, 1) := by decide +kernel
theorem dX12_trace_2 : decode cX12_trace 2 = .ok (.aload_n 0, 1) := by decide +kernel
theorem dX12_trace_3 : decode cX12_trace 3 = .ok (.getfield 317, 3) := by decide +kernel
theorem dX12_trace_6 : decode cX12_trace 6 = .ok (.iconst 1, 1) := by decide +kernel
theorem dX12_trace_7 : decode cX12_trace 7 = .ok (.isub, 1) := by decide +kernel
theorem dX12_trace_8 : decode cX12_trace 8 = .ok (.invokestatic 75, 3) := by decide +kernel
theorem dX12_trace_11 : decode cX12_trace 11 = .ok (.ifCond .eq 12, 3) := by decide +kernel
theorem dX12_trace_14 : decode cX12_trace 14 = .ok (.aload_n 0, 1) := by decide +kernel
theorem dX12_trace_15 : decode cX12_trace 15 = .ok (.getfield 50, 3) := by decide +kernel
theorem dX12_trace_18 : decode cX12_trace 18 = .ok (.iload_n 1, 1) := by decide +kernel
theorem dX12_trace_19 : decode cX12_trace 19 = .ok (.iaload, 1) := by decide +kernel
theorem dX12_trace_20 : decode cX12_trace 20 = .ok (.goto 10, 3) := by decide +kernel
theorem dX12_trace_23 : decode cX12_trace 23 = .ok (.aload_n 0, 1) := by decide +kernel
theorem dX12_trace_24 : decode cX12_trace 24 = .ok (.ldc_w 294, 3) := by decide +kernel
theorem dX12_trace_27 : decode cX12_trace 27 = .ok (.invokevirtual 84, 3) := by decide +kernel
theorem dX12_trace_30 : decode cX12_trace 30 = .ok (.ireturn, 1) := by decide +kernel
theorem dX12_isSheet_0 : decode cX12_isSheet 0 = .ok (.iload_n 0, 1) := by decide +kernel
theorem dX12_isSheet_1 : decode cX12_isSheet 1 = .ok (.iconst 0, 1) := by decide +kernel
theorem dX12_isSheet_2 : decode cX12_isSheet 2 = .ok (.iconst 3, 1) := by decide +kernel
theorem dX12_isSheet_3 : decode cX12_isSheet 3 = .ok (.invokestatic 75, 3) := by decide +kernel
theorem dX12_isSheet_6 : decode cX12_isSheet 6 = .ok (.ireturn, 1) := by decide +kernel
theorem dX12_sheet_0 : decode cX12_sheet 0 = .ok (.iload_n 1, 1) := by decide +kernel
theorem dX12_sheet_1 : decode cX12_sheet 1 = .ok (.invokestatic 338, 3) := by decide +kernel
theorem dX12_sheet_4 : decode cX12_sheet 4 = .ok (.ifCond .eq 25, 3) := by decide +kernel
theorem dX12_sheet_7 : decode cX12_sheet 7 = .ok (.iload_n 2, 1) := by decide +kernel
theorem dX12_sheet_8 : decode cX12_sheet 8 = .ok (.ifCond .eq 28, 3) := by decide +kernel
theorem dX12_sheet_11 : decode cX12_sheet 11 = .ok (.iload_n 2, 1) := by decide +kernel
theorem dX12_sheet_12 : decode cX12_sheet 12 = .ok (.bipush 8, 2) := by decide +kernel
theorem dX12_sheet_14 : decode cX12_sheet 14 = .ok (.if_icmp .eq 22, 3) := by decide +kernel
theorem dX12_sheet_17 : decode cX12_sheet 17 = .ok (.iload_n 2, 1) := by decide +kernel
theorem dX12_sheet_18 : decode cX12_sheet 18 = .ok (.bipush 16, 2) := by decide +kernel
theorem dX12_sheet_20 : decode cX12_sheet 20 = .ok (.if_icmp .eq 16, 3) := by decide +kernel
theorem dX12_sheet_23 : decode cX12_sheet 23 = .ok (.iload_n 2, 1) := by decide +kernel
theorem dX12_sheet_24 : decode cX12_sheet 24 = .ok (.bipush 32, 2) := by decide +kernel
theorem dX12_sheet_26 : decode cX12_sheet 26 = .ok (.if_icmp .eq 10, 3) := by decide +kernel
theorem dX12_sheet_29 : decode cX12_sheet 29 = .ok (.aload_n 0, 1) := by decide +kernel
theorem dX12_sheet_30 : decode cX12_sheet 30 = .ok (.ldc 83, 2) := by decide +kernel
theorem dX12_sheet_32 : decode cX12_sheet 32 = .ok (.invokevirtual 84, 3) := by decide +kernel
theorem dX12_sheet_35 : decode cX12_sheet 35 = .ok (.ireturn, 1) := by decide +kernel
theorem dX12_sheet_36 : decode cX12_sheet 36 = .ok (.iload_n 2, 1) := by decide +kernel
theorem dX12_sheet_37 : decode cX12_sheet 37 = .ok (.ifCond .eq 14, 3) := by decide +kernel
theorem dX12_sheet_40 : decode cX12_sheet 40 = .ok (.iload_n 3, 1) := by decide +kernel
theorem dX12_sheet_41 : decode cX12_sheet 41 = .ok (.ifCond .ge 10, 3) := by decide +kernel
theorem dX12_sheet_44 : decode cX12_sheet 44 = .ok (.aload_n 0, 1) := by decide +kernel
theorem dX12_sheet_45 : decode cX12_sheet 45 = .ok (.ldc 92, 2) := by decide +kernel
theorem dX12_sheet_47 : decode cX12_sheet 47 = .ok (.invokevirtual 84, 3) := by decide +kernel
theorem dX12_sheet_50 : decode cX12_sheet 50 = .ok (.ireturn, 1) := by decide +kernel
theorem dX12_sheet_51 : decode cX12_sheet 51 = .ok (.iload_n 2, 1) := by decide +kernel
theorem dX12_sheet_52 : decode cX12_sheet 52 = .ok (.ifCond .eq 16, 3) := by decide +kernel
theorem dX12_sheet_55 : decode cX12_sheet 55 = .ok (.iload_n 3, 1) := by decide +kernel
theorem dX12_sheet_56 : decode cX12_sheet 56 = .ok (.bipush 40, 2) := by decide +kernel
theorem dX12_sheet_58 : decode cX12_sheet 58 = .ok (.if_icmp .le 10, 3) := by decide +kernel
theorem dX12_sheet_61 : decode cX12_sheet 61 = .ok (.aload_n 0, 1) := by decide +kernel
theorem dX12_sheet_62 : decode cX12_sheet 62 = .ok (.ldc 83, 2) := by decide +kernel
theorem dX12_sheet_64 : decode cX12_sheet 64 = .ok (.invokevirtual 84, 3) := by decide +kernel
theorem dX12_sheet_67 : decode cX12_sheet 67 = .ok (.ireturn, 1) := by decide +kernel
theorem dX12_sheet_68 : decode cX12_sheet 68 = .ok (.aload_n 0, 1) := by decide +kernel
theorem dX12_sheet_69 : decode cX12_sheet 69 = .ok (.getfield 53, 3) := by decide +kernel
theorem dX12_sheet_72 : decode cX12_sheet 72 = .ok (.iload_n 1, 1) := by decide +kernel
theorem dX12_sheet_73 : decode cX12_sheet 73 = .ok (.iload_n 2, 1) := by decide +kernel
theorem dX12_sheet_74 : decode cX12_sheet 74 = .ok (.iastore, 1) := by decide +kernel
theorem dX12_sheet_75 : decode cX12_sheet 75 = .ok (.aload_n 0, 1) := by decide +kernel
theorem dX12_sheet_76 : decode cX12_sheet 76 = .ok (.getfield 56, 3) := by decide +kernel
theorem dX12_sheet_79 : decode cX12_sheet 79 = .ok (.iload_n 1, 1) := by decide +kernel
theorem dX12_sheet_80 : decode cX12_sheet 80 = .ok (.iload_n 2, 1) := by decide +kernel
theorem dX12_sheet_81 : decode cX12_sheet 81 = .ok (.ifCond .ne 7, 3) := by decide +kernel
theorem dX12_sheet_84 : decode cX12_sheet 84 = .ok (.iconst 0, 1) := by decide +kernel
theorem dX12_sheet_85 : decode cX12_sheet 85 = .ok (.goto 4, 3) := by decide +kernel
theorem dX12_sheet_88 : decode cX12_sheet 88 = .ok (.iload_n 3, 1) := by decide +kernel
theorem dX12_sheet_89 : decode cX12_sheet 89 = .ok (.iastore, 1) := by decide +kernel
theorem dX12_sheet_90 : decode cX12_sheet 90 = .ok (.iconst 0, 1) := by decide +kernel
theorem dX12_sheet_91 : decode cX12_sheet 91 = .ok (.istore 4, 2) := by decide +kernel
theorem dX12_sheet_93 : decode cX12_sheet 93 = .ok (.iload 4, 2) := by decide +kernel
theorem dX12_sheet_95 : decode cX12_sheet 95 = .ok (.bipush 40, 2) := by decide +kernel
theorem dX12_sheet_97 : decode cX12_sheet 97 = .ok (.if_icmp .ge 22, 3) := by decide +kernel
theorem dX12_sheet_100 : decode cX12_sheet 100 = .ok (.aload_n 0, 1) := by decide +kernel
theorem dX12_sheet_101 : decode cX12_sheet 101 = .ok (.getfield 59, 3) := by decide +kernel
theorem dX12_sheet_104 : decode cX12_sheet 104 = .ok (.bipush 40, 2) := by decide +kernel
theorem dX12_sheet_106 : decode cX12_sheet 106 = .ok (.iload_n 1, 1) := by decide +kernel
theorem dX12_sheet_107 : decode cX12_sheet 107 = .ok (.imul, 1) := by decide +kernel
theorem dX12_sheet_108 : decode cX12_sheet 108 = .ok (.iload 4, 2) := by decide +kernel
theorem dX12_sheet_110 : decode cX12_sheet 110 = .ok (.iadd, 1) := by decide +kernel
theorem dX12_sheet_111 : decode cX12_sheet 111 = .ok (.iconst 0, 1) := by decide +kernel
theorem dX12_sheet_112 : decode cX12_sheet 112 = .ok (.iastore, 1) := by decide +kernel
theorem dX12_sheet_113 : decode cX12_sheet 113 = .ok (.iinc 4 1, 3) := by decide +kernel
theorem dX12_sheet_116 : decode cX12_sheet 116 = .ok (.goto (-23), 3) := by decide +kernel
theorem dX12_sheet_119 : decode cX12_sheet 119 = .ok (.iconst 1, 1) := by decide +kernel
theorem dX12_sheet_120 : decode cX12_sheet 120 = .ok (.ireturn, 1) := by decide +kernel
theorem dX12_put_0 : decode cX12_put 0 = .ok (.iload_n 1, 1) := by decide +kernel
theorem dX12_put_1 : decode cX12_put 1 = .ok (.invokestatic 338, 3) := by decide +kernel
theorem dX12_put_4 : decode cX12_put 4 = .ok (.ifCond .ne 10, 3) := by decide +kernel
theorem dX12_put_7 : decode cX12_put 7 = .ok (.aload_n 0, 1) := by decide +kernel
theorem dX12_put_8 : decode cX12_put 8 = .ok (.ldc 83, 2) := by decide +kernel
theorem dX12_put_10 : decode cX12_put 10 = .ok (.invokevirtual 84, 3) := by decide +kernel
theorem dX12_put_13 : decode cX12_put 13 = .ok (.ireturn, 1) := by decide +kernel
theorem dX12_put_14 : decode cX12_put 14 = .ok (.aload_n 0, 1) := by decide +kernel
theorem dX12_put_15 : decode cX12_put 15 = .ok (.getfield 53, 3) := by decide +kernel
theorem dX12_put_18 : decode cX12_put 18 = .ok (.iload_n 1, 1) := by decide +kernel
theorem dX12_put_19 : decode cX12_put 19 = .ok (.iaload, 1) := by decide +kernel
theorem dX12_put_20 : decode cX12_put 20 = .ok (.ifCond .ne 11, 3) := by decide +kernel
theorem dX12_put_23 : decode cX12_put 23 = .ok (.aload_n 0, 1) := by decide +kernel
theorem dX12_put_24 : decode cX12_put 24 = .ok (.ldc_w 294, 3) := by decide +kernel
theorem dX12_put_27 : decode cX12_put 27 = .ok (.invokevirtual 84, 3) := by decide +kernel
theorem dX12_put_30 : decode cX12_put 30 = .ok (.ireturn, 1) := by decide +kernel
theorem dX12_put_31 : decode cX12_put 31 = .ok (.iload_n 2, 1) := by decide +kernel
theorem dX12_put_32 : decode cX12_put 32 = .ok (.iconst 0, 1) := by decide +kernel
theorem dX12_put_33 : decode cX12_put 33 = .ok (.aload_n 0, 1) := by decide +kernel
theorem dX12_put_34 : decode cX12_put 34 = .ok (.getfield 56, 3) := by decide +kernel
theorem dX12_put_37 : decode cX12_put 37 = .ok (.iload_n 1, 1) := by decide +kernel
theorem dX12_put_38 : decode cX12_put 38 = .ok (.iaload, 1) := by decide +kernel
theorem dX12_put_39 : decode cX12_put 39 = .ok (.iconst 1, 1) := by decide +kernel
theorem dX12_put_40 : decode cX12_put 40 = .ok (.isub, 1) := by decide +kernel
theorem dX12_put_41 : decode cX12_put 41 = .ok (.invokestatic 75, 3) := by decide +kernel
theorem dX12_put_44 : decode cX12_put 44 = .ok (.ifCond .ne 10, 3) := by decide +kernel
theorem dX12_put_47 : decode cX12_put 47 = .ok (.aload_n 0, 1) := by decide +kernel
theorem dX12_put_48 : decode cX12_put 48 = .ok (.ldc 83, 2) := by decide +kernel
theorem dX12_put_50 : decode cX12_put 50 = .ok (.invokevirtual 84, 3) := by decide +kernel
theorem dX12_put_53 : decode cX12_put 53 = .ok (.ireturn, 1) := by decide +kernel
theorem dX12_put_54 : decode cX12_put 54 = .ok (.aload_n 0, 1) := by decide +kernel
theorem dX12_put_55 : decode cX12_put 55 = .ok (.getfield 59, 3) := by decide +kernel
theorem dX12_put_58 : decode cX12_put 58 = .ok (.bipush 40, 2) := by decide +kernel
theorem dX12_put_60 : decode cX12_put 60 = .ok (.iload_n 1, 1) := by decide +kernel
theorem dX12_put_61 : decode cX12_put 61 = .ok (.imul, 1) := by decide +kernel
theorem dX12_put_62 : decode cX12_put 62 = .ok (.iload_n 2, 1) := by decide +kernel
theorem dX12_put_63 : decode cX12_put 63 = .ok (.iadd, 1) := by decide +kernel
theorem dX12_put_64 : decode cX12_put 64 = .ok (.aload_n 0, 1) := by decide +kernel
theorem dX12_put_65 : decode cX12_put 65 = .ok (.getfield 53, 3) := by decide +kernel
theorem dX12_put_68 : decode cX12_put 68 = .ok (.iload_n 1, 1) := by decide +kernel
theorem dX12_put_69 : decode cX12_put 69 = .ok (.iaload, 1) := by decide +kernel
theorem dX12_put_70 : decode cX12_put 70 = .ok (.bipush 8, 2) := by decide +kernel
theorem dX12_put_72 : decode cX12_put 72 = .ok (.if_icmp .ne 8, 3) := by decide +kernel
theorem dX12_put_75 : decode cX12_put 75 = .ok (.iload_n 3, 1) := by decide +kernel
theorem dX12_put_76 : decode cX12_put 76 = .ok (.i2b, 1) := by decide +kernel
theorem dX12_put_77 : decode cX12_put 77 = .ok (.goto 20, 3) := by decide +kernel
theorem dX12_put_80 : decode cX12_put 80 = .ok (.aload_n 0, 1) := by decide +kernel
theorem dX12_put_81 : decode cX12_put 81 = .ok (.getfield 53, 3) := by decide +kernel
theorem dX12_put_84 : decode cX12_put 84 = .ok (.iload_n 1, 1) := by decide +kernel
theorem dX12_put_85 : decode cX12_put 85 = .ok (.iaload, 1) := by decide +kernel
theorem dX12_put_86 : decode cX12_put 86 = .ok (.bipush 16, 2) := by decide +kernel
theorem dX12_put_88 : decode cX12_put 88 = .ok (.if_icmp .ne 8, 3) := by decide +kernel
theorem dX12_put_91 : decode cX12_put 91 = .ok (.iload_n 3, 1) := by decide +kernel
theorem dX12_put_92 : decode cX12_put 92 = .ok (.i2s, 1) := by decide +kernel
theorem dX12_put_93 : decode cX12_put 93 = .ok (.goto 4, 3) := by decide +kernel
theorem dX12_put_96 : decode cX12_put 96 = .ok (.iload_n 3, 1) := by decide +kernel
theorem dX12_put_97 : decode cX12_put 97 = .ok (.iastore, 1) := by decide +kernel
theorem dX12_put_98 : decode cX12_put 98 = .ok (.iconst 1, 1) := by decide +kernel
theorem dX12_put_99 : decode cX12_put 99 = .ok (.ireturn, 1) := by decide +kernel
theorem dX12_move_0 : decode cX12_move 0 = .ok (.iload_n 1, 1) := by decide +kernel
theorem dX12_move_1 : decode cX12_move 1 = .ok (.invokestatic 338, 3) := by decide +kernel
theorem dX12_move_4 : decode cX12_move 4 = .ok (.ifCond .eq 10, 3) := by decide +kernel
theorem dX12_move_7 : decode cX12_move 7 = .ok (.iload_n 3, 1) := by decide +kernel
theorem dX12_move_8 : decode cX12_move 8 = .ok (.invokestatic 338, 3) := by decide +kernel
theorem dX12_move_11 : decode cX12_move 11 = .ok (.ifCond .ne 10, 3) := by decide +kernel
theorem dX12_move_14 : decode cX12_move 14 = .ok (.aload_n 0, 1) := by decide +kernel
theorem dX12_move_15 : decode cX12_move 15 = .ok (.ldc 83, 2) := by decide +kernel
theorem dX12_move_17 : decode cX12_move 17 = .ok (.invokevirtual 84, 3) := by decide +kernel
theorem dX12_move_20 : decode cX12_move 20 = .ok (.ireturn, 1) := by decide +kernel
theorem dX12_move_21 : decode cX12_move 21 = .ok (.aload_n 0, 1) := by decide +kernel
theorem dX12_move_22 : decode cX12_move 22 = .ok (.getfield 53, 3) := by decide +kernel
theorem dX12_move_25 : decode cX12_move 25 = .ok (.iload_n 1, 1) := by decide +kernel
theorem dX12_move_26 : decode cX12_move 26 = .ok (.iaload, 1) := by decide +kernel
theorem dX12_move_27 : decode cX12_move 27 = .ok (.ifCond .eq 12, 3) := by decide +kernel
theorem dX12_move_30 : decode cX12_move 30 = .ok (.aload_n 0, 1) := by decide +kernel
theorem dX12_move_31 : decode cX12_move 31 = .ok (.getfield 53, 3) := by decide +kernel
theorem dX12_move_34 : decode cX12_move 34 = .ok (.iload_n 3, 1) := by decide +kernel
theorem dX12_move_35 : decode cX12_move 35 = .ok (.iaload, 1) := by decide +kernel
theorem dX12_move_36 : decode cX12_move 36 = .ok (.ifCond .ne 11, 3) := by decide +kernel
theorem dX12_move_39 : decode cX12_move 39 = .ok (.aload_n 0, 1) := by decide +kernel
theorem dX12_move_40 : decode cX12_move 40 = .ok (.ldc_w 294, 3) := by decide +kernel
theorem dX12_move_43 : decode cX12_move 43 = .ok (.invokevirtual 84, 3) := by decide +kernel
theorem dX12_move_46 : decode cX12_move 46 = .ok (.ireturn, 1) := by decide +kernel
theorem dX12_move_47 : decode cX12_move 47 = .ok (.aload_n 0, 1) := by decide +kernel
theorem dX12_move_48 : decode cX12_move 48 = .ok (.getfield 53, 3) := by decide +kernel
theorem dX12_move_51 : decode cX12_move 51 = .ok (.iload_n 1, 1) := by decide +kernel
theorem dX12_move_52 : decode cX12_move 52 = .ok (.iaload, 1) := by decide +kernel
theorem dX12_move_53 : decode cX12_move 53 = .ok (.aload_n 0, 1) := by decide +kernel
theorem dX12_move_54 : decode cX12_move 54 = .ok (.getfield 53, 3) := by decide +kernel
theorem dX12_move_57 : decode cX12_move 57 = .ok (.iload_n 3, 1) := by decide +kernel
theorem dX12_move_58 : decode cX12_move 58 = .ok (.iaload, 1) := by decide +kernel
theorem dX12_move_59 : decode cX12_move 59 = .ok (.if_icmp .eq 10, 3) := by decide +kernel
theorem dX12_move_62 : decode cX12_move 62 = .ok (.aload_n 0, 1) := by decide +kernel
theorem dX12_move_63 : decode cX12_move 63 = .ok (.ldc 123, 2) := by decide +kernel
theorem dX12_move_65 : decode cX12_move 65 = .ok (.invokevirtual 84, 3) := by decide +kernel
theorem dX12_move_68 : decode cX12_move 68 = .ok (.ireturn, 1) := by decide +kernel
theorem dX12_move_69 : decode cX12_move 69 = .ok (.iload 5, 2) := by decide +kernel
theorem dX12_move_71 : decode cX12_move 71 = .ok (.ifCond .lt 47, 3) := by decide +kernel
theorem dX12_move_74 : decode cX12_move 74 = .ok (.iload_n 2, 1) := by decide +kernel
theorem dX12_move_75 : decode cX12_move 75 = .ok (.ifCond .lt 43, 3) := by decide +kernel
theorem dX12_move_78 : decode cX12_move 78 = .ok (.iload 4, 2) := by decide +kernel
theorem dX12_move_80 : decode cX12_move 80 = .ok (.ifCond .lt 38, 3) := by decide +kernel
theorem dX12_move_83 : decode cX12_move 83 = .ok (.iload_n 2, 1) := by decide +kernel
theorem dX12_move_84 : decode cX12_move 84 = .ok (.i2l, 1) := by decide +kernel
theorem dX12_move_85 : decode cX12_move 85 = .ok (.iload 5, 2) := by decide +kernel
theorem dX12_move_87 : decode cX12_move 87 = .ok (.i2l, 1) := by decide +kernel
theorem dX12_move_88 : decode cX12_move 88 = .ok (.ladd, 1) := by decide +kernel
theorem dX12_move_89 : decode cX12_move 89 = .ok (.aload_n 0, 1) := by decide +kernel
theorem dX12_move_90 : decode cX12_move 90 = .ok (.getfield 56, 3) := by decide +kernel
theorem dX12_move_93 : decode cX12_move 93 = .ok (.iload_n 1, 1) := by decide +kernel
theorem dX12_move_94 : decode cX12_move 94 = .ok (.iaload, 1) := by decide +kernel
theorem dX12_move_95 : decode cX12_move 95 = .ok (.i2l, 1) := by decide +kernel
theorem dX12_move_96 : decode cX12_move 96 = .ok (.lcmp, 1) := by decide +kernel
theorem dX12_move_97 : decode cX12_move 97 = .ok (.ifCond .gt 21, 3) := by decide +kernel
theorem dX12_move_100 : decode cX12_move 100 = .ok (.iload 4, 2) := by decide +kernel
theorem dX12_move_102 : decode cX12_move 102 = .ok (.i2l, 1) := by decide +kernel
theorem dX12_move_103 : decode cX12_move 103 = .ok (.iload 5, 2) := by decide +kernel
theorem dX12_move_105 : decode cX12_move 105 = .ok (.i2l, 1) := by decide +kernel
theorem dX12_move_106 : decode cX12_move 106 = .ok (.ladd, 1) := by decide +kernel
theorem dX12_move_107 : decode cX12_move 107 = .ok (.aload_n 0, 1) := by decide +kernel
theorem dX12_move_108 : decode cX12_move 108 = .ok (.getfield 56, 3) := by decide +kernel
theorem dX12_move_111 : decode cX12_move 111 = .ok (.iload_n 3, 1) := by decide +kernel
theorem dX12_move_112 : decode cX12_move 112 = .ok (.iaload, 1) := by decide +kernel
theorem dX12_move_113 : decode cX12_move 113 = .ok (.i2l, 1) := by decide +kernel
theorem dX12_move_114 : decode cX12_move 114 = .ok (.lcmp, 1) := by decide +kernel
theorem dX12_move_115 : decode cX12_move 115 = .ok (.ifCond .le 10, 3) := by decide +kernel
theorem dX12_move_118 : decode cX12_move 118 = .ok (.aload_n 0, 1) := by decide +kernel
theorem dX12_move_119 : decode cX12_move 119 = .ok (.ldc 83, 2) := by decide +kernel
theorem dX12_move_121 : decode cX12_move 121 = .ok (.invokevirtual 84, 3) := by decide +kernel
theorem dX12_move_124 : decode cX12_move 124 = .ok (.ireturn, 1) := by decide +kernel
theorem dX12_move_125 : decode cX12_move 125 = .ok (.iconst 0, 1) := by decide +kernel
theorem dX12_move_126 : decode cX12_move 126 = .ok (.istore 6, 2) := by decide +kernel
theorem dX12_move_128 : decode cX12_move 128 = .ok (.iload 6, 2) := by decide +kernel
theorem dX12_move_130 : decode cX12_move 130 = .ok (.iload 5, 2) := by decide +kernel
theorem dX12_move_132 : decode cX12_move 132 = .ok (.if_icmp .ge 30, 3) := by decide +kernel
theorem dX12_move_135 : decode cX12_move 135 = .ok (.aload_n 0, 1) := by decide +kernel
theorem dX12_move_136 : decode cX12_move 136 = .ok (.getfield 62, 3) := by decide +kernel
theorem dX12_move_139 : decode cX12_move 139 = .ok (.iload 6, 2) := by decide +kernel
theorem dX12_move_141 : decode cX12_move 141 = .ok (.aload_n 0, 1) := by decide +kernel
theorem dX12_move_142 : decode cX12_move 142 = .ok (.getfield 59, 3) := by decide +kernel
theorem dX12_move_145 : decode cX12_move 145 = .ok (.bipush 40, 2) := by decide +kernel
theorem dX12_move_147 : decode cX12_move 147 = .ok (.iload_n 1, 1) := by decide +kernel
theorem dX12_move_148 : decode cX12_move 148 = .ok (.imul, 1) := by decide +kernel
theorem dX12_move_149 : decode cX12_move 149 = .ok (.iload_n 2, 1) := by decide +kernel
theorem dX12_move_150 : decode cX12_move 150 = .ok (.iadd, 1) := by decide +kernel
theorem dX12_move_151 : decode cX12_move 151 = .ok (.iload 6, 2) := by decide +kernel
theorem dX12_move_153 : decode cX12_move 153 = .ok (.iadd, 1) := by decide +kernel
theorem dX12_move_154 : decode cX12_move 154 = .ok (.iaload, 1) := by decide +kernel
theorem dX12_move_155 : decode cX12_move 155 = .ok (.iastore, 1) := by decide +kernel
theorem dX12_move_156 : decode cX12_move 156 = .ok (.iinc 6 1, 3) := by decide +kernel
theorem dX12_move_159 : decode cX12_move 159 = .ok (.goto (-31), 3) := by decide +kernel
theorem dX12_move_162 : decode cX12_move 162 = .ok (.iconst 0, 1) := by decide +kernel
theorem dX12_move_163 : decode cX12_move 163 = .ok (.istore 6, 2) := by decide +kernel
theorem dX12_move_165 : decode cX12_move 165 = .ok (.iload 6, 2) := by decide +kernel
theorem dX12_move_167 : decode cX12_move 167 = .ok (.iload 5, 2) := by decide +kernel
theorem dX12_move_169 : decode cX12_move 169 = .ok (.if_icmp .ge 31, 3) := by decide +kernel
theorem dX12_move_172 : decode cX12_move 172 = .ok (.aload_n 0, 1) := by decide +kernel
theorem dX12_move_173 : decode cX12_move 173 = .ok (.getfield 59, 3) := by decide +kernel
theorem dX12_move_176 : decode cX12_move 176 = .ok (.bipush 40, 2) := by decide +kernel
theorem dX12_move_178 : decode cX12_move 178 = .ok (.iload_n 3, 1) := by decide +kernel
theorem dX12_move_179 : decode cX12_move 179 = .ok (.imul, 1) := by decide +kernel
theorem dX12_move_180 : decode cX12_move 180 = .ok (.iload 4, 2) := by decide +kernel
theorem dX12_move_182 : decode cX12_move 182 = .ok (.iadd, 1) := by decide +kernel
theorem dX12_move_183 : decode cX12_move 183 = .ok (.iload 6, 2) := by decide +kernel
theorem dX12_move_185 : decode cX12_move 185 = .ok (.iadd, 1) := by decide +kernel
theorem dX12_move_186 : decode cX12_move 186 = .ok (.aload_n 0, 1) := by decide +kernel
theorem dX12_move_187 : decode cX12_move 187 = .ok (.getfield 62, 3) := by decide +kernel
theorem dX12_move_190 : decode cX12_move 190 = .ok (.iload 6, 2) := by decide +kernel
theorem dX12_move_192 : decode cX12_move 192 = .ok (.iaload, 1) := by decide +kernel
theorem dX12_move_193 : decode cX12_move 193 = .ok (.iastore, 1) := by decide +kernel
theorem dX12_move_194 : decode cX12_move 194 = .ok (.iinc 6 1, 3) := by decide +kernel
theorem dX12_move_197 : decode cX12_move 197 = .ok (.goto (-32), 3) := by decide +kernel
theorem dX12_move_200 : decode cX12_move 200 = .ok (.iload 5, 2) := by decide +kernel
theorem dX12_move_202 : decode cX12_move 202 = .ok (.ireturn, 1) := by decide +kernel
theorem dX12_winds_0 : decode cX12_winds 0 = .ok (.iload_n 1, 1) := by decide +kernel
theorem dX12_winds_1 : decode cX12_winds 1 = .ok (.invokestatic 338, 3) := by decide +kernel
theorem dX12_winds_4 : decode cX12_winds 4 = .ok (.ifCond .ne 10, 3) := by decide +kernel
theorem dX12_winds_7 : decode cX12_winds 7 = .ok (.aload_n 0, 1) := by decide +kernel
theorem dX12_winds_8 : decode cX12_winds 8 = .ok (.ldc 83, 2) := by decide +kernel
theorem dX12_winds_10 : decode cX12_winds 10 = .ok (.invokevirtual 84, 3) := by decide +kernel
theorem dX12_winds_13 : decode cX12_winds 13 = .ok (.ireturn, 1) := by decide +kernel
theorem dX12_winds_14 : decode cX12_winds 14 = .ok (.aload_n 0, 1) := by decide +kernel
theorem dX12_winds_15 : decode cX12_winds 15 = .ok (.getfield 53, 3) := by decide +kernel
theorem dX12_winds_18 : decode cX12_winds 18 = .ok (.iload_n 1, 1) := by decide +kernel
theorem dX12_winds_19 : decode cX12_winds 19 = .ok (.iaload, 1) := by decide +kernel
theorem dX12_winds_20 : decode cX12_winds 20 = .ok (.ifCond .ne 11, 3) := by decide +kernel
theorem dX12_winds_23 : decode cX12_winds 23 = .ok (.aload_n 0, 1) := by decide +kernel
theorem dX12_winds_24 : decode cX12_winds 24 = .ok (.ldc_w 294, 3) := by decide +kernel
theorem dX12_winds_27 : decode cX12_winds 27 = .ok (.invokevirtual 84, 3) := by decide +kernel
theorem dX12_winds_30 : decode cX12_winds 30 = .ok (.ireturn, 1) := by decide +kernel
theorem dX12_winds_31 : decode cX12_winds 31 = .ok (.iconst 0, 1) := by decide +kernel
theorem dX12_winds_32 : decode cX12_winds 32 = .ok (.istore_n 2, 1) := by decide +kernel
theorem dX12_winds_33 : decode cX12_winds 33 = .ok (.iload_n 2, 1) := by decide +kernel
theorem dX12_winds_34 : decode cX12_winds 34 = .ok (.aload_n 0, 1) := by decide +kernel
theorem dX12_winds_35 : decode cX12_winds 35 = .ok (.getfield 56, 3) := by decide +kernel
theorem dX12_winds_38 : decode cX12_winds 38 = .ok (.iload_n 1, 1) := by decide +kernel
theorem dX12_winds_39 : decode cX12_winds 39 = .ok (.iaload, 1) := by decide +kernel
theorem dX12_winds_40 : decode cX12_winds 40 = .ok (.if_icmp .ge 52, 3) := by decide +kernel
theorem dX12_winds_43 : decode cX12_winds 43 = .ok (.iload_n 2, 1) := by decide +kernel
theorem dX12_winds_44 : decode cX12_winds 44 = .ok (.bipush 24, 2) := by decide +kernel
theorem dX12_winds_46 : decode cX12_winds 46 = .ok (.if_icmp .ge 46, 3) := by decide +kernel
theorem dX12_winds_49 : decode cX12_winds 49 = .ok (.aload_n 0, 1) := by decide +kernel
theorem dX12_winds_50 : decode cX12_winds 50 = .ok (.getfield 59, 3) := by decide +kernel
theorem dX12_winds_53 : decode cX12_winds 53 = .ok (.bipush 40, 2) := by decide +kernel
theorem dX12_winds_55 : decode cX12_winds 55 = .ok (.iload_n 1, 1) := by decide +kernel
theorem dX12_winds_56 : decode cX12_winds 56 = .ok (.imul, 1) := by decide +kernel
theorem dX12_winds_57 : decode cX12_winds 57 = .ok (.iload_n 2, 1) := by decide +kernel
theorem dX12_winds_58 : decode cX12_winds 58 = .ok (.iadd, 1) := by decide +kernel
theorem dX12_winds_59 : decode cX12_winds 59 = .ok (.iaload, 1) := by decide +kernel
theorem dX12_winds_60 : decode cX12_winds 60 = .ok (.invokestatic 107, 3) := by decide +kernel
theorem dX12_winds_63 : decode cX12_winds 63 = .ok (.ifCond .eq 29, 3) := by decide +kernel
theorem dX12_winds_66 : decode cX12_winds 66 = .ok (.aload_n 0, 1) := by decide +kernel
theorem dX12_winds_67 : decode cX12_winds 67 = .ok (.getfield 9, 3) := by decide +kernel
theorem dX12_winds_70 : decode cX12_winds 70 = .ok (.bipush 27, 2) := by decide +kernel
theorem dX12_winds_72 : decode cX12_winds 72 = .ok (.iload_n 2, 1) := by decide +kernel
theorem dX12_winds_73 : decode cX12_winds 73 = .ok (.iadd, 1) := by decide +kernel
theorem dX12_winds_74 : decode cX12_winds 74 = .ok (.aload_n 0, 1) := by decide +kernel
theorem dX12_winds_75 : decode cX12_winds 75 = .ok (.getfield 59, 3) := by decide +kernel
theorem dX12_winds_78 : decode cX12_winds 78 = .ok (.bipush 40, 2) := by decide +kernel
theorem dX12_winds_80 : decode cX12_winds 80 = .ok (.iload_n 1, 1) := by decide +kernel
theorem dX12_winds_81 : decode cX12_winds 81 = .ok (.imul, 1) := by decide +kernel
theorem dX12_winds_82 : decode cX12_winds 82 = .ok (.iload_n 2, 1) := by decide +kernel
theorem dX12_winds_83 : decode cX12_winds 83 = .ok (.iadd, 1) := by decide +kernel
theorem dX12_winds_84 : decode cX12_winds 84 = .ok (.iaload, 1) := by decide +kernel
theorem dX12_winds_85 : decode cX12_winds 85 = .ok (.iastore, 1) := by decide +kernel
theorem dX12_winds_86 : decode cX12_winds 86 = .ok (.iinc 2 1, 3) := by decide +kernel
theorem dX12_winds_89 : decode cX12_winds 89 = .ok (.goto (-56), 3) := by decide +kernel
theorem dX12_winds_92 : decode cX12_winds 92 = .ok (.iload_n 2, 1) := by decide +kernel
theorem dX12_winds_93 : decode cX12_winds 93 = .ok (.ireturn, 1) := by decide +kernel
theorem dX12_image_0 : decode cX12_image 0 = .ok (.aload_n 0, 1) := by decide +kernel
theorem dX12_image_1 : decode cX12_image 1 = .ok (.getfield 9, 3) := by decide +kernel
theorem dX12_image_4 : decode cX12_image 4 = .ok (.aload_n 0, 1) := by decide +kernel
theorem dX12_image_5 : decode cX12_image 5 = .ok (.getfield 13, 3) := by decide +kernel
theorem dX12_image_8 : decode cX12_image 8 = .ok (.invokestatic 79, 3) := by decide +kernel
theorem dX12_image_11 : decode cX12_image 11 = .ok (.aload_n 0, 1) := by decide +kernel
theorem dX12_image_12 : decode cX12_image 12 = .ok (.dup, 1) := by decide +kernel
theorem dX12_image_13 : decode cX12_image 13 = .ok (.getfield 341, 3) := by decide +kernel
theorem dX12_image_16 : decode cX12_image 16 = .ok (.iconst 1, 1) := by decide +kernel
theorem dX12_image_17 : decode cX12_image 17 = .ok (.iadd, 1) := by decide +kernel
theorem dX12_image_18 : decode cX12_image 18 = .ok (.putfield 341, 3) := by decide +kernel
theorem dX12_image_21 : decode cX12_image 21 = .ok (.aload_n 0, 1) := by decide +kernel
theorem dX12_image_22 : decode cX12_image 22 = .ok (.getfield 341, 3) := by decide +kernel
theorem dX12_image_25 : decode cX12_image 25 = .ok (.ireturn, 1) := by decide +kernel
theorem dX12_restore_0 : decode cX12_restore 0 = .ok (.aload_n 0, 1) := by decide +kernel
theorem dX12_restore_1 : decode cX12_restore 1 = .ok (.getfield 341, 3) := by decide +kernel
theorem dX12_restore_4 : decode cX12_restore 4 = .ok (.ifCond .ne 11, 3) := by decide +kernel
theorem dX12_restore_7 : decode cX12_restore 7 = .ok (.aload_n 0, 1) := by decide +kernel
theorem dX12_restore_8 : decode cX12_restore 8 = .ok (.ldc_w 294, 3) := by decide +kernel
theorem dX12_restore_11 : decode cX12_restore 11 = .ok (.invokevirtual 84, 3) := by decide +kernel
theorem dX12_restore_14 : decode cX12_restore 14 = .ok (.ireturn, 1) := by decide +kernel
theorem dX12_restore_15 : decode cX12_restore 15 = .ok (.aload_n 0, 1) := by decide +kernel
theorem dX12_restore_16 : decode cX12_restore 16 = .ok (.getfield 13, 3) := by decide +kernel
theorem dX12_restore_19 : decode cX12_restore 19 = .ok (.aload_n 0, 1) := by decide +kernel
theorem dX12_restore_20 : decode cX12_restore 20 = .ok (.getfield 9, 3) := by decide +kernel
theorem dX12_restore_23 : decode cX12_restore 23 = .ok (.invokestatic 79, 3) := by decide +kernel
theorem dX12_restore_26 : decode cX12_restore 26 = .ok (.aload_n 0, 1) := by decide +kernel
theorem dX12_restore_27 : decode cX12_restore 27 = .ok (.getfield 9, 3) := by decide +kernel
theorem dX12_restore_30 : decode cX12_restore 30 = .ok (.iconst 0, 1) := by decide +kernel
theorem dX12_restore_31 : decode cX12_restore 31 = .ok (.iaload, 1) := by decide +kernel
theorem dX12_restore_32 : decode cX12_restore 32 = .ok (.ireturn, 1) := by decide +kernel
theorem dX12_tell_0 : decode cX12_tell 0 = .ok (.aload_n 0, 1) := by decide +kernel
theorem dX12_tell_1 : decode cX12_tell 1 = .ok (.getfield 9, 3) := by decide +kernel
theorem dX12_tell_4 : decode cX12_tell 4 = .ok (.bipush 7, 2) := by decide +kernel
theorem dX12_tell_6 : decode cX12_tell 6 = .ok (.iaload, 1) := by decide +kernel
theorem dX12_tell_7 : decode cX12_tell 7 = .ok (.bipush 20, 2) := by decide +kernel
theorem dX12_tell_9 : decode cX12_tell 9 = .ok (.if_icmp .ne 10, 3) := by decide +kernel
theorem dX12_tell_12 : decode cX12_tell 12 = .ok (.aload_n 0, 1) := by decide +kernel
theorem dX12_tell_13 : decode cX12_tell 13 = .ok (.ldc 93, 2) := by decide +kernel
theorem dX12_tell_15 : decode cX12_tell 15 = .ok (.invokevirtual 84, 3) := by decide +kernel
theorem dX12_tell_18 : decode cX12_tell 18 = .ok (.ireturn, 1) := by decide +kernel
theorem dX12_tell_19 : decode cX12_tell 19 = .ok (.aload_n 0, 1) := by decide +kernel
theorem dX12_tell_20 : decode cX12_tell 20 = .ok (.getfield 9, 3) := by decide +kernel
theorem dX12_tell_23 : decode cX12_tell 23 = .ok (.sipush 245, 3) := by decide +kernel
theorem dX12_tell_26 : decode cX12_tell 26 = .ok (.aload_n 0, 1) := by decide +kernel
theorem dX12_tell_27 : decode cX12_tell 27 = .ok (.getfield 9, 3) := by decide +kernel
theorem dX12_tell_30 : decode cX12_tell 30 = .ok (.bipush 7, 2) := by decide +kernel
theorem dX12_tell_32 : decode cX12_tell 32 = .ok (.iaload, 1) := by decide +kernel
theorem dX12_tell_33 : decode cX12_tell 33 = .ok (.iadd, 1) := by decide +kernel
theorem dX12_tell_34 : decode cX12_tell 34 = .ok (.iload_n 1, 1) := by decide +kernel
theorem dX12_tell_35 : decode cX12_tell 35 = .ok (.iastore, 1) := by decide +kernel
theorem dX12_tell_36 : decode cX12_tell 36 = .ok (.aload_n 0, 1) := by decide +kernel
theorem dX12_tell_37 : decode cX12_tell 37 = .ok (.getfield 9, 3) := by decide +kernel
theorem dX12_tell_40 : decode cX12_tell 40 = .ok (.bipush 7, 2) := by decide +kernel
theorem dX12_tell_42 : decode cX12_tell 42 = .ok (.dup2, 1) := by decide +kernel
theorem dX12_tell_43 : decode cX12_tell 43 = .ok (.iaload, 1) := by decide +kernel
theorem dX12_tell_44 : decode cX12_tell 44 = .ok (.iconst 1, 1) := by decide +kernel
theorem dX12_tell_45 : decode cX12_tell 45 = .ok (.iadd, 1) := by decide +kernel
theorem dX12_tell_46 : decode cX12_tell 46 = .ok (.iastore, 1) := by decide +kernel
theorem dX12_tell_47 : decode cX12_tell 47 = .ok (.aload_n 0, 1) := by decide +kernel
theorem dX12_tell_48 : decode cX12_tell 48 = .ok (.getfield 9, 3) := by decide +kernel
theorem dX12_tell_51 : decode cX12_tell 51 = .ok (.bipush 7, 2) := by decide +kernel
theorem dX12_tell_53 : decode cX12_tell 53 = .ok (.iaload, 1) := by decide +kernel
theorem dX12_tell_54 : decode cX12_tell 54 = .ok (.ireturn, 1) := by decide +kernel
theorem dX12_check_0 : decode cX12_check 0 = .ok (.aload_n 0, 1) := by decide +kernel
theorem dX12_check_1 : decode cX12_check 1 = .ok (.getfield 9, 3) := by decide +kernel
theorem dX12_check_4 : decode cX12_check 4 = .ok (.bipush 7, 2) := by decide +kernel
theorem dX12_check_6 : decode cX12_check 6 = .ok (.iaload, 1) := by decide +kernel
theorem dX12_check_7 : decode cX12_check 7 = .ok (.istore_n 2, 1) := by decide +kernel
theorem dX12_check_8 : decode cX12_check 8 = .ok (.aload_n 0, 1) := by decide +kernel
theorem dX12_check_9 : decode cX12_check 9 = .ok (.getfield 9, 3) := by decide +kernel
theorem dX12_check_12 : decode cX12_check 12 = .ok (.bipush 7, 2) := by decide +kernel
theorem dX12_check_14 : decode cX12_check 14 = .ok (.iconst 0, 1) := by decide +kernel
theorem dX12_check_15 : decode cX12_check 15 = .ok (.iastore, 1) := by decide +kernel
theorem dX12_check_16 : decode cX12_check 16 = .ok (.aload_n 0, 1) := by decide +kernel
theorem dX12_check_17 : decode cX12_check 17 = .ok (.iload_n 1, 1) := by decide +kernel
theorem dX12_check_18 : decode cX12_check 18 = .ok (.iconst 3, 1) := by decide +kernel
theorem dX12_check_19 : decode cX12_check 19 = .ok (.invokevirtual 100, 3) := by decide +kernel
theorem dX12_check_22 : decode cX12_check 22 = .ok (.ifCond .ne 10, 3) := by decide +kernel
theorem dX12_check_25 : decode cX12_check 25 = .ok (.aload_n 0, 1) := by decide +kernel
theorem dX12_check_26 : decode cX12_check 26 = .ok (.ldc 83, 2) := by decide +kernel
theorem dX12_check_28 : decode cX12_check 28 = .ok (.invokevirtual 84, 3) := by decide +kernel
theorem dX12_check_31 : decode cX12_check 31 = .ok (.ireturn, 1) := by decide +kernel
theorem dX12_check_32 : decode cX12_check 32 = .ok (.aload_n 0, 1) := by decide +kernel
theorem dX12_check_33 : decode cX12_check 33 = .ok (.getfield 9, 3) := by decide +kernel
theorem dX12_check_36 : decode cX12_check 36 = .ok (.aload_n 0, 1) := by decide +kernel
theorem dX12_check_37 : decode cX12_check 37 = .ok (.getfield 16, 3) := by decide +kernel
theorem dX12_check_40 : decode cX12_check 40 = .ok (.invokestatic 79, 3) := by decide +kernel
theorem dX12_check_43 : decode cX12_check 43 = .ok (.iconst 0, 1) := by decide +kernel
theorem dX12_check_44 : decode cX12_check 44 = .ok (.istore_n 3, 1) := by decide +kernel
theorem dX12_check_45 : decode cX12_check 45 = .ok (.iconst 0, 1) := by decide +kernel
theorem dX12_check_46 : decode cX12_check 46 = .ok (.istore 4, 2) := by decide +kernel
theorem dX12_check_48 : decode cX12_check 48 = .ok (.iload 4, 2) := by decide +kernel
theorem dX12_check_50 : decode cX12_check 50 = .ok (.iload_n 2, 1) := by decide +kernel
theorem dX12_check_51 : decode cX12_check 51 = .ok (.if_icmp .ge 46, 3) := by decide +kernel
theorem dX12_check_54 : decode cX12_check 54 = .ok (.iload_n 3, 1) := by decide +kernel
theorem dX12_check_55 : decode cX12_check 55 = .ok (.ifCond .ne 42, 3) := by decide +kernel
theorem dX12_check_58 : decode cX12_check 58 = .ok (.aload_n 0, 1) := by decide +kernel
theorem dX12_check_59 : decode cX12_check 59 = .ok (.invokevirtual 266, 3) := by decide +kernel
theorem dX12_check_62 : decode cX12_check 62 = .ok (.aload_n 0, 1) := by decide +kernel
theorem dX12_check_63 : decode cX12_check 63 = .ok (.getfield 9, 3) := by decide +kernel
theorem dX12_check_66 : decode cX12_check 66 = .ok (.sipush 245, 3) := by decide +kernel
theorem dX12_check_69 : decode cX12_check 69 = .ok (.iload 4, 2) := by decide +kernel
theorem dX12_check_71 : decode cX12_check 71 = .ok (.iadd, 1) := by decide +kernel
theorem dX12_check_72 : decode cX12_check 72 = .ok (.iaload, 1) := by decide +kernel
theorem dX12_check_73 : decode cX12_check 73 = .ok (.aload_n 0, 1) := by decide +kernel
theorem dX12_check_74 : decode cX12_check 74 = .ok (.iload_n 1, 1) := by decide +kernel
theorem dX12_check_75 : decode cX12_check 75 = .ok (.iconst 5, 1) := by decide +kernel
theorem dX12_check_76 : decode cX12_check 76 = .ok (.invokevirtual 97, 3) := by decide +kernel
theorem dX12_check_79 : decode cX12_check 79 = .ok (.if_icmp .ne 7, 3) := by decide +kernel
theorem dX12_check_82 : decode cX12_check 82 = .ok (.iconst 0, 1) := by decide +kernel
theorem dX12_check_83 : decode cX12_check 83 = .ok (.goto 7, 3) := by decide +kernel
theorem dX12_check_86 : decode cX12_check 86 = .ok (.iconst 1, 1) := by decide +kernel
theorem dX12_check_87 : decode cX12_check 87 = .ok (.iload 4, 2) := by decide +kernel
theorem dX12_check_89 : decode cX12_check 89 = .ok (.iadd, 1) := by decide +kernel
theorem dX12_check_90 : decode cX12_check 90 = .ok (.istore_n 3, 1) := by decide +kernel
theorem dX12_check_91 : decode cX12_check 91 = .ok (.iinc 4 1, 3) := by decide +kernel
theorem dX12_check_94 : decode cX12_check 94 = .ok (.goto (-46), 3) := by decide +kernel
theorem dX12_check_97 : decode cX12_check 97 = .ok (.aload_n 0, 1) := by decide +kernel
theorem dX12_check_98 : decode cX12_check 98 = .ok (.iload_n 3, 1) := by decide +kernel
theorem dX12_check_99 : decode cX12_check 99 = .ok (.invokevirtual 282, 3) := by decide +kernel
theorem dX12_check_102 : decode cX12_check 102 = .ok (.ireturn, 1) := by decide +kernel
theorem dX12_count_0 : decode cX12_count 0 = .ok (.iload_n 1, 1) := by decide +kernel
theorem dX12_count_1 : decode cX12_count 1 = .ok (.iconst 0, 1) := by decide +kernel
theorem dX12_count_2 : decode cX12_count 2 = .ok (.bipush 9, 2) := by decide +kernel
theorem dX12_count_4 : decode cX12_count 4 = .ok (.invokestatic 75, 3) := by decide +kernel
theorem dX12_count_7 : decode cX12_count 7 = .ok (.ifCond .ne 10, 3) := by decide +kernel
theorem dX12_count_10 : decode cX12_count 10 = .ok (.aload_n 0, 1) := by decide +kernel
theorem dX12_count_11 : decode cX12_count 11 = .ok (.ldc 83, 2) := by decide +kernel
theorem dX12_count_13 : decode cX12_count 13 = .ok (.invokevirtual 84, 3) := by decide +kernel
theorem dX12_count_16 : decode cX12_count 16 = .ok (.ireturn, 1) := by decide +kernel
theorem dX12_count_17 : decode cX12_count 17 = .ok (.iload_n 1, 1) := by decide +kernel
theorem dX12_count_18 : decode cX12_count 18 = .ok (.bipush 8, 2) := by decide +kernel
theorem dX12_count_20 : decode cX12_count 20 = .ok (.if_icmp .ge 12, 3) := by decide +kernel
theorem dX12_count_23 : decode cX12_count 23 = .ok (.aload_n 0, 1) := by decide +kernel
theorem dX12_count_24 : decode cX12_count 24 = .ok (.getfield 9, 3) := by decide +kernel
theorem dX12_count_27 : decode cX12_count 27 = .ok (.iload_n 1, 1) := by decide +kernel
theorem dX12_count_28 : decode cX12_count 28 = .ok (.iaload, 1) := by decide +kernel
theorem dX12_count_29 : decode cX12_count 29 = .ok (.goto 23, 3) := by decide +kernel
theorem dX12_count_32 : decode cX12_count 32 = .ok (.iload_n 1, 1) := by decide +kernel
theorem dX12_count_33 : decode cX12_count 33 = .ok (.bipush 8, 2) := by decide +kernel
theorem dX12_count_35 : decode cX12_count 35 = .ok (.if_icmp .ne 10, 3) := by decide +kernel
theorem dX12_count_38 : decode cX12_count 38 = .ok (.aload_n 0, 1) := by decide +kernel
theorem dX12_count_39 : decode cX12_count 39 = .ok (.getfield 317, 3) := by decide +kernel
theorem dX12_count_42 : decode cX12_count 42 = .ok (.goto 10, 3) := by decide +kernel
theorem dX12_count_45 : decode cX12_count 45 = .ok (.aload_n 0, 1) := by decide +kernel
theorem dX12_count_46 : decode cX12_count 46 = .ok (.getfield 9, 3) := by decide +kernel
theorem dX12_count_49 : decode cX12_count 49 = .ok (.bipush 8, 2) := by decide +kernel
theorem dX12_count_51 : decode cX12_count 51 = .ok (.iaload, 1) := by decide +kernel
theorem dX12_count_52 : decode cX12_count 52 = .ok (.ireturn, 1) := by decide +kernel
theorem dX12_told_0 : decode cX12_told 0 = .ok (.iload_n 1, 1) := by decide +kernel
theorem dX12_told_1 : decode cX12_told 1 = .ok (.iconst 1, 1) := by decide +kernel
theorem dX12_told_2 : decode cX12_told 2 = .ok (.iconst 5, 1) := by decide +kernel
theorem dX12_told_3 : decode cX12_told 3 = .ok (.invokestatic 75, 3) := by decide +kernel
theorem dX12_told_6 : decode cX12_told 6 = .ok (.ifCond .eq 12, 3) := by decide +kernel
theorem dX12_told_9 : decode cX12_told 9 = .ok (.aload_n 0, 1) := by decide +kernel
theorem dX12_told_10 : decode cX12_told 10 = .ok (.getfield 19, 3) := by decide +kernel
theorem dX12_told_13 : decode cX12_told 13 = .ok (.iload_n 1, 1) := by decide +kernel
theorem dX12_told_14 : decode cX12_told 14 = .ok (.iaload, 1) := by decide +kernel
theorem dX12_told_15 : decode cX12_told 15 = .ok (.goto 9, 3) := by decide +kernel
theorem dX12_told_18 : decode cX12_told 18 = .ok (.aload_n 0, 1) := by decide +kernel
theorem dX12_told_19 : decode cX12_told 19 = .ok (.ldc 83, 2) := by decide +kernel
theorem dX12_told_21 : decode cX12_told 21 = .ok (.invokevirtual 84, 3) := by decide +kernel
theorem dX12_told_24 : decode cX12_told 24 = .ok (.ireturn, 1) := by decide +kernel
