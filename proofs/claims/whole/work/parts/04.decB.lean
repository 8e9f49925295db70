theorem dX5_init_0 : decode cX5_init 0 = .ok (.aload_n 0, 1) := by decide +kernel
theorem dX5_init_1 : decode cX5_init 1 = .ok (.invokespecial 3, 3) := by decide +kernel
theorem dX5_init_4 : decode cX5_init 4 = .ok (.aload_n 0, 1) := by decide +kernel
theorem dX5_init_5 : decode cX5_init 5 = .ok (.bipush 9, 2) := by decide +kernel
theorem dX5_init_7 : decode cX5_init 7 = .ok (.newarray .int, 2) := by decide +kernel
theorem dX5_init_9 : decode cX5_init 9 = .ok (.putfield 9, 3) := by decide +kernel
theorem dX5_init_12 : decode cX5_init 12 = .ok (.aload_n 0, 1) := by decide +kernel
theorem dX5_init_13 : decode cX5_init 13 = .ok (.bipush 9, 2) := by decide +kernel
theorem dX5_init_15 : decode cX5_init 15 = .ok (.newarray .int, 2) := by decide +kernel
theorem dX5_init_17 : decode cX5_init 17 = .ok (.putfield 15, 3) := by decide +kernel
theorem dX5_init_20 : decode cX5_init 20 = .ok (.aload_n 0, 1) := by decide +kernel
theorem dX5_init_21 : decode cX5_init 21 = .ok (.bipush 9, 2) := by decide +kernel
theorem dX5_init_23 : decode cX5_init 23 = .ok (.newarray .int, 2) := by decide +kernel
theorem dX5_init_25 : decode cX5_init 25 = .ok (.putfield 18, 3) := by decide +kernel
theorem dX5_init_28 : decode cX5_init 28 = .ok (.aload_n 0, 1) := by decide +kernel
theorem dX5_init_29 : decode cX5_init 29 = .ok (.bipush 24, 2) := by decide +kernel
theorem dX5_init_31 : decode cX5_init 31 = .ok (.newarray .int, 2) := by decide +kernel
theorem dX5_init_33 : decode cX5_init 33 = .ok (.putfield 21, 3) := by decide +kernel
theorem dX5_init_36 : decode cX5_init 36 = .ok (.aload_n 0, 1) := by decide +kernel
theorem dX5_init_37 : decode cX5_init 37 = .ok (.bipush 8, 2) := by decide +kernel
theorem dX5_init_39 : decode cX5_init 39 = .ok (.anewarray 24, 3) := by decide +kernel
theorem dX5_init_42 : decode cX5_init 42 = .ok (.putfield 26, 3) := by decide +kernel
theorem dX5_init_45 : decode cX5_init 45 = .ok (.aload_n 0, 1) := by decide +kernel
theorem dX5_init_46 : decode cX5_init 46 = .ok (.bipush 8, 2) := by decide +kernel
theorem dX5_init_48 : decode cX5_init 48 = .ok (.newarray .int, 2) := by decide +kernel
theorem dX5_init_50 : decode cX5_init 50 = .ok (.putfield 30, 3) := by decide +kernel
theorem dX5_init_53 : decode cX5_init 53 = .ok (.aload_n 0, 1) := by decide +kernel
theorem dX5_init_54 : decode cX5_init 54 = .ok (.bipush 84, 2) := by decide +kernel
theorem dX5_init_56 : decode cX5_init 56 = .ok (.newarray .int, 2) := by decide +kernel
theorem dX5_init_58 : decode cX5_init 58 = .ok (.putfield 33, 3) := by decide +kernel
theorem dX5_init_61 : decode cX5_init 61 = .ok (.aload_n 0, 1) := by decide +kernel
theorem dX5_init_62 : decode cX5_init 62 = .ok (.new 36, 3) := by decide +kernel
theorem dX5_init_65 : decode cX5_init 65 = .ok (.dup, 1) := by decide +kernel
theorem dX5_init_66 : decode cX5_init 66 = .ok (.bipush 12, 2) := by decide +kernel
theorem dX5_init_68 : decode cX5_init 68 = .ok (.invokespecial 38, 3) := by decide +kernel
theorem dX5_init_71 : decode cX5_init 71 = .ok (.putfield 41, 3) := by decide +kernel
theorem dX5_init_74 : decode cX5_init 74 = .ok (.aload_n 0, 1) := by decide +kernel
theorem dX5_init_75 : decode cX5_init 75 = .ok (.new 36, 3) := by decide +kernel
theorem dX5_init_78 : decode cX5_init 78 = .ok (.dup, 1) := by decide +kernel
theorem dX5_init_79 : decode cX5_init 79 = .ok (.bipush 50, 2) := by decide +kernel
theorem dX5_init_81 : decode cX5_init 81 = .ok (.invokespecial 38, 3) := by decide +kernel
theorem dX5_init_84 : decode cX5_init 84 = .ok (.putfield 45, 3) := by decide +kernel
theorem dX5_init_87 : decode cX5_init 87 = .ok (.aload_n 0, 1) := by decide +kernel
theorem dX5_init_88 : decode cX5_init 88 = .ok (.new 36, 3) := by decide +kernel
theorem dX5_init_91 : decode cX5_init 91 = .ok (.dup, 1) := by decide +kernel
theorem dX5_init_92 : decode cX5_init 92 = .ok (.bipush 20, 2) := by decide +kernel
theorem dX5_init_94 : decode cX5_init 94 = .ok (.invokespecial 38, 3) := by decide +kernel
theorem dX5_init_97 : decode cX5_init 97 = .ok (.putfield 48, 3) := by decide +kernel
theorem dX5_init_100 : decode cX5_init 100 = .ok (.aload_n 0, 1) := by decide +kernel
theorem dX5_init_101 : decode cX5_init 101 = .ok (.new 51, 3) := by decide +kernel
theorem dX5_init_104 : decode cX5_init 104 = .ok (.dup, 1) := by decide +kernel
theorem dX5_init_105 : decode cX5_init 105 = .ok (.iconst 0, 1) := by decide +kernel
theorem dX5_init_106 : decode cX5_init 106 = .ok (.invokespecial 53, 3) := by decide +kernel
theorem dX5_init_109 : decode cX5_init 109 = .ok (.putfield 54, 3) := by decide +kernel
theorem dX5_init_112 : decode cX5_init 112 = .ok (.aload_n 0, 1) := by decide +kernel
theorem dX5_init_113 : decode cX5_init 113 = .ok (.new 51, 3) := by decide +kernel
theorem dX5_init_116 : decode cX5_init 116 = .ok (.dup, 1) := by decide +kernel
theorem dX5_init_117 : decode cX5_init 117 = .ok (.iconst 1, 1) := by decide +kernel
theorem dX5_init_118 : decode cX5_init 118 = .ok (.invokespecial 53, 3) := by decide +kernel
theorem dX5_init_121 : decode cX5_init 121 = .ok (.putfield 58, 3) := by decide +kernel
theorem dX5_init_124 : decode cX5_init 124 = .ok (.aload_n 0, 1) := by decide +kernel
theorem dX5_init_125 : decode cX5_init 125 = .ok (.iconst 1, 1) := by decide +kernel
theorem dX5_init_126 : decode cX5_init 126 = .ok (.putfield 61, 3) := by decide +kernel
theorem dX5_init_129 : decode cX5_init 129 = .ok (.aload_n 0, 1) := by decide +kernel
theorem dX5_init_130 : decode cX5_init 130 = .ok (.getfield 21, 3) := by decide +kernel
theorem dX5_init_133 : decode cX5_init 133 = .ok (.iconst 3, 1) := by decide +kernel
theorem dX5_init_134 : decode cX5_init 134 = .ok (.invokestatic 65, 3) := by decide +kernel
theorem dX5_init_137 : decode cX5_init 137 = .ok (.return_, 1) := by decide +kernel
theorem dX5_copyFrom_0 : decode cX5_copyFrom 0 = .ok (.aload_n 1, 1) := by decide +kernel
theorem dX5_copyFrom_1 : decode cX5_copyFrom 1 = .ok (.getfield 9, 3) := by decide +kernel
theorem dX5_copyFrom_4 : decode cX5_copyFrom 4 = .ok (.iconst 0, 1) := by decide +kernel
theorem dX5_copyFrom_5 : decode cX5_copyFrom 5 = .ok (.aload_n 0, 1) := by decide +kernel
theorem dX5_copyFrom_6 : decode cX5_copyFrom 6 = .ok (.getfield 9, 3) := by decide +kernel
theorem dX5_copyFrom_9 : decode cX5_copyFrom 9 = .ok (.iconst 0, 1) := by decide +kernel
theorem dX5_copyFrom_10 : decode cX5_copyFrom 10 = .ok (.bipush 9, 2) := by decide +kernel
theorem dX5_copyFrom_12 : decode cX5_copyFrom 12 = .ok (.invokestatic 71, 3) := by decide +kernel
theorem dX5_copyFrom_15 : decode cX5_copyFrom 15 = .ok (.aload_n 1, 1) := by decide +kernel
theorem dX5_copyFrom_16 : decode cX5_copyFrom 16 = .ok (.getfield 15, 3) := by decide +kernel
theorem dX5_copyFrom_19 : decode cX5_copyFrom 19 = .ok (.iconst 0, 1) := by decide +kernel
theorem dX5_copyFrom_20 : decode cX5_copyFrom 20 = .ok (.aload_n 0, 1) := by decide +kernel
theorem dX5_copyFrom_21 : decode cX5_copyFrom 21 = .ok (.getfield 15, 3) := by decide +kernel
theorem dX5_copyFrom_24 : decode cX5_copyFrom 24 = .ok (.iconst 0, 1) := by decide +kernel
theorem dX5_copyFrom_25 : decode cX5_copyFrom 25 = .ok (.bipush 9, 2) := by decide +kernel
theorem dX5_copyFrom_27 : decode cX5_copyFrom 27 = .ok (.invokestatic 71, 3) := by decide +kernel
theorem dX5_copyFrom_30 : decode cX5_copyFrom 30 = .ok (.aload_n 1, 1) := by decide +kernel
theorem dX5_copyFrom_31 : decode cX5_copyFrom 31 = .ok (.getfield 18, 3) := by decide +kernel
theorem dX5_copyFrom_34 : decode cX5_copyFrom 34 = .ok (.iconst 0, 1) := by decide +kernel
theorem dX5_copyFrom_35 : decode cX5_copyFrom 35 = .ok (.aload_n 0, 1) := by decide +kernel
theorem dX5_copyFrom_36 : decode cX5_copyFrom 36 = .ok (.getfield 18, 3) := by decide +kernel
theorem dX5_copyFrom_39 : decode cX5_copyFrom 39 = .ok (.iconst 0, 1) := by decide +kernel
theorem dX5_copyFrom_40 : decode cX5_copyFrom 40 = .ok (.bipush 9, 2) := by decide +kernel
theorem dX5_copyFrom_42 : decode cX5_copyFrom 42 = .ok (.invokestatic 71, 3) := by decide +kernel
theorem dX5_copyFrom_45 : decode cX5_copyFrom 45 = .ok (.aload_n 0, 1) := by decide +kernel
theorem dX5_copyFrom_46 : decode cX5_copyFrom 46 = .ok (.aload_n 1, 1) := by decide +kernel
theorem dX5_copyFrom_47 : decode cX5_copyFrom 47 = .ok (.getfield 77, 3) := by decide +kernel
theorem dX5_copyFrom_50 : decode cX5_copyFrom 50 = .ok (.putfield 77, 3) := by decide +kernel
theorem dX5_copyFrom_53 : decode cX5_copyFrom 53 = .ok (.aload_n 1, 1) := by decide +kernel
theorem dX5_copyFrom_54 : decode cX5_copyFrom 54 = .ok (.getfield 21, 3) := by decide +kernel
theorem dX5_copyFrom_57 : decode cX5_copyFrom 57 = .ok (.iconst 0, 1) := by decide +kernel
theorem dX5_copyFrom_58 : decode cX5_copyFrom 58 = .ok (.aload_n 0, 1) := by decide +kernel
theorem dX5_copyFrom_59 : decode cX5_copyFrom 59 = .ok (.getfield 21, 3) := by decide +kernel
theorem dX5_copyFrom_62 : decode cX5_copyFrom 62 = .ok (.iconst 0, 1) := by decide +kernel
theorem dX5_copyFrom_63 : decode cX5_copyFrom 63 = .ok (.bipush 24, 2) := by decide +kernel
theorem dX5_copyFrom_65 : decode cX5_copyFrom 65 = .ok (.invokestatic 71, 3) := by decide +kernel
theorem dX5_copyFrom_68 : decode cX5_copyFrom 68 = .ok (.iconst 0, 1) := by decide +kernel
theorem dX5_copyFrom_69 : decode cX5_copyFrom 69 = .ok (.istore_n 2, 1) := by decide +kernel
theorem dX5_copyFrom_70 : decode cX5_copyFrom 70 = .ok (.iload_n 2, 1) := by decide +kernel
theorem dX5_copyFrom_71 : decode cX5_copyFrom 71 = .ok (.bipush 8, 2) := by decide +kernel
theorem dX5_copyFrom_73 : decode cX5_copyFrom 73 = .ok (.if_icmp .ge 21, 3) := by decide +kernel
theorem dX5_copyFrom_76 : decode cX5_copyFrom 76 = .ok (.aload_n 0, 1) := by decide +kernel
theorem dX5_copyFrom_77 : decode cX5_copyFrom 77 = .ok (.getfield 26, 3) := by decide +kernel
theorem dX5_copyFrom_80 : decode cX5_copyFrom 80 = .ok (.iload_n 2, 1) := by decide +kernel
theorem dX5_copyFrom_81 : decode cX5_copyFrom 81 = .ok (.aload_n 1, 1) := by decide +kernel
theorem dX5_copyFrom_82 : decode cX5_copyFrom 82 = .ok (.getfield 26, 3) := by decide +kernel
theorem dX5_copyFrom_85 : decode cX5_copyFrom 85 = .ok (.iload_n 2, 1) := by decide +kernel
theorem dX5_copyFrom_86 : decode cX5_copyFrom 86 = .ok (.aaload, 1) := by decide +kernel
theorem dX5_copyFrom_87 : decode cX5_copyFrom 87 = .ok (.aastore, 1) := by decide +kernel
theorem dX5_copyFrom_88 : decode cX5_copyFrom 88 = .ok (.iinc 2 1, 3) := by decide +kernel
theorem dX5_copyFrom_91 : decode cX5_copyFrom 91 = .ok (.goto (-21), 3) := by decide +kernel
theorem dX5_copyFrom_94 : decode cX5_copyFrom 94 = .ok (.aload_n 1, 1) := by decide +kernel
theorem dX5_copyFrom_95 : decode cX5_copyFrom 95 = .ok (.getfield 30, 3) := by decide +kernel
theorem dX5_copyFrom_98 : decode cX5_copyFrom 98 = .ok (.iconst 0, 1) := by decide +kernel
theorem dX5_copyFrom_99 : decode cX5_copyFrom 99 = .ok (.aload_n 0, 1) := by decide +kernel
theorem dX5_copyFrom_100 : decode cX5_copyFrom 100 = .ok (.getfield 30, 3) := by decide +kernel
theorem dX5_copyFrom_103 : decode cX5_copyFrom 103 = .ok (.iconst 0, 1) := by decide +kernel
theorem dX5_copyFrom_104 : decode cX5_copyFrom 104 = .ok (.bipush 8, 2) := by decide +kernel
theorem dX5_copyFrom_106 : decode cX5_copyFrom 106 = .ok (.invokestatic 71, 3) := by decide +kernel
theorem dX5_copyFrom_109 : decode cX5_copyFrom 109 = .ok (.aload_n 0, 1) := by decide +kernel
theorem dX5_copyFrom_110 : decode cX5_copyFrom 110 = .ok (.aload_n 1, 1) := by decide +kernel
theorem dX5_copyFrom_111 : decode cX5_copyFrom 111 = .ok (.getfield 80, 3) := by decide +kernel
theorem dX5_copyFrom_114 : decode cX5_copyFrom 114 = .ok (.putfield 80, 3) := by decide +kernel
theorem dX5_copyFrom_117 : decode cX5_copyFrom 117 = .ok (.aload_n 1, 1) := by decide +kernel
theorem dX5_copyFrom_118 : decode cX5_copyFrom 118 = .ok (.getfield 33, 3) := by decide +kernel
theorem dX5_copyFrom_121 : decode cX5_copyFrom 121 = .ok (.iconst 0, 1) := by decide +kernel
theorem dX5_copyFrom_122 : decode cX5_copyFrom 122 = .ok (.aload_n 0, 1) := by decide +kernel
theorem dX5_copyFrom_123 : decode cX5_copyFrom 123 = .ok (.getfield 33, 3) := by decide +kernel
theorem dX5_copyFrom_126 : decode cX5_copyFrom 126 = .ok (.iconst 0, 1) := by decide +kernel
theorem dX5_copyFrom_127 : decode cX5_copyFrom 127 = .ok (.bipush 84, 2) := by decide +kernel
theorem dX5_copyFrom_129 : decode cX5_copyFrom 129 = .ok (.invokestatic 71, 3) := by decide +kernel
theorem dX5_copyFrom_132 : decode cX5_copyFrom 132 = .ok (.aload_n 0, 1) := by decide +kernel
theorem dX5_copyFrom_133 : decode cX5_copyFrom 133 = .ok (.aload_n 1, 1) := by decide +kernel
theorem dX5_copyFrom_134 : decode cX5_copyFrom 134 = .ok (.getfield 83, 3) := by decide +kernel
theorem dX5_copyFrom_137 : decode cX5_copyFrom 137 = .ok (.putfield 83, 3) := by decide +kernel
theorem dX5_copyFrom_140 : decode cX5_copyFrom 140 = .ok (.aload_n 0, 1) := by decide +kernel
theorem dX5_copyFrom_141 : decode cX5_copyFrom 141 = .ok (.getfield 41, 3) := by decide +kernel
theorem dX5_copyFrom_144 : decode cX5_copyFrom 144 = .ok (.aload_n 1, 1) := by decide +kernel
theorem dX5_copyFrom_145 : decode cX5_copyFrom 145 = .ok (.getfield 41, 3) := by decide +kernel
theorem dX5_copyFrom_148 : decode cX5_copyFrom 148 = .ok (.invokevirtual 86, 3) := by decide +kernel
theorem dX5_copyFrom_151 : decode cX5_copyFrom 151 = .ok (.aload_n 0, 1) := by decide +kernel
theorem dX5_copyFrom_152 : decode cX5_copyFrom 152 = .ok (.getfield 45, 3) := by decide +kernel
theorem dX5_copyFrom_155 : decode cX5_copyFrom 155 = .ok (.aload_n 1, 1) := by decide +kernel
theorem dX5_copyFrom_156 : decode cX5_copyFrom 156 = .ok (.getfield 45, 3) := by decide +kernel
theorem dX5_copyFrom_159 : decode cX5_copyFrom 159 = .ok (.invokevirtual 86, 3) := by decide +kernel
theorem dX5_copyFrom_162 : decode cX5_copyFrom 162 = .ok (.aload_n 0, 1) := by decide +kernel
theorem dX5_copyFrom_163 : decode cX5_copyFrom 163 = .ok (.getfield 48, 3) := by decide +kernel
theorem dX5_copyFrom_166 : decode cX5_copyFrom 166 = .ok (.aload_n 1, 1) := by decide +kernel
theorem dX5_copyFrom_167 : decode cX5_copyFrom 167 = .ok (.getfield 48, 3) := by decide +kernel
theorem dX5_copyFrom_170 : decode cX5_copyFrom 170 = .ok (.invokevirtual 86, 3) := by decide +kernel
theorem dX5_copyFrom_173 : decode cX5_copyFrom 173 = .ok (.aload_n 0, 1) := by decide +kernel
theorem dX5_copyFrom_174 : decode cX5_copyFrom 174 = .ok (.getfield 54, 3) := by decide +kernel
theorem dX5_copyFrom_177 : decode cX5_copyFrom 177 = .ok (.aload_n 1, 1) := by decide +kernel
theorem dX5_copyFrom_178 : decode cX5_copyFrom 178 = .ok (.getfield 54, 3) := by decide +kernel
theorem dX5_copyFrom_181 : decode cX5_copyFrom 181 = .ok (.invokevirtual 90, 3) := by decide +kernel
theorem dX5_copyFrom_184 : decode cX5_copyFrom 184 = .ok (.aload_n 0, 1) := by decide +kernel
theorem dX5_copyFrom_185 : decode cX5_copyFrom 185 = .ok (.getfield 58, 3) := by decide +kernel
theorem dX5_copyFrom_188 : decode cX5_copyFrom 188 = .ok (.aload_n 1, 1) := by decide +kernel
theorem dX5_copyFrom_189 : decode cX5_copyFrom 189 = .ok (.getfield 58, 3) := by decide +kernel
theorem dX5_copyFrom_192 : decode cX5_copyFrom 192 = .ok (.invokevirtual 90, 3) := by decide +kernel
theorem dX5_copyFrom_195 : decode cX5_copyFrom 195 = .ok (.aload_n 0, 1) := by decide +kernel
theorem dX5_copyFrom_196 : decode cX5_copyFrom 196 = .ok (.aload_n 1, 1) := by decide +kernel
theorem dX5_copyFrom_197 : decode cX5_copyFrom 197 = .ok (.getfield 93, 3) := by decide +kernel
theorem dX5_copyFrom_200 : decode cX5_copyFrom 200 = .ok (.putfield 93, 3) := by decide +kernel
theorem dX5_copyFrom_203 : decode cX5_copyFrom 203 = .ok (.aload_n 0, 1) := by decide +kernel
theorem dX5_copyFrom_204 : decode cX5_copyFrom 204 = .ok (.aload_n 1, 1) := by decide +kernel
theorem dX5_copyFrom_205 : decode cX5_copyFrom 205 = .ok (.getfield 96, 3) := by decide +kernel
theorem dX5_copyFrom_208 : decode cX5_copyFrom 208 = .ok (.putfield 96, 3) := by decide +kernel
theorem dX5_copyFrom_211 : decode cX5_copyFrom 211 = .ok (.aload_n 0, 1) := by decide +kernel
theorem dX5_copyFrom_212 : decode cX5_copyFrom 212 = .ok (.aload_n 1, 1) := by decide +kernel
theorem dX5_copyFrom_213 : decode cX5_copyFrom 213 = .ok (.getfield 61, 3) := by decide +kernel
theorem dX5_copyFrom_216 : decode cX5_copyFrom 216 = .ok (.putfield 61, 3) := by decide +kernel
theorem dX5_copyFrom_219 : decode cX5_copyFrom 219 = .ok (.return_, 1) := by decide +kernel
theorem dX5_isHill_0 : decode cX5_isHill 0 = .ok (.iload_n 1, 1) := by decide +kernel
theorem dX5_isHill_1 : decode cX5_isHill 1 = .ok (.ifCond .lt 21, 3) := by decide +kernel
theorem dX5_isHill_4 : decode cX5_isHill 4 = .ok (.iload_n 1, 1) := by decide +kernel
theorem dX5_isHill_5 : decode cX5_isHill 5 = .ok (.aload_n 0, 1) := by decide +kernel
theorem dX5_isHill_6 : decode cX5_isHill 6 = .ok (.getfield 77, 3) := by decide +kernel
theorem dX5_isHill_9 : decode cX5_isHill 9 = .ok (.if_icmp .ge 13, 3) := by decide +kernel
theorem dX5_isHill_12 : decode cX5_isHill 12 = .ok (.iload_n 1, 1) := by decide +kernel
theorem dX5_isHill_13 : decode cX5_isHill 13 = .ok (.bipush 9, 2) := by decide +kernel
theorem dX5_isHill_15 : decode cX5_isHill 15 = .ok (.if_icmp .ge 7, 3) := by decide +kernel
theorem dX5_isHill_18 : decode cX5_isHill 18 = .ok (.iconst 1, 1) := by decide +kernel
theorem dX5_isHill_19 : decode cX5_isHill 19 = .ok (.goto 4, 3) := by decide +kernel
theorem dX5_isHill_22 : decode cX5_isHill 22 = .ok (.iconst 0, 1) := by decide +kernel
theorem dX5_isHill_23 : decode cX5_isHill 23 = .ok (.ireturn, 1) := by decide +kernel
theorem dX5_areTwoHills_0 : decode cX5_areTwoHills 0 = .ok (.aload_n 0, 1) := by decide +kernel
theorem dX5_areTwoHills_1 : decode cX5_areTwoHills 1 = .ok (.iload_n 1, 1) := by decide +kernel
theorem dX5_areTwoHills_2 : decode cX5_areTwoHills 2 = .ok (.invokevirtual 99, 3) := by decide +kernel
theorem dX5_areTwoHills_5 : decode cX5_areTwoHills 5 = .ok (.ifCond .eq 20, 3) := by decide +kernel
theorem dX5_areTwoHills_8 : decode cX5_areTwoHills 8 = .ok (.aload_n 0, 1) := by decide +kernel
theorem dX5_areTwoHills_9 : decode cX5_areTwoHills 9 = .ok (.iload_n 2, 1) := by decide +kernel
theorem dX5_areTwoHills_10 : decode cX5_areTwoHills 10 = .ok (.invokevirtual 99, 3) := by decide +kernel
theorem dX5_areTwoHills_13 : decode cX5_areTwoHills 13 = .ok (.ifCond .eq 12, 3) := by decide +kernel
theorem dX5_areTwoHills_16 : decode cX5_areTwoHills 16 = .ok (.iload_n 1, 1) := by decide +kernel
theorem dX5_areTwoHills_17 : decode cX5_areTwoHills 17 = .ok (.iload_n 2, 1) := by decide +kernel
theorem dX5_areTwoHills_18 : decode cX5_areTwoHills 18 = .ok (.if_icmp .eq 7, 3) := by decide +kernel
theorem dX5_areTwoHills_21 : decode cX5_areTwoHills 21 = .ok (.iconst 1, 1) := by decide +kernel
theorem dX5_areTwoHills_22 : decode cX5_areTwoHills 22 = .ok (.goto 4, 3) := by decide +kernel
theorem dX5_areTwoHills_25 : decode cX5_areTwoHills 25 = .ok (.iconst 0, 1) := by decide +kernel
theorem dX5_areTwoHills_26 : decode cX5_areTwoHills 26 = .ok (.ireturn, 1) := by decide +kernel
theorem dX5_hillAt_0 : decode cX5_hillAt 0 = .ok (.iconst 0, 1) := by decide +kernel
theorem dX5_hillAt_1 : decode cX5_hillAt 1 = .ok (.istore_n 2, 1) := by decide +kernel
theorem dX5_hillAt_2 : decode cX5_hillAt 2 = .ok (.iload_n 2, 1) := by decide +kernel
theorem dX5_hillAt_3 : decode cX5_hillAt 3 = .ok (.aload_n 0, 1) := by decide +kernel
theorem dX5_hillAt_4 : decode cX5_hillAt 4 = .ok (.getfield 77, 3) := by decide +kernel
theorem dX5_hillAt_7 : decode cX5_hillAt 7 = .ok (.if_icmp .ge 20, 3) := by decide +kernel
theorem dX5_hillAt_10 : decode cX5_hillAt 10 = .ok (.aload_n 0, 1) := by decide +kernel
theorem dX5_hillAt_11 : decode cX5_hillAt 11 = .ok (.iload_n 2, 1) := by decide +kernel
theorem dX5_hillAt_12 : decode cX5_hillAt 12 = .ok (.invokevirtual 103, 3) := by decide +kernel
theorem dX5_hillAt_15 : decode cX5_hillAt 15 = .ok (.iload_n 1, 1) := by decide +kernel
theorem dX5_hillAt_16 : decode cX5_hillAt 16 = .ok (.if_icmp .ne 5, 3) := by decide +kernel
theorem dX5_hillAt_19 : decode cX5_hillAt 19 = .ok (.iload_n 2, 1) := by decide +kernel
theorem dX5_hillAt_20 : decode cX5_hillAt 20 = .ok (.ireturn, 1) := by decide +kernel
theorem dX5_hillAt_21 : decode cX5_hillAt 21 = .ok (.iinc 2 1, 3) := by decide +kernel
theorem dX5_hillAt_24 : decode cX5_hillAt 24 = .ok (.goto (-22), 3) := by decide +kernel
theorem dX5_hillAt_27 : decode cX5_hillAt 27 = .ok (.iconst (-1), 1) := by decide +kernel
theorem dX5_hillAt_28 : decode cX5_hillAt 28 = .ok (.ireturn, 1) := by decide +kernel
theorem dX5_addHill_0 : decode cX5_addHill 0 = .ok (.aload_n 0, 1) := by decide +kernel
theorem dX5_addHill_1 : decode cX5_addHill 1 = .ok (.getfield 77, 3) := by decide +kernel
theorem dX5_addHill_4 : decode cX5_addHill 4 = .ok (.bipush 9, 2) := by decide +kernel
theorem dX5_addHill_6 : decode cX5_addHill 6 = .ok (.if_icmp .lt 5, 3) := by decide +kernel
theorem dX5_addHill_9 : decode cX5_addHill 9 = .ok (.iconst (-1), 1) := by decide +kernel
theorem dX5_addHill_10 : decode cX5_addHill 10 = .ok (.ireturn, 1) := by decide +kernel
theorem dX5_addHill_11 : decode cX5_addHill 11 = .ok (.aload_n 0, 1) := by decide +kernel
theorem dX5_addHill_12 : decode cX5_addHill 12 = .ok (.getfield 77, 3) := by decide +kernel
theorem dX5_addHill_15 : decode cX5_addHill 15 = .ok (.istore_n 3, 1) := by decide +kernel
theorem dX5_addHill_16 : decode cX5_addHill 16 = .ok (.aload_n 0, 1) := by decide +kernel
theorem dX5_addHill_17 : decode cX5_addHill 17 = .ok (.dup, 1) := by decide +kernel
theorem dX5_addHill_18 : decode cX5_addHill 18 = .ok (.getfield 77, 3) := by decide +kernel
theorem dX5_addHill_21 : decode cX5_addHill 21 = .ok (.iconst 1, 1) := by decide +kernel
theorem dX5_addHill_22 : decode cX5_addHill 22 = .ok (.iadd, 1) := by decide +kernel
theorem dX5_addHill_23 : decode cX5_addHill 23 = .ok (.putfield 77, 3) := by decide +kernel
theorem dX5_addHill_26 : decode cX5_addHill 26 = .ok (.aload_n 0, 1) := by decide +kernel
theorem dX5_addHill_27 : decode cX5_addHill 27 = .ok (.getfield 18, 3) := by decide +kernel
theorem dX5_addHill_30 : decode cX5_addHill 30 = .ok (.iload_n 3, 1) := by decide +kernel
theorem dX5_addHill_31 : decode cX5_addHill 31 = .ok (.iload_n 2, 1) := by decide +kernel
theorem dX5_addHill_32 : decode cX5_addHill 32 = .ok (.iastore, 1) := by decide +kernel
theorem dX5_addHill_33 : decode cX5_addHill 33 = .ok (.aload_n 0, 1) := by decide +kernel
theorem dX5_addHill_34 : decode cX5_addHill 34 = .ok (.iload_n 3, 1) := by decide +kernel
theorem dX5_addHill_35 : decode cX5_addHill 35 = .ok (.iload_n 1, 1) := by decide +kernel
theorem dX5_addHill_36 : decode cX5_addHill 36 = .ok (.invokevirtual 107, 3) := by decide +kernel
theorem dX5_addHill_39 : decode cX5_addHill 39 = .ok (.iload_n 3, 1) := by decide +kernel
theorem dX5_addHill_40 : decode cX5_addHill 40 = .ok (.ireturn, 1) := by decide +kernel
theorem dX5_changePlace_0 : decode cX5_changePlace 0 = .ok (.aload_n 0, 1) := by decide +kernel
theorem dX5_changePlace_1 : decode cX5_changePlace 1 = .ok (.iload_n 1, 1) := by decide +kernel
theorem dX5_changePlace_2 : decode cX5_changePlace 2 = .ok (.invokevirtual 99, 3) := by decide +kernel
theorem dX5_changePlace_5 : decode cX5_changePlace 5 = .ok (.ifCond .eq 23, 3) := by decide +kernel
theorem dX5_changePlace_8 : decode cX5_changePlace 8 = .ok (.aload_n 0, 1) := by decide +kernel
theorem dX5_changePlace_9 : decode cX5_changePlace 9 = .ok (.getfield 9, 3) := by decide +kernel
theorem dX5_changePlace_12 : decode cX5_changePlace 12 = .ok (.iload_n 1, 1) := by decide +kernel
theorem dX5_changePlace_13 : decode cX5_changePlace 13 = .ok (.iload_n 2, 1) := by decide +kernel
theorem dX5_changePlace_14 : decode cX5_changePlace 14 = .ok (.bipush 16, 2) := by decide +kernel
theorem dX5_changePlace_16 : decode cX5_changePlace 16 = .ok (.idiv, 1) := by decide +kernel
theorem dX5_changePlace_17 : decode cX5_changePlace 17 = .ok (.iastore, 1) := by decide +kernel
theorem dX5_changePlace_18 : decode cX5_changePlace 18 = .ok (.aload_n 0, 1) := by decide +kernel
theorem dX5_changePlace_19 : decode cX5_changePlace 19 = .ok (.getfield 15, 3) := by decide +kernel
theorem dX5_changePlace_22 : decode cX5_changePlace 22 = .ok (.iload_n 1, 1) := by decide +kernel
theorem dX5_changePlace_23 : decode cX5_changePlace 23 = .ok (.iload_n 2, 1) := by decide +kernel
theorem dX5_changePlace_24 : decode cX5_changePlace 24 = .ok (.bipush 16, 2) := by decide +kernel
theorem dX5_changePlace_26 : decode cX5_changePlace 26 = .ok (.irem, 1) := by decide +kernel
theorem dX5_changePlace_27 : decode cX5_changePlace 27 = .ok (.iastore, 1) := by decide +kernel
theorem dX5_changePlace_28 : decode cX5_changePlace 28 = .ok (.return_, 1) := by decide +kernel
theorem dX5_placeOf_0 : decode cX5_placeOf 0 = .ok (.bipush 16, 2) := by decide +kernel
theorem dX5_placeOf_2 : decode cX5_placeOf 2 = .ok (.aload_n 0, 1) := by decide +kernel
theorem dX5_placeOf_3 : decode cX5_placeOf 3 = .ok (.iload_n 1, 1) := by decide +kernel
theorem dX5_placeOf_4 : decode cX5_placeOf 4 = .ok (.invokevirtual 111, 3) := by decide +kernel
theorem dX5_placeOf_7 : decode cX5_placeOf 7 = .ok (.imul, 1) := by decide +kernel
theorem dX5_placeOf_8 : decode cX5_placeOf 8 = .ok (.aload_n 0, 1) := by decide +kernel
theorem dX5_placeOf_9 : decode cX5_placeOf 9 = .ok (.iload_n 1, 1) := by decide +kernel
theorem dX5_placeOf_10 : decode cX5_placeOf 10 = .ok (.invokevirtual 114, 3) := by decide +kernel
theorem dX5_placeOf_13 : decode cX5_placeOf 13 = .ok (.iadd, 1) := by decide +kernel
theorem dX5_placeOf_14 : decode cX5_placeOf 14 = .ok (.ireturn, 1) := by decide +kernel
theorem dX5_heightOf_0 : decode cX5_heightOf 0 = .ok (.aload_n 0, 1) := by decide +kernel
theorem dX5_heightOf_1 : decode cX5_heightOf 1 = .ok (.iload_n 1, 1) := by decide +kernel
theorem dX5_heightOf_2 : decode cX5_heightOf 2 = .ok (.invokevirtual 99, 3) := by decide +kernel
theorem dX5_heightOf_5 : decode cX5_heightOf 5 = .ok (.ifCond .eq 12, 3) := by decide +kernel
theorem dX5_heightOf_8 : decode cX5_heightOf 8 = .ok (.aload_n 0, 1) := by decide +kernel
theorem dX5_heightOf_9 : decode cX5_heightOf 9 = .ok (.getfield 18, 3) := by decide +kernel
theorem dX5_heightOf_12 : decode cX5_heightOf 12 = .ok (.iload_n 1, 1) := by decide +kernel
theorem dX5_heightOf_13 : decode cX5_heightOf 13 = .ok (.iaload, 1) := by decide +kernel
theorem dX5_heightOf_14 : decode cX5_heightOf 14 = .ok (.goto 4, 3) := by decide +kernel
theorem dX5_heightOf_17 : decode cX5_heightOf 17 = .ok (.iconst 0, 1) := by decide +kernel
theorem dX5_heightOf_18 : decode cX5_heightOf 18 = .ok (.ireturn, 1) := by decide +kernel
theorem dX5_xOf_0 : decode cX5_xOf 0 = .ok (.iload_n 1, 1) := by decide +kernel
theorem dX5_xOf_1 : decode cX5_xOf 1 = .ok (.ifCond .lt 18, 3) := by decide +kernel
theorem dX5_xOf_4 : decode cX5_xOf 4 = .ok (.iload_n 1, 1) := by decide +kernel
theorem dX5_xOf_5 : decode cX5_xOf 5 = .ok (.bipush 9, 2) := by decide +kernel
theorem dX5_xOf_7 : decode cX5_xOf 7 = .ok (.if_icmp .ge 12, 3) := by decide +kernel
theorem dX5_xOf_10 : decode cX5_xOf 10 = .ok (.aload_n 0, 1) := by decide +kernel
theorem dX5_xOf_11 : decode cX5_xOf 11 = .ok (.getfield 9, 3) := by decide +kernel
theorem dX5_xOf_14 : decode cX5_xOf 14 = .ok (.iload_n 1, 1) := by decide +kernel
theorem dX5_xOf_15 : decode cX5_xOf 15 = .ok (.iaload, 1) := by decide +kernel
theorem dX5_xOf_16 : decode cX5_xOf 16 = .ok (.goto 4, 3) := by decide +kernel
theorem dX5_xOf_19 : decode cX5_xOf 19 = .ok (.iconst 0, 1) := by decide +kernel
theorem dX5_xOf_20 : decode cX5_xOf 20 = .ok (.ireturn, 1) := by decide +kernel
theorem dX5_yOf_0 : decode cX5_yOf 0 = .ok (.iload_n 1, 1) := by decide +kernel
theorem dX5_yOf_1 : decode cX5_yOf 1 = .ok (.ifCond .lt 18, 3) := by decide +kernel
theorem dX5_yOf_4 : decode cX5_yOf 4 = .ok (.iload_n 1, 1) := by decide +kernel
theorem dX5_yOf_5 : decode cX5_yOf 5 = .ok (.bipush 9, 2) := by decide +kernel
theorem dX5_yOf_7 : decode cX5_yOf 7 = .ok (.if_icmp .ge 12, 3) := by decide +kernel
theorem dX5_yOf_10 : decode cX5_yOf 10 = .ok (.aload_n 0, 1) := by decide +kernel
theorem dX5_yOf_11 : decode cX5_yOf 11 = .ok (.getfield 15, 3) := by decide +kernel
theorem dX5_yOf_14 : decode cX5_yOf 14 = .ok (.iload_n 1, 1) := by decide +kernel
theorem dX5_yOf_15 : decode cX5_yOf 15 = .ok (.iaload, 1) := by decide +kernel
theorem dX5_yOf_16 : decode cX5_yOf 16 = .ok (.goto 4, 3) := by decide +kernel
theorem dX5_yOf_19 : decode cX5_yOf 19 = .ok (.iconst 0, 1) := by decide +kernel
theorem dX5_yOf_20 : decode cX5_yOf 20 = .ok (.ireturn, 1) := by decide +kernel
theorem dX5_far_0 : decode cX5_far 0 = .ok (.aload_n 0, 1) := by decide +kernel
theorem dX5_far_1 : decode cX5_far 1 = .ok (.iload_n 1, 1) := by decide +kernel
theorem dX5_far_2 : decode cX5_far 2 = .ok (.invokevirtual 111, 3) := by decide +kernel
theorem dX5_far_5 : decode cX5_far 5 = .ok (.aload_n 0, 1) := by decide +kernel
theorem dX5_far_6 : decode cX5_far 6 = .ok (.iload_n 2, 1) := by decide +kernel
theorem dX5_far_7 : decode cX5_far 7 = .ok (.invokevirtual 111, 3) := by decide +kernel
theorem dX5_far_10 : decode cX5_far 10 = .ok (.isub, 1) := by decide +kernel
theorem dX5_far_11 : decode cX5_far 11 = .ok (.invokestatic 117, 3) := by decide +kernel
theorem dX5_far_14 : decode cX5_far 14 = .ok (.aload_n 0, 1) := by decide +kernel
theorem dX5_far_15 : decode cX5_far 15 = .ok (.iload_n 1, 1) := by decide +kernel
theorem dX5_far_16 : decode cX5_far 16 = .ok (.invokevirtual 114, 3) := by decide +kernel
theorem dX5_far_19 : decode cX5_far 19 = .ok (.aload_n 0, 1) := by decide +kernel
theorem dX5_far_20 : decode cX5_far 20 = .ok (.iload_n 2, 1) := by decide +kernel
theorem dX5_far_21 : decode cX5_far 21 = .ok (.invokevirtual 114, 3) := by decide +kernel
theorem dX5_far_24 : decode cX5_far 24 = .ok (.isub, 1) := by decide +kernel
theorem dX5_far_25 : decode cX5_far 25 = .ok (.invokestatic 117, 3) := by decide +kernel
theorem dX5_far_28 : decode cX5_far 28 = .ok (.iadd, 1) := by decide +kernel
theorem dX5_far_29 : decode cX5_far 29 = .ok (.ireturn, 1) := by decide +kernel
theorem dX5_windAt_0 : decode cX5_windAt 0 = .ok (.iload_n 1, 1) := by decide +kernel
theorem dX5_windAt_1 : decode cX5_windAt 1 = .ok (.bipush 24, 2) := by decide +kernel
theorem dX5_windAt_3 : decode cX5_windAt 3 = .ok (.irem, 1) := by decide +kernel
theorem dX5_windAt_4 : decode cX5_windAt 4 = .ok (.istore_n 2, 1) := by decide +kernel
theorem dX5_windAt_5 : decode cX5_windAt 5 = .ok (.iload_n 2, 1) := by decide +kernel
theorem dX5_windAt_6 : decode cX5_windAt 6 = .ok (.ifCond .lt 12, 3) := by decide +kernel
theorem dX5_windAt_9 : decode cX5_windAt 9 = .ok (.aload_n 0, 1) := by decide +kernel
theorem dX5_windAt_10 : decode cX5_windAt 10 = .ok (.getfield 21, 3) := by decide +kernel
theorem dX5_windAt_13 : decode cX5_windAt 13 = .ok (.iload_n 2, 1) := by decide +kernel
theorem dX5_windAt_14 : decode cX5_windAt 14 = .ok (.iaload, 1) := by decide +kernel
theorem dX5_windAt_15 : decode cX5_windAt 15 = .ok (.goto 4, 3) := by decide +kernel
theorem dX5_windAt_18 : decode cX5_windAt 18 = .ok (.iconst 0, 1) := by decide +kernel
theorem dX5_windAt_19 : decode cX5_windAt 19 = .ok (.ireturn, 1) := by decide +kernel
theorem dX5_changeWind_0 : decode cX5_changeWind 0 = .ok (.iload_n 1, 1) := by decide +kernel
theorem dX5_changeWind_1 : decode cX5_changeWind 1 = .ok (.iconst 0, 1) := by decide +kernel
theorem dX5_changeWind_2 : decode cX5_changeWind 2 = .ok (.bipush 23, 2) := by decide +kernel
theorem dX5_changeWind_4 : decode cX5_changeWind 4 = .ok (.invokestatic 122, 3) := by decide +kernel
theorem dX5_changeWind_7 : decode cX5_changeWind 7 = .ok (.ifCond .eq 10, 3) := by decide +kernel
theorem dX5_changeWind_10 : decode cX5_changeWind 10 = .ok (.aload_n 0, 1) := by decide +kernel
theorem dX5_changeWind_11 : decode cX5_changeWind 11 = .ok (.getfield 21, 3) := by decide +kernel
theorem dX5_changeWind_14 : decode cX5_changeWind 14 = .ok (.iload_n 1, 1) := by decide +kernel
theorem dX5_changeWind_15 : decode cX5_changeWind 15 = .ok (.iload_n 2, 1) := by decide +kernel
theorem dX5_changeWind_16 : decode cX5_changeWind 16 = .ok (.iastore, 1) := by decide +kernel
theorem dX5_changeWind_17 : decode cX5_changeWind 17 = .ok (.return_, 1) := by decide +kernel
theorem dX5_kiteAt_0 : decode cX5_kiteAt 0 = .ok (.iload_n 1, 1) := by decide +kernel
theorem dX5_kiteAt_1 : decode cX5_kiteAt 1 = .ok (.ifCond .lt 26, 3) := by decide +kernel
theorem dX5_kiteAt_4 : decode cX5_kiteAt 4 = .ok (.iload_n 1, 1) := by decide +kernel
theorem dX5_kiteAt_5 : decode cX5_kiteAt 5 = .ok (.aload_n 0, 1) := by decide +kernel
theorem dX5_kiteAt_6 : decode cX5_kiteAt 6 = .ok (.getfield 80, 3) := by decide +kernel
theorem dX5_kiteAt_9 : decode cX5_kiteAt 9 = .ok (.if_icmp .ge 18, 3) := by decide +kernel
theorem dX5_kiteAt_12 : decode cX5_kiteAt 12 = .ok (.iload_n 1, 1) := by decide +kernel
theorem dX5_kiteAt_13 : decode cX5_kiteAt 13 = .ok (.bipush 8, 2) := by decide +kernel
theorem dX5_kiteAt_15 : decode cX5_kiteAt 15 = .ok (.if_icmp .ge 12, 3) := by decide +kernel
theorem dX5_kiteAt_18 : decode cX5_kiteAt 18 = .ok (.aload_n 0, 1) := by decide +kernel
theorem dX5_kiteAt_19 : decode cX5_kiteAt 19 = .ok (.getfield 26, 3) := by decide +kernel
theorem dX5_kiteAt_22 : decode cX5_kiteAt 22 = .ok (.iload_n 1, 1) := by decide +kernel
theorem dX5_kiteAt_23 : decode cX5_kiteAt 23 = .ok (.aaload, 1) := by decide +kernel
theorem dX5_kiteAt_24 : decode cX5_kiteAt 24 = .ok (.goto 4, 3) := by decide +kernel
theorem dX5_kiteAt_27 : decode cX5_kiteAt 27 = .ok (.aconst_null, 1) := by decide +kernel
theorem dX5_kiteAt_28 : decode cX5_kiteAt 28 = .ok (.areturn, 1) := by decide +kernel
theorem dX5_addKite_0 : decode cX5_addKite 0 = .ok (.aload_n 0, 1) := by decide +kernel
theorem dX5_addKite_1 : decode cX5_addKite 1 = .ok (.getfield 80, 3) := by decide +kernel
theorem dX5_addKite_4 : decode cX5_addKite 4 = .ok (.bipush 8, 2) := by decide +kernel
theorem dX5_addKite_6 : decode cX5_addKite 6 = .ok (.if_icmp .lt 5, 3) := by decide +kernel
theorem dX5_addKite_9 : decode cX5_addKite 9 = .ok (.iconst (-1), 1) := by decide +kernel
theorem dX5_addKite_10 : decode cX5_addKite 10 = .ok (.ireturn, 1) := by decide +kernel
theorem dX5_addKite_11 : decode cX5_addKite 11 = .ok (.aload_n 0, 1) := by decide +kernel
theorem dX5_addKite_12 : decode cX5_addKite 12 = .ok (.getfield 26, 3) := by decide +kernel
theorem dX5_addKite_15 : decode cX5_addKite 15 = .ok (.aload_n 0, 1) := by decide +kernel
theorem dX5_addKite_16 : decode cX5_addKite 16 = .ok (.getfield 80, 3) := by decide +kernel
theorem dX5_addKite_19 : decode cX5_addKite 19 = .ok (.aload_n 0, 1) := by decide +kernel
theorem dX5_addKite_20 : decode cX5_addKite 20 = .ok (.getfield 80, 3) := by decide +kernel
theorem dX5_addKite_23 : decode cX5_addKite 23 = .ok (.iload_n 1, 1) := by decide +kernel
theorem dX5_addKite_24 : decode cX5_addKite 24 = .ok (.iload_n 2, 1) := by decide +kernel
theorem dX5_addKite_25 : decode cX5_addKite 25 = .ok (.iload_n 3, 1) := by decide +kernel
theorem dX5_addKite_26 : decode cX5_addKite 26 = .ok (.invokestatic 126, 3) := by decide +kernel
theorem dX5_addKite_29 : decode cX5_addKite 29 = .ok (.aastore, 1) := by decide +kernel
theorem dX5_addKite_30 : decode cX5_addKite 30 = .ok (.aload_n 0, 1) := by decide +kernel
theorem dX5_addKite_31 : decode cX5_addKite 31 = .ok (.getfield 30, 3) := by decide +kernel
theorem dX5_addKite_34 : decode cX5_addKite 34 = .ok (.aload_n 0, 1) := by decide +kernel
theorem dX5_addKite_35 : decode cX5_addKite 35 = .ok (.getfield 80, 3) := by decide +kernel
theorem dX5_addKite_38 : decode cX5_addKite 38 = .ok (.iconst (-1), 1) := by decide +kernel
theorem dX5_addKite_39 : decode cX5_addKite 39 = .ok (.iastore, 1) := by decide +kernel
theorem dX5_addKite_40 : decode cX5_addKite 40 = .ok (.aload_n 0, 1) := by decide +kernel
theorem dX5_addKite_41 : decode cX5_addKite 41 = .ok (.dup, 1) := by decide +kernel
theorem dX5_addKite_42 : decode cX5_addKite 42 = .ok (.getfield 80, 3) := by decide +kernel
theorem dX5_addKite_45 : decode cX5_addKite 45 = .ok (.iconst 1, 1) := by decide +kernel
theorem dX5_addKite_46 : decode cX5_addKite 46 = .ok (.iadd, 1) := by decide +kernel
theorem dX5_addKite_47 : decode cX5_addKite 47 = .ok (.putfield 80, 3) := by decide +kernel
theorem dX5_addKite_50 : decode cX5_addKite 50 = .ok (.aload_n 0, 1) := by decide +kernel
theorem dX5_addKite_51 : decode cX5_addKite 51 = .ok (.getfield 80, 3) := by decide +kernel
theorem dX5_addKite_54 : decode cX5_addKite 54 = .ok (.iconst 1, 1) := by decide +kernel
theorem dX5_addKite_55 : decode cX5_addKite 55 = .ok (.isub, 1) := by decide +kernel
theorem dX5_addKite_56 : decode cX5_addKite 56 = .ok (.ireturn, 1) := by decide +kernel
theorem dX5_made_0 : decode cX5_made 0 = .ok (.iload_n 1, 1) := by decide +kernel
theorem dX5_made_1 : decode cX5_made 1 = .ok (.bipush 10, 2) := by decide +kernel
theorem dX5_made_3 : decode cX5_made 3 = .ok (.idiv, 1) := by decide +kernel
theorem dX5_made_4 : decode cX5_made 4 = .ok (.tableswitch 112 1 6 #[40, 52, 64, 76, 88, 100], 40) := by decide +kernel
theorem dX5_made_44 : decode cX5_made 44 = .ok (.new 130, 3) := by decide +kernel
theorem dX5_made_47 : decode cX5_made 47 = .ok (.dup, 1) := by decide +kernel
theorem dX5_made_48 : decode cX5_made 48 = .ok (.iload_n 0, 1) := by decide +kernel
theorem dX5_made_49 : decode cX5_made 49 = .ok (.iload_n 1, 1) := by decide +kernel
theorem dX5_made_50 : decode cX5_made 50 = .ok (.iload_n 2, 1) := by decide +kernel
theorem dX5_made_51 : decode cX5_made 51 = .ok (.iload_n 3, 1) := by decide +kernel
theorem dX5_made_52 : decode cX5_made 52 = .ok (.invokespecial 132, 3) := by decide +kernel
theorem dX5_made_55 : decode cX5_made 55 = .ok (.areturn, 1) := by decide +kernel
theorem dX5_made_56 : decode cX5_made 56 = .ok (.new 135, 3) := by decide +kernel
theorem dX5_made_59 : decode cX5_made 59 = .ok (.dup, 1) := by decide +kernel
theorem dX5_made_60 : decode cX5_made 60 = .ok (.iload_n 0, 1) := by decide +kernel
theorem dX5_made_61 : decode cX5_made 61 = .ok (.iload_n 1, 1) := by decide +kernel
theorem dX5_made_62 : decode cX5_made 62 = .ok (.iload_n 2, 1) := by decide +kernel
theorem dX5_made_63 : decode cX5_made 63 = .ok (.iload_n 3, 1) := by decide +kernel
theorem dX5_made_64 : decode cX5_made 64 = .ok (.invokespecial 137, 3) := by decide +kernel
theorem dX5_made_67 : decode cX5_made 67 = .ok (.areturn, 1) := by decide +kernel
theorem dX5_made_68 : decode cX5_made 68 = .ok (.new 138, 3) := by decide +kernel
theorem dX5_made_71 : decode cX5_made 71 = .ok (.dup, 1) := by decide +kernel
theorem dX5_made_72 : decode cX5_made 72 = .ok (.iload_n 0, 1) := by decide +kernel
theorem dX5_made_73 : decode cX5_made 73 = .ok (.iload_n 1, 1) := by decide +kernel
theorem dX5_made_74 : decode cX5_made 74 = .ok (.iload_n 2, 1) := by decide +kernel
theorem dX5_made_75 : decode cX5_made 75 = .ok (.iload_n 3, 1) := by decide +kernel
theorem dX5_made_76 : decode cX5_made 76 = .ok (.invokespecial 140, 3) := by decide +kernel
theorem dX5_made_79 : decode cX5_made 79 = .ok (.areturn, 1) := by decide +kernel
theorem dX5_made_80 : decode cX5_made 80 = .ok (.new 141, 3) := by decide +kernel
theorem dX5_made_83 : decode cX5_made 83 = .ok (.dup, 1) := by decide +kernel
theorem dX5_made_84 : decode cX5_made 84 = .ok (.iload_n 0, 1) := by decide +kernel
theorem dX5_made_85 : decode cX5_made 85 = .ok (.iload_n 1, 1) := by decide +kernel
theorem dX5_made_86 : decode cX5_made 86 = .ok (.iload_n 2, 1) := by decide +kernel
theorem dX5_made_87 : decode cX5_made 87 = .ok (.iload_n 3, 1) := by decide +kernel
theorem dX5_made_88 : decode cX5_made 88 = .ok (.invokespecial 143, 3) := by decide +kernel
theorem dX5_made_91 : decode cX5_made 91 = .ok (.areturn, 1) := by decide +kernel
theorem dX5_made_92 : decode cX5_made 92 = .ok (.new 144, 3) := by decide +kernel
theorem dX5_made_95 : decode cX5_made 95 = .ok (.dup, 1) := by decide +kernel
theorem dX5_made_96 : decode cX5_made 96 = .ok (.iload_n 0, 1) := by decide +kernel
theorem dX5_made_97 : decode cX5_made 97 = .ok (.iload_n 1, 1) := by decide +kernel
theorem dX5_made_98 : decode cX5_made 98 = .ok (.iload_n 2, 1) := by decide +kernel
theorem dX5_made_99 : decode cX5_made 99 = .ok (.iload_n 3, 1) := by decide +kernel
theorem dX5_made_100 : decode cX5_made 100 = .ok (.invokespecial 146, 3) := by decide +kernel
theorem dX5_made_103 : decode cX5_made 103 = .ok (.areturn, 1) := by decide +kernel
theorem dX5_made_104 : decode cX5_made 104 = .ok (.new 147, 3) := by decide +kernel
theorem dX5_made_107 : decode cX5_made 107 = .ok (.dup, 1) := by decide +kernel
theorem dX5_made_108 : decode cX5_made 108 = .ok (.iload_n 0, 1) := by decide +kernel
theorem dX5_made_109 : decode cX5_made 109 = .ok (.iload_n 1, 1) := by decide +kernel
theorem dX5_made_110 : decode cX5_made 110 = .ok (.iload_n 2, 1) := by decide +kernel
theorem dX5_made_111 : decode cX5_made 111 = .ok (.iload_n 3, 1) := by decide +kernel
theorem dX5_made_112 : decode cX5_made 112 = .ok (.invokespecial 149, 3) := by decide +kernel
theorem dX5_made_115 : decode cX5_made 115 = .ok (.areturn, 1) := by decide +kernel
theorem dX5_made_116 : decode cX5_made 116 = .ok (.new 24, 3) := by decide +kernel
theorem dX5_made_119 : decode cX5_made 119 = .ok (.dup, 1) := by decide +kernel
theorem dX5_made_120 : decode cX5_made 120 = .ok (.iload_n 0, 1) := by decide +kernel
theorem dX5_made_121 : decode cX5_made 121 = .ok (.iload_n 1, 1) := by decide +kernel
theorem dX5_made_122 : decode cX5_made 122 = .ok (.iload_n 2, 1) := by decide +kernel
theorem dX5_made_123 : decode cX5_made 123 = .ok (.iload_n 3, 1) := by decide +kernel
theorem dX5_made_124 : decode cX5_made 124 = .ok (.invokespecial 150, 3) := by decide +kernel
theorem dX5_made_127 : decode cX5_made 127 = .ok (.areturn, 1) := by decide +kernel
theorem dX5_aimOf_0 : decode cX5_aimOf 0 = .ok (.iload_n 1, 1) := by decide +kernel
theorem dX5_aimOf_1 : decode cX5_aimOf 1 = .ok (.iconst 0, 1) := by decide +kernel
theorem dX5_aimOf_2 : decode cX5_aimOf 2 = .ok (.bipush 7, 2) := by decide +kernel
theorem dX5_aimOf_4 : decode cX5_aimOf 4 = .ok (.invokestatic 122, 3) := by decide +kernel
theorem dX5_aimOf_7 : decode cX5_aimOf 7 = .ok (.ifCond .eq 12, 3) := by decide +kernel
theorem dX5_aimOf_10 : decode cX5_aimOf 10 = .ok (.aload_n 0, 1) := by decide +kernel
theorem dX5_aimOf_11 : decode cX5_aimOf 11 = .ok (.getfield 30, 3) := by decide +kernel
theorem dX5_aimOf_14 : decode cX5_aimOf 14 = .ok (.iload_n 1, 1) := by decide +kernel
theorem dX5_aimOf_15 : decode cX5_aimOf 15 = .ok (.iaload, 1) := by decide +kernel
theorem dX5_aimOf_16 : decode cX5_aimOf 16 = .ok (.goto 4, 3) := by decide +kernel
theorem dX5_aimOf_19 : decode cX5_aimOf 19 = .ok (.iconst (-1), 1) := by decide +kernel
theorem dX5_aimOf_20 : decode cX5_aimOf 20 = .ok (.ireturn, 1) := by decide +kernel
theorem dX5_changeAim_0 : decode cX5_changeAim 0 = .ok (.iload_n 1, 1) := by decide +kernel
theorem dX5_changeAim_1 : decode cX5_changeAim 1 = .ok (.iconst 0, 1) := by decide +kernel
theorem dX5_changeAim_2 : decode cX5_changeAim 2 = .ok (.bipush 7, 2) := by decide +kernel
theorem dX5_changeAim_4 : decode cX5_changeAim 4 = .ok (.invokestatic 122, 3) := by decide +kernel
theorem dX5_changeAim_7 : decode cX5_changeAim 7 = .ok (.ifCond .eq 10, 3) := by decide +kernel
theorem dX5_changeAim_10 : decode cX5_changeAim 10 = .ok (.aload_n 0, 1) := by decide +kernel
theorem dX5_changeAim_11 : decode cX5_changeAim 11 = .ok (.getfield 30, 3) := by decide +kernel
theorem dX5_changeAim_14 : decode cX5_changeAim 14 = .ok (.iload_n 1, 1) := by decide +kernel
theorem dX5_changeAim_15 : decode cX5_changeAim 15 = .ok (.iload_n 2, 1) := by decide +kernel
theorem dX5_changeAim_16 : decode cX5_changeAim 16 = .ok (.iastore, 1) := by decide +kernel
theorem dX5_changeAim_17 : decode cX5_changeAim 17 = .ok (.return_, 1) := by decide +kernel
theorem dX5_pullAt_0 : decode cX5_pullAt 0 = .ok (.aload_n 0, 1) := by decide +kernel
theorem dX5_pullAt_1 : decode cX5_pullAt 1 = .ok (.iload 4, 2) := by decide +kernel
theorem dX5_pullAt_3 : decode cX5_pullAt 3 = .ok (.invokevirtual 151, 3) := by decide +kernel
theorem dX5_pullAt_6 : decode cX5_pullAt 6 = .ok (.bipush 10, 2) := by decide +kernel
theorem dX5_pullAt_8 : decode cX5_pullAt 8 = .ok (.irem, 1) := by decide +kernel
theorem dX5_pullAt_9 : decode cX5_pullAt 9 = .ok (.istore 5, 2) := by decide +kernel
theorem dX5_pullAt_11 : decode cX5_pullAt 11 = .ok (.iconst 0, 1) := by decide +kernel
theorem dX5_pullAt_12 : decode cX5_pullAt 12 = .ok (.aload_n 0, 1) := by decide +kernel
theorem dX5_pullAt_13 : decode cX5_pullAt 13 = .ok (.iload_n 2, 1) := by decide +kernel
theorem dX5_pullAt_14 : decode cX5_pullAt 14 = .ok (.invokevirtual 154, 3) := by decide +kernel
theorem dX5_pullAt_17 : decode cX5_pullAt 17 = .ok (.aload_n 0, 1) := by decide +kernel
theorem dX5_pullAt_18 : decode cX5_pullAt 18 = .ok (.aload_n 1, 1) := by decide +kernel
theorem dX5_pullAt_19 : decode cX5_pullAt 19 = .ok (.getfield 157, 3) := by decide +kernel
theorem dX5_pullAt_22 : decode cX5_pullAt 22 = .ok (.invokevirtual 154, 3) := by decide +kernel
theorem dX5_pullAt_25 : decode cX5_pullAt 25 = .ok (.isub, 1) := by decide +kernel
theorem dX5_pullAt_26 : decode cX5_pullAt 26 = .ok (.invokestatic 160, 3) := by decide +kernel
theorem dX5_pullAt_29 : decode cX5_pullAt 29 = .ok (.istore 6, 2) := by decide +kernel
theorem dX5_pullAt_31 : decode cX5_pullAt 31 = .ok (.aload_n 1, 1) := by decide +kernel
theorem dX5_pullAt_32 : decode cX5_pullAt 32 = .ok (.getfield 164, 3) := by decide +kernel
theorem dX5_pullAt_35 : decode cX5_pullAt 35 = .ok (.iconst 2, 1) := by decide +kernel
theorem dX5_pullAt_36 : decode cX5_pullAt 36 = .ok (.iload 5, 2) := by decide +kernel
theorem dX5_pullAt_38 : decode cX5_pullAt 38 = .ok (.imul, 1) := by decide +kernel
theorem dX5_pullAt_39 : decode cX5_pullAt 39 = .ok (.iadd, 1) := by decide +kernel
theorem dX5_pullAt_40 : decode cX5_pullAt 40 = .ok (.iload_n 3, 1) := by decide +kernel
theorem dX5_pullAt_41 : decode cX5_pullAt 41 = .ok (.isub, 1) := by decide +kernel
theorem dX5_pullAt_42 : decode cX5_pullAt 42 = .ok (.iconst 3, 1) := by decide +kernel
theorem dX5_pullAt_43 : decode cX5_pullAt 43 = .ok (.iload 6, 2) := by decide +kernel
theorem dX5_pullAt_45 : decode cX5_pullAt 45 = .ok (.imul, 1) := by decide +kernel
theorem dX5_pullAt_46 : decode cX5_pullAt 46 = .ok (.isub, 1) := by decide +kernel
theorem dX5_pullAt_47 : decode cX5_pullAt 47 = .ok (.istore 7, 2) := by decide +kernel
theorem dX5_pullAt_49 : decode cX5_pullAt 49 = .ok (.aload_n 1, 1) := by decide +kernel
theorem dX5_pullAt_50 : decode cX5_pullAt 50 = .ok (.iload 7, 2) := by decide +kernel
theorem dX5_pullAt_52 : decode cX5_pullAt 52 = .ok (.iload 5, 2) := by decide +kernel
theorem dX5_pullAt_54 : decode cX5_pullAt 54 = .ok (.iload 4, 2) := by decide +kernel
theorem dX5_pullAt_56 : decode cX5_pullAt 56 = .ok (.bipush 24, 2) := by decide +kernel
theorem dX5_pullAt_58 : decode cX5_pullAt 58 = .ok (.idiv, 1) := by decide +kernel
theorem dX5_pullAt_59 : decode cX5_pullAt 59 = .ok (.invokevirtual 167, 3) := by decide +kernel
theorem dX5_pullAt_62 : decode cX5_pullAt 62 = .ok (.aload_n 0, 1) := by decide +kernel
theorem dX5_pullAt_63 : decode cX5_pullAt 63 = .ok (.getfield 54, 3) := by decide +kernel
theorem dX5_pullAt_66 : decode cX5_pullAt 66 = .ok (.iload 5, 2) := by decide +kernel
theorem dX5_pullAt_68 : decode cX5_pullAt 68 = .ok (.aload_n 0, 1) := by decide +kernel
theorem dX5_pullAt_69 : decode cX5_pullAt 69 = .ok (.aload_n 1, 1) := by decide +kernel
theorem dX5_pullAt_70 : decode cX5_pullAt 70 = .ok (.getfield 157, 3) := by decide +kernel
theorem dX5_pullAt_73 : decode cX5_pullAt 73 = .ok (.iload_n 2, 1) := by decide +kernel
theorem dX5_pullAt_74 : decode cX5_pullAt 74 = .ok (.invokevirtual 171, 3) := by decide +kernel
theorem dX5_pullAt_77 : decode cX5_pullAt 77 = .ok (.iload_n 3, 1) := by decide +kernel
theorem dX5_pullAt_78 : decode cX5_pullAt 78 = .ok (.aload_n 1, 1) := by decide +kernel
theorem dX5_pullAt_79 : decode cX5_pullAt 79 = .ok (.getfield 174, 3) := by decide +kernel
theorem dX5_pullAt_82 : decode cX5_pullAt 82 = .ok (.invokevirtual 177, 3) := by decide +kernel
theorem dX5_pullAt_85 : decode cX5_pullAt 85 = .ok (.iadd, 1) := by decide +kernel
theorem dX5_pullAt_86 : decode cX5_pullAt 86 = .ok (.ireturn, 1) := by decide +kernel
theorem dX5_standsAt_0 : decode cX5_standsAt 0 = .ok (.aload_n 0, 1) := by decide +kernel
theorem dX5_standsAt_1 : decode cX5_standsAt 1 = .ok (.iload 4, 2) := by decide +kernel
theorem dX5_standsAt_3 : decode cX5_standsAt 3 = .ok (.invokevirtual 151, 3) := by decide +kernel
theorem dX5_standsAt_6 : decode cX5_standsAt 6 = .ok (.istore 5, 2) := by decide +kernel
theorem dX5_standsAt_8 : decode cX5_standsAt 8 = .ok (.iload_n 2, 1) := by decide +kernel
theorem dX5_standsAt_9 : decode cX5_standsAt 9 = .ok (.aload_n 1, 1) := by decide +kernel
theorem dX5_standsAt_10 : decode cX5_standsAt 10 = .ok (.getfield 157, 3) := by decide +kernel
theorem dX5_standsAt_13 : decode cX5_standsAt 13 = .ok (.if_icmp .eq 60, 3) := by decide +kernel
theorem dX5_standsAt_16 : decode cX5_standsAt 16 = .ok (.iload 5, 2) := by decide +kernel
theorem dX5_standsAt_18 : decode cX5_standsAt 18 = .ok (.bipush 10, 2) := by decide +kernel
theorem dX5_standsAt_20 : decode cX5_standsAt 20 = .ok (.irem, 1) := by decide +kernel
theorem dX5_standsAt_21 : decode cX5_standsAt 21 = .ok (.ifCond .eq 52, 3) := by decide +kernel
theorem dX5_standsAt_24 : decode cX5_standsAt 24 = .ok (.aload_n 0, 1) := by decide +kernel
theorem dX5_standsAt_25 : decode cX5_standsAt 25 = .ok (.aload_n 1, 1) := by decide +kernel
theorem dX5_standsAt_26 : decode cX5_standsAt 26 = .ok (.getfield 157, 3) := by decide +kernel
theorem dX5_standsAt_29 : decode cX5_standsAt 29 = .ok (.iload_n 2, 1) := by decide +kernel
theorem dX5_standsAt_30 : decode cX5_standsAt 30 = .ok (.invokevirtual 171, 3) := by decide +kernel
theorem dX5_standsAt_33 : decode cX5_standsAt 33 = .ok (.aload_n 1, 1) := by decide +kernel
theorem dX5_standsAt_34 : decode cX5_standsAt 34 = .ok (.getfield 181, 3) := by decide +kernel
theorem dX5_standsAt_37 : decode cX5_standsAt 37 = .ok (.if_icmp .gt 36, 3) := by decide +kernel
theorem dX5_standsAt_40 : decode cX5_standsAt 40 = .ok (.aload_n 0, 1) := by decide +kernel
theorem dX5_standsAt_41 : decode cX5_standsAt 41 = .ok (.aload_n 1, 1) := by decide +kernel
theorem dX5_standsAt_42 : decode cX5_standsAt 42 = .ok (.getfield 157, 3) := by decide +kernel
theorem dX5_standsAt_45 : decode cX5_standsAt 45 = .ok (.iload_n 2, 1) := by decide +kernel
theorem dX5_standsAt_46 : decode cX5_standsAt 46 = .ok (.iload 5, 2) := by decide +kernel
theorem dX5_standsAt_48 : decode cX5_standsAt 48 = .ok (.bipush 10, 2) := by decide +kernel
theorem dX5_standsAt_50 : decode cX5_standsAt 50 = .ok (.idiv, 1) := by decide +kernel
theorem dX5_standsAt_51 : decode cX5_standsAt 51 = .ok (.invokevirtual 184, 3) := by decide +kernel
theorem dX5_standsAt_54 : decode cX5_standsAt 54 = .ok (.ifCond .eq 19, 3) := by decide +kernel
theorem dX5_standsAt_57 : decode cX5_standsAt 57 = .ok (.aload_n 0, 1) := by decide +kernel
theorem dX5_standsAt_58 : decode cX5_standsAt 58 = .ok (.aload_n 1, 1) := by decide +kernel
theorem dX5_standsAt_59 : decode cX5_standsAt 59 = .ok (.iload_n 2, 1) := by decide +kernel
theorem dX5_standsAt_60 : decode cX5_standsAt 60 = .ok (.iload_n 3, 1) := by decide +kernel
theorem dX5_standsAt_61 : decode cX5_standsAt 61 = .ok (.iload 4, 2) := by decide +kernel
theorem dX5_standsAt_63 : decode cX5_standsAt 63 = .ok (.invokevirtual 187, 3) := by decide +kernel
theorem dX5_standsAt_66 : decode cX5_standsAt 66 = .ok (.ifCond .lt 7, 3) := by decide +kernel
theorem dX5_standsAt_69 : decode cX5_standsAt 69 = .ok (.iconst 1, 1) := by decide +kernel
theorem dX5_standsAt_70 : decode cX5_standsAt 70 = .ok (.goto 4, 3) := by decide +kernel
theorem dX5_standsAt_73 : decode cX5_standsAt 73 = .ok (.iconst 0, 1) := by decide +kernel
theorem dX5_standsAt_74 : decode cX5_standsAt 74 = .ok (.ireturn, 1) := by decide +kernel
theorem dX5_isDownWind_0 : decode cX5_isDownWind 0 = .ok (.iload_n 3, 1) := by decide +kernel
theorem dX5_isDownWind_1 : decode cX5_isDownWind 1 = .ok (.iconst 0, 1) := by decide +kernel
theorem dX5_isDownWind_2 : decode cX5_isDownWind 2 = .ok (.bipush 7, 2) := by decide +kernel
theorem dX5_isDownWind_4 : decode cX5_isDownWind 4 = .ok (.invokestatic 122, 3) := by decide +kernel
theorem dX5_isDownWind_7 : decode cX5_isDownWind 7 = .ok (.ifCond .ne 5, 3) := by decide +kernel
theorem dX5_isDownWind_10 : decode cX5_isDownWind 10 = .ok (.iconst 0, 1) := by decide +kernel
theorem dX5_isDownWind_11 : decode cX5_isDownWind 11 = .ok (.ireturn, 1) := by decide +kernel
theorem dX5_isDownWind_12 : decode cX5_isDownWind 12 = .ok (.aload_n 0, 1) := by decide +kernel
theorem dX5_isDownWind_13 : decode cX5_isDownWind 13 = .ok (.iload_n 2, 1) := by decide +kernel
theorem dX5_isDownWind_14 : decode cX5_isDownWind 14 = .ok (.invokevirtual 111, 3) := by decide +kernel
theorem dX5_isDownWind_17 : decode cX5_isDownWind 17 = .ok (.aload_n 0, 1) := by decide +kernel
theorem dX5_isDownWind_18 : decode cX5_isDownWind 18 = .ok (.iload_n 1, 1) := by decide +kernel
theorem dX5_isDownWind_19 : decode cX5_isDownWind 19 = .ok (.invokevirtual 111, 3) := by decide +kernel
theorem dX5_isDownWind_22 : decode cX5_isDownWind 22 = .ok (.isub, 1) := by decide +kernel
theorem dX5_isDownWind_23 : decode cX5_isDownWind 23 = .ok (.getstatic 191, 3) := by decide +kernel
theorem dX5_isDownWind_26 : decode cX5_isDownWind 26 = .ok (.iload_n 3, 1) := by decide +kernel
theorem dX5_isDownWind_27 : decode cX5_isDownWind 27 = .ok (.iaload, 1) := by decide +kernel
theorem dX5_isDownWind_28 : decode cX5_isDownWind 28 = .ok (.imul, 1) := by decide +kernel
theorem dX5_isDownWind_29 : decode cX5_isDownWind 29 = .ok (.istore 4, 2) := by decide +kernel
theorem dX5_isDownWind_31 : decode cX5_isDownWind 31 = .ok (.aload_n 0, 1) := by decide +kernel
theorem dX5_isDownWind_32 : decode cX5_isDownWind 32 = .ok (.iload_n 2, 1) := by decide +kernel
theorem dX5_isDownWind_33 : decode cX5_isDownWind 33 = .ok (.invokevirtual 114, 3) := by decide +kernel
theorem dX5_isDownWind_36 : decode cX5_isDownWind 36 = .ok (.aload_n 0, 1) := by decide +kernel
theorem dX5_isDownWind_37 : decode cX5_isDownWind 37 = .ok (.iload_n 1, 1) := by decide +kernel
theorem dX5_isDownWind_38 : decode cX5_isDownWind 38 = .ok (.invokevirtual 114, 3) := by decide +kernel
theorem dX5_isDownWind_41 : decode cX5_isDownWind 41 = .ok (.isub, 1) := by decide +kernel
theorem dX5_isDownWind_42 : decode cX5_isDownWind 42 = .ok (.getstatic 194, 3) := by decide +kernel
theorem dX5_isDownWind_45 : decode cX5_isDownWind 45 = .ok (.iload_n 3, 1) := by decide +kernel
theorem dX5_isDownWind_46 : decode cX5_isDownWind 46 = .ok (.iaload, 1) := by decide +kernel
theorem dX5_isDownWind_47 : decode cX5_isDownWind 47 = .ok (.imul, 1) := by decide +kernel
theorem dX5_isDownWind_48 : decode cX5_isDownWind 48 = .ok (.istore 5, 2) := by decide +kernel
theorem dX5_isDownWind_50 : decode cX5_isDownWind 50 = .ok (.iload 4, 2) := by decide +kernel
theorem dX5_isDownWind_52 : decode cX5_isDownWind 52 = .ok (.iload 5, 2) := by decide +kernel
theorem dX5_isDownWind_54 : decode cX5_isDownWind 54 = .ok (.iadd, 1) := by decide +kernel
theorem dX5_isDownWind_55 : decode cX5_isDownWind 55 = .ok (.ifCond .le 7, 3) := by decide +kernel
theorem dX5_isDownWind_58 : decode cX5_isDownWind 58 = .ok (.iconst 1, 1) := by decide +kernel
theorem dX5_isDownWind_59 : decode cX5_isDownWind 59 = .ok (.goto 4, 3) := by decide +kernel
theorem dX5_isDownWind_62 : decode cX5_isDownWind 62 = .ok (.iconst 0, 1) := by decide +kernel
theorem dX5_isDownWind_63 : decode cX5_isDownWind 63 = .ok (.ireturn, 1) := by decide +kernel
theorem dX5_overAt_0 : decode cX5_overAt 0 = .ok (.iconst 0, 1) := by decide +kernel
theorem dX5_overAt_1 : decode cX5_overAt 1 = .ok (.istore 4, 2) := by decide +kernel
theorem dX5_overAt_3 : decode cX5_overAt 3 = .ok (.iconst 0, 1) := by decide +kernel
theorem dX5_overAt_4 : decode cX5_overAt 4 = .ok (.istore 5, 2) := by decide +kernel
theorem dX5_overAt_6 : decode cX5_overAt 6 = .ok (.iload 5, 2) := by decide +kernel
theorem dX5_overAt_8 : decode cX5_overAt 8 = .ok (.aload_n 0, 1) := by decide +kernel
theorem dX5_overAt_9 : decode cX5_overAt 9 = .ok (.getfield 77, 3) := by decide +kernel
theorem dX5_overAt_12 : decode cX5_overAt 12 = .ok (.if_icmp .ge 30, 3) := by decide +kernel
theorem dX5_overAt_15 : decode cX5_overAt 15 = .ok (.aload_n 0, 1) := by decide +kernel
theorem dX5_overAt_16 : decode cX5_overAt 16 = .ok (.aload_n 1, 1) := by decide +kernel
theorem dX5_overAt_17 : decode cX5_overAt 17 = .ok (.iload 5, 2) := by decide +kernel
theorem dX5_overAt_19 : decode cX5_overAt 19 = .ok (.iload_n 2, 1) := by decide +kernel
theorem dX5_overAt_20 : decode cX5_overAt 20 = .ok (.iload_n 3, 1) := by decide +kernel
theorem dX5_overAt_21 : decode cX5_overAt 21 = .ok (.invokevirtual 197, 3) := by decide +kernel
theorem dX5_overAt_24 : decode cX5_overAt 24 = .ok (.ifCond .eq 12, 3) := by decide +kernel
theorem dX5_overAt_27 : decode cX5_overAt 27 = .ok (.iload 4, 2) := by decide +kernel
theorem dX5_overAt_29 : decode cX5_overAt 29 = .ok (.iconst 1, 1) := by decide +kernel
theorem dX5_overAt_30 : decode cX5_overAt 30 = .ok (.iload 5, 2) := by decide +kernel
theorem dX5_overAt_32 : decode cX5_overAt 32 = .ok (.ishl, 1) := by decide +kernel
theorem dX5_overAt_33 : decode cX5_overAt 33 = .ok (.ior, 1) := by decide +kernel
theorem dX5_overAt_34 : decode cX5_overAt 34 = .ok (.istore 4, 2) := by decide +kernel
theorem dX5_overAt_36 : decode cX5_overAt 36 = .ok (.iinc 5 1, 3) := by decide +kernel
theorem dX5_overAt_39 : decode cX5_overAt 39 = .ok (.goto (-33), 3) := by decide +kernel
theorem dX5_overAt_42 : decode cX5_overAt 42 = .ok (.iload 4, 2) := by decide +kernel
theorem dX5_overAt_44 : decode cX5_overAt 44 = .ok (.ireturn, 1) := by decide +kernel
theorem dX5_lineBits_0 : decode cX5_lineBits 0 = .ok (.iconst 0, 1) := by decide +kernel
theorem dX5_lineBits_1 : decode cX5_lineBits 1 = .ok (.istore_n 2, 1) := by decide +kernel
theorem dX5_lineBits_2 : decode cX5_lineBits 2 = .ok (.iconst 0, 1) := by decide +kernel
theorem dX5_lineBits_3 : decode cX5_lineBits 3 = .ok (.istore_n 3, 1) := by decide +kernel
theorem dX5_lineBits_4 : decode cX5_lineBits 4 = .ok (.iload_n 3, 1) := by decide +kernel
theorem dX5_lineBits_5 : decode cX5_lineBits 5 = .ok (.aload_n 0, 1) := by decide +kernel
theorem dX5_lineBits_6 : decode cX5_lineBits 6 = .ok (.getfield 80, 3) := by decide +kernel
theorem dX5_lineBits_9 : decode cX5_lineBits 9 = .ok (.if_icmp .ge 52, 3) := by decide +kernel
theorem dX5_lineBits_12 : decode cX5_lineBits 12 = .ok (.aload_n 0, 1) := by decide +kernel
theorem dX5_lineBits_13 : decode cX5_lineBits 13 = .ok (.iload_n 3, 1) := by decide +kernel
theorem dX5_lineBits_14 : decode cX5_lineBits 14 = .ok (.invokevirtual 201, 3) := by decide +kernel
theorem dX5_lineBits_17 : decode cX5_lineBits 17 = .ok (.astore 4, 2) := by decide +kernel
theorem dX5_lineBits_19 : decode cX5_lineBits 19 = .ok (.aload_n 0, 1) := by decide +kernel
theorem dX5_lineBits_20 : decode cX5_lineBits 20 = .ok (.iload_n 3, 1) := by decide +kernel
theorem dX5_lineBits_21 : decode cX5_lineBits 21 = .ok (.invokevirtual 205, 3) := by decide +kernel
theorem dX5_lineBits_24 : decode cX5_lineBits 24 = .ok (.istore 5, 2) := by decide +kernel
theorem dX5_lineBits_26 : decode cX5_lineBits 26 = .ok (.aload 4, 2) := by decide +kernel
theorem dX5_lineBits_28 : decode cX5_lineBits 28 = .ok (.ifnull 27, 3) := by decide +kernel
theorem dX5_lineBits_31 : decode cX5_lineBits 31 = .ok (.iload 5, 2) := by decide +kernel
theorem dX5_lineBits_33 : decode cX5_lineBits 33 = .ok (.ifCond .lt 22, 3) := by decide +kernel
theorem dX5_lineBits_36 : decode cX5_lineBits 36 = .ok (.aload_n 0, 1) := by decide +kernel
theorem dX5_lineBits_37 : decode cX5_lineBits 37 = .ok (.aload 4, 2) := by decide +kernel
theorem dX5_lineBits_39 : decode cX5_lineBits 39 = .ok (.iload 5, 2) := by decide +kernel
theorem dX5_lineBits_41 : decode cX5_lineBits 41 = .ok (.iconst 0, 1) := by decide +kernel
theorem dX5_lineBits_42 : decode cX5_lineBits 42 = .ok (.iload_n 1, 1) := by decide +kernel
theorem dX5_lineBits_43 : decode cX5_lineBits 43 = .ok (.invokevirtual 197, 3) := by decide +kernel
theorem dX5_lineBits_46 : decode cX5_lineBits 46 = .ok (.ifCond .eq 9, 3) := by decide +kernel
theorem dX5_lineBits_49 : decode cX5_lineBits 49 = .ok (.iload_n 2, 1) := by decide +kernel
theorem dX5_lineBits_50 : decode cX5_lineBits 50 = .ok (.iconst 1, 1) := by decide +kernel
theorem dX5_lineBits_51 : decode cX5_lineBits 51 = .ok (.iload_n 3, 1) := by decide +kernel
theorem dX5_lineBits_52 : decode cX5_lineBits 52 = .ok (.ishl, 1) := by decide +kernel
theorem dX5_lineBits_53 : decode cX5_lineBits 53 = .ok (.ior, 1) := by decide +kernel
theorem dX5_lineBits_54 : decode cX5_lineBits 54 = .ok (.istore_n 2, 1) := by decide +kernel
theorem dX5_lineBits_55 : decode cX5_lineBits 55 = .ok (.iinc 3 1, 3) := by decide +kernel
theorem dX5_lineBits_58 : decode cX5_lineBits 58 = .ok (.goto (-54), 3) := by decide +kernel
theorem dX5_lineBits_61 : decode cX5_lineBits 61 = .ok (.iload_n 2, 1) := by decide +kernel
theorem dX5_lineBits_62 : decode cX5_lineBits 62 = .ok (.ireturn, 1) := by decide +kernel
theorem dX5_downBits_0 : decode cX5_downBits 0 = .ok (.iload_n 1, 1) := by decide +kernel
theorem dX5_downBits_1 : decode cX5_downBits 1 = .ok (.istore_n 2, 1) := by decide +kernel
theorem dX5_downBits_2 : decode cX5_downBits 2 = .ok (.iconst 0, 1) := by decide +kernel
theorem dX5_downBits_3 : decode cX5_downBits 3 = .ok (.istore_n 3, 1) := by decide +kernel
theorem dX5_downBits_4 : decode cX5_downBits 4 = .ok (.iconst 0, 1) := by decide +kernel
theorem dX5_downBits_5 : decode cX5_downBits 5 = .ok (.istore 4, 2) := by decide +kernel
theorem dX5_downBits_7 : decode cX5_downBits 7 = .ok (.iload 4, 2) := by decide +kernel
theorem dX5_downBits_9 : decode cX5_downBits 9 = .ok (.bipush 8, 2) := by decide +kernel
theorem dX5_downBits_11 : decode cX5_downBits 11 = .ok (.if_icmp .ge 94, 3) := by decide +kernel
theorem dX5_downBits_14 : decode cX5_downBits 14 = .ok (.iload_n 2, 1) := by decide +kernel
theorem dX5_downBits_15 : decode cX5_downBits 15 = .ok (.ifCond .eq 90, 3) := by decide +kernel
theorem dX5_downBits_18 : decode cX5_downBits 18 = .ok (.aload_n 0, 1) := by decide +kernel
theorem dX5_downBits_19 : decode cX5_downBits 19 = .ok (.iload_n 2, 1) := by decide +kernel
theorem dX5_downBits_20 : decode cX5_downBits 20 = .ok (.invokevirtual 208, 3) := by decide +kernel
theorem dX5_downBits_23 : decode cX5_downBits 23 = .ok (.istore 5, 2) := by decide +kernel
theorem dX5_downBits_25 : decode cX5_downBits 25 = .ok (.iload_n 2, 1) := by decide +kernel
theorem dX5_downBits_26 : decode cX5_downBits 26 = .ok (.iconst 1, 1) := by decide +kernel
theorem dX5_downBits_27 : decode cX5_downBits 27 = .ok (.iload 5, 2) := by decide +kernel
theorem dX5_downBits_29 : decode cX5_downBits 29 = .ok (.ishl, 1) := by decide +kernel
theorem dX5_downBits_30 : decode cX5_downBits 30 = .ok (.iconst (-1), 1) := by decide +kernel
theorem dX5_downBits_31 : decode cX5_downBits 31 = .ok (.ixor, 1) := by decide +kernel
theorem dX5_downBits_32 : decode cX5_downBits 32 = .ok (.iand, 1) := by decide +kernel
theorem dX5_downBits_33 : decode cX5_downBits 33 = .ok (.istore_n 2, 1) := by decide +kernel
theorem dX5_downBits_34 : decode cX5_downBits 34 = .ok (.iconst 0, 1) := by decide +kernel
theorem dX5_downBits_35 : decode cX5_downBits 35 = .ok (.istore 6, 2) := by decide +kernel
theorem dX5_downBits_37 : decode cX5_downBits 37 = .ok (.iconst 0, 1) := by decide +kernel
theorem dX5_downBits_38 : decode cX5_downBits 38 = .ok (.istore 7, 2) := by decide +kernel
theorem dX5_downBits_40 : decode cX5_downBits 40 = .ok (.iload 7, 2) := by decide +kernel
theorem dX5_downBits_42 : decode cX5_downBits 42 = .ok (.aload_n 0, 1) := by decide +kernel
theorem dX5_downBits_43 : decode cX5_downBits 43 = .ok (.getfield 80, 3) := by decide +kernel
theorem dX5_downBits_46 : decode cX5_downBits 46 = .ok (.if_icmp .ge 41, 3) := by decide +kernel
theorem dX5_downBits_49 : decode cX5_downBits 49 = .ok (.iload 6, 2) := by decide +kernel
theorem dX5_downBits_51 : decode cX5_downBits 51 = .ok (.ifCond .ne 36, 3) := by decide +kernel
theorem dX5_downBits_54 : decode cX5_downBits 54 = .ok (.iload_n 3, 1) := by decide +kernel
theorem dX5_downBits_55 : decode cX5_downBits 55 = .ok (.iload 7, 2) := by decide +kernel
theorem dX5_downBits_57 : decode cX5_downBits 57 = .ok (.ishr, 1) := by decide +kernel
theorem dX5_downBits_58 : decode cX5_downBits 58 = .ok (.iconst 1, 1) := by decide +kernel
theorem dX5_downBits_59 : decode cX5_downBits 59 = .ok (.iand, 1) := by decide +kernel
theorem dX5_downBits_60 : decode cX5_downBits 60 = .ok (.ifCond .eq 18, 3) := by decide +kernel
theorem dX5_downBits_63 : decode cX5_downBits 63 = .ok (.aload_n 0, 1) := by decide +kernel
theorem dX5_downBits_64 : decode cX5_downBits 64 = .ok (.iload 5, 2) := by decide +kernel
theorem dX5_downBits_66 : decode cX5_downBits 66 = .ok (.iload 7, 2) := by decide +kernel
theorem dX5_downBits_68 : decode cX5_downBits 68 = .ok (.invokevirtual 211, 3) := by decide +kernel
theorem dX5_downBits_71 : decode cX5_downBits 71 = .ok (.ifCond .eq 7, 3) := by decide +kernel
theorem dX5_downBits_74 : decode cX5_downBits 74 = .ok (.iconst 1, 1) := by decide +kernel
theorem dX5_downBits_75 : decode cX5_downBits 75 = .ok (.goto 4, 3) := by decide +kernel
theorem dX5_downBits_78 : decode cX5_downBits 78 = .ok (.iconst 0, 1) := by decide +kernel
theorem dX5_downBits_79 : decode cX5_downBits 79 = .ok (.istore 6, 2) := by decide +kernel
theorem dX5_downBits_81 : decode cX5_downBits 81 = .ok (.iinc 7 1, 3) := by decide +kernel
theorem dX5_downBits_84 : decode cX5_downBits 84 = .ok (.goto (-44), 3) := by decide +kernel
theorem dX5_downBits_87 : decode cX5_downBits 87 = .ok (.iload 6, 2) := by decide +kernel
theorem dX5_downBits_89 : decode cX5_downBits 89 = .ok (.ifCond .ne 10, 3) := by decide +kernel
theorem dX5_downBits_92 : decode cX5_downBits 92 = .ok (.iload_n 3, 1) := by decide +kernel
theorem dX5_downBits_93 : decode cX5_downBits 93 = .ok (.iconst 1, 1) := by decide +kernel
theorem dX5_downBits_94 : decode cX5_downBits 94 = .ok (.iload 5, 2) := by decide +kernel
theorem dX5_downBits_96 : decode cX5_downBits 96 = .ok (.ishl, 1) := by decide +kernel
theorem dX5_downBits_97 : decode cX5_downBits 97 = .ok (.ior, 1) := by decide +kernel
theorem dX5_downBits_98 : decode cX5_downBits 98 = .ok (.istore_n 3, 1) := by decide +kernel
theorem dX5_downBits_99 : decode cX5_downBits 99 = .ok (.iinc 4 1, 3) := by decide +kernel
theorem dX5_downBits_102 : decode cX5_downBits 102 = .ok (.goto (-95), 3) := by decide +kernel
theorem dX5_downBits_105 : decode cX5_downBits 105 = .ok (.iload_n 1, 1) := by decide +kernel
theorem dX5_downBits_106 : decode cX5_downBits 106 = .ok (.iload_n 3, 1) := by decide +kernel
theorem dX5_downBits_107 : decode cX5_downBits 107 = .ok (.iconst (-1), 1) := by decide +kernel
theorem dX5_downBits_108 : decode cX5_downBits 108 = .ok (.ixor, 1) := by decide +kernel
theorem dX5_downBits_109 : decode cX5_downBits 109 = .ok (.iand, 1) := by decide +kernel
theorem dX5_downBits_110 : decode cX5_downBits 110 = .ok (.ireturn, 1) := by decide +kernel
theorem dX5_greatestLift_0 : decode cX5_greatestLift 0 = .ok (.iconst 0, 1) := by decide +kernel
theorem dX5_greatestLift_1 : decode cX5_greatestLift 1 = .ok (.istore_n 2, 1) := by decide +kernel
theorem dX5_greatestLift_2 : decode cX5_greatestLift 2 = .ok (.iconst (-1), 1) := by decide +kernel
theorem dX5_greatestLift_3 : decode cX5_greatestLift 3 = .ok (.istore_n 3, 1) := by decide +kernel
theorem dX5_greatestLift_4 : decode cX5_greatestLift 4 = .ok (.iconst 0, 1) := by decide +kernel
theorem dX5_greatestLift_5 : decode cX5_greatestLift 5 = .ok (.istore 4, 2) := by decide +kernel
theorem dX5_greatestLift_7 : decode cX5_greatestLift 7 = .ok (.iload 4, 2) := by decide +kernel
theorem dX5_greatestLift_9 : decode cX5_greatestLift 9 = .ok (.aload_n 0, 1) := by decide +kernel
theorem dX5_greatestLift_10 : decode cX5_greatestLift 10 = .ok (.getfield 80, 3) := by decide +kernel
theorem dX5_greatestLift_13 : decode cX5_greatestLift 13 = .ok (.if_icmp .ge 49, 3) := by decide +kernel
theorem dX5_greatestLift_16 : decode cX5_greatestLift 16 = .ok (.aload_n 0, 1) := by decide +kernel
theorem dX5_greatestLift_17 : decode cX5_greatestLift 17 = .ok (.iload 4, 2) := by decide +kernel
theorem dX5_greatestLift_19 : decode cX5_greatestLift 19 = .ok (.invokevirtual 201, 3) := by decide +kernel
theorem dX5_greatestLift_22 : decode cX5_greatestLift 22 = .ok (.astore 5, 2) := by decide +kernel
theorem dX5_greatestLift_24 : decode cX5_greatestLift 24 = .ok (.aload 5, 2) := by decide +kernel
theorem dX5_greatestLift_26 : decode cX5_greatestLift 26 = .ok (.ifnull 30, 3) := by decide +kernel
theorem dX5_greatestLift_29 : decode cX5_greatestLift 29 = .ok (.iload_n 1, 1) := by decide +kernel
theorem dX5_greatestLift_30 : decode cX5_greatestLift 30 = .ok (.iload 4, 2) := by decide +kernel
theorem dX5_greatestLift_32 : decode cX5_greatestLift 32 = .ok (.ishr, 1) := by decide +kernel
theorem dX5_greatestLift_33 : decode cX5_greatestLift 33 = .ok (.iconst 1, 1) := by decide +kernel
theorem dX5_greatestLift_34 : decode cX5_greatestLift 34 = .ok (.iand, 1) := by decide +kernel
theorem dX5_greatestLift_35 : decode cX5_greatestLift 35 = .ok (.ifCond .eq 21, 3) := by decide +kernel
theorem dX5_greatestLift_38 : decode cX5_greatestLift 38 = .ok (.aload 5, 2) := by decide +kernel
theorem dX5_greatestLift_40 : decode cX5_greatestLift 40 = .ok (.getfield 164, 3) := by decide +kernel
theorem dX5_greatestLift_43 : decode cX5_greatestLift 43 = .ok (.iload_n 3, 1) := by decide +kernel
theorem dX5_greatestLift_44 : decode cX5_greatestLift 44 = .ok (.if_icmp .le 12, 3) := by decide +kernel
theorem dX5_greatestLift_47 : decode cX5_greatestLift 47 = .ok (.aload 5, 2) := by decide +kernel
theorem dX5_greatestLift_49 : decode cX5_greatestLift 49 = .ok (.getfield 164, 3) := by decide +kernel
theorem dX5_greatestLift_52 : decode cX5_greatestLift 52 = .ok (.istore_n 3, 1) := by decide +kernel
theorem dX5_greatestLift_53 : decode cX5_greatestLift 53 = .ok (.iload 4, 2) := by decide +kernel
theorem dX5_greatestLift_55 : decode cX5_greatestLift 55 = .ok (.istore_n 2, 1) := by decide +kernel
theorem dX5_greatestLift_56 : decode cX5_greatestLift 56 = .ok (.iinc 4 1, 3) := by decide +kernel
theorem dX5_greatestLift_59 : decode cX5_greatestLift 59 = .ok (.goto (-52), 3) := by decide +kernel
theorem dX5_greatestLift_62 : decode cX5_greatestLift 62 = .ok (.iload_n 2, 1) := by decide +kernel
theorem dX5_greatestLift_63 : decode cX5_greatestLift 63 = .ok (.ireturn, 1) := by decide +kernel
theorem dX5_linesMeet_0 : decode cX5_linesMeet 0 = .ok (.aload_n 0, 1) := by decide +kernel
theorem dX5_linesMeet_1 : decode cX5_linesMeet 1 = .ok (.iload_n 1, 1) := by decide +kernel
theorem dX5_linesMeet_2 : decode cX5_linesMeet 2 = .ok (.invokevirtual 201, 3) := by decide +kernel
theorem dX5_linesMeet_5 : decode cX5_linesMeet 5 = .ok (.astore_n 3, 1) := by decide +kernel
theorem dX5_linesMeet_6 : decode cX5_linesMeet 6 = .ok (.aload_n 0, 1) := by decide +kernel
theorem dX5_linesMeet_7 : decode cX5_linesMeet 7 = .ok (.iload_n 2, 1) := by decide +kernel
theorem dX5_linesMeet_8 : decode cX5_linesMeet 8 = .ok (.invokevirtual 201, 3) := by decide +kernel
theorem dX5_linesMeet_11 : decode cX5_linesMeet 11 = .ok (.astore 4, 2) := by decide +kernel
theorem dX5_linesMeet_13 : decode cX5_linesMeet 13 = .ok (.aload_n 3, 1) := by decide +kernel
theorem dX5_linesMeet_14 : decode cX5_linesMeet 14 = .ok (.ifnull 8, 3) := by decide +kernel
theorem dX5_linesMeet_17 : decode cX5_linesMeet 17 = .ok (.aload 4, 2) := by decide +kernel
theorem dX5_linesMeet_19 : decode cX5_linesMeet 19 = .ok (.ifnonnull 5, 3) := by decide +kernel
theorem dX5_linesMeet_22 : decode cX5_linesMeet 22 = .ok (.iconst 0, 1) := by decide +kernel
theorem dX5_linesMeet_23 : decode cX5_linesMeet 23 = .ok (.ireturn, 1) := by decide +kernel
theorem dX5_linesMeet_24 : decode cX5_linesMeet 24 = .ok (.aload_n 3, 1) := by decide +kernel
theorem dX5_linesMeet_25 : decode cX5_linesMeet 25 = .ok (.getfield 157, 3) := by decide +kernel
theorem dX5_linesMeet_28 : decode cX5_linesMeet 28 = .ok (.istore 5, 2) := by decide +kernel
theorem dX5_linesMeet_30 : decode cX5_linesMeet 30 = .ok (.aload_n 0, 1) := by decide +kernel
theorem dX5_linesMeet_31 : decode cX5_linesMeet 31 = .ok (.iload_n 1, 1) := by decide +kernel
theorem dX5_linesMeet_32 : decode cX5_linesMeet 32 = .ok (.invokevirtual 205, 3) := by decide +kernel
theorem dX5_linesMeet_35 : decode cX5_linesMeet 35 = .ok (.istore 6, 2) := by decide +kernel
theorem dX5_linesMeet_37 : decode cX5_linesMeet 37 = .ok (.aload 4, 2) := by decide +kernel
theorem dX5_linesMeet_39 : decode cX5_linesMeet 39 = .ok (.getfield 157, 3) := by decide +kernel
theorem dX5_linesMeet_42 : decode cX5_linesMeet 42 = .ok (.istore 7, 2) := by decide +kernel
theorem dX5_linesMeet_44 : decode cX5_linesMeet 44 = .ok (.aload_n 0, 1) := by decide +kernel
theorem dX5_linesMeet_45 : decode cX5_linesMeet 45 = .ok (.iload_n 2, 1) := by decide +kernel
theorem dX5_linesMeet_46 : decode cX5_linesMeet 46 = .ok (.invokevirtual 205, 3) := by decide +kernel
theorem dX5_linesMeet_49 : decode cX5_linesMeet 49 = .ok (.istore 8, 2) := by decide +kernel
theorem dX5_linesMeet_51 : decode cX5_linesMeet 51 = .ok (.iload 5, 2) := by decide +kernel
theorem dX5_linesMeet_53 : decode cX5_linesMeet 53 = .ok (.iload 7, 2) := by decide +kernel
theorem dX5_linesMeet_55 : decode cX5_linesMeet 55 = .ok (.if_icmp .ne 10, 3) := by decide +kernel
theorem dX5_linesMeet_58 : decode cX5_linesMeet 58 = .ok (.iload 6, 2) := by decide +kernel
theorem dX5_linesMeet_60 : decode cX5_linesMeet 60 = .ok (.iload 8, 2) := by decide +kernel
theorem dX5_linesMeet_62 : decode cX5_linesMeet 62 = .ok (.if_icmp .eq 17, 3) := by decide +kernel
theorem dX5_linesMeet_65 : decode cX5_linesMeet 65 = .ok (.iload 5, 2) := by decide +kernel
theorem dX5_linesMeet_67 : decode cX5_linesMeet 67 = .ok (.iload 8, 2) := by decide +kernel
theorem dX5_linesMeet_69 : decode cX5_linesMeet 69 = .ok (.if_icmp .ne 12, 3) := by decide +kernel
theorem dX5_linesMeet_72 : decode cX5_linesMeet 72 = .ok (.iload 6, 2) := by decide +kernel
theorem dX5_linesMeet_74 : decode cX5_linesMeet 74 = .ok (.iload 7, 2) := by decide +kernel
theorem dX5_linesMeet_76 : decode cX5_linesMeet 76 = .ok (.if_icmp .ne 5, 3) := by decide +kernel
theorem dX5_linesMeet_79 : decode cX5_linesMeet 79 = .ok (.iconst 1, 1) := by decide +kernel
theorem dX5_linesMeet_80 : decode cX5_linesMeet 80 = .ok (.ireturn, 1) := by decide +kernel
theorem dX5_linesMeet_81 : decode cX5_linesMeet 81 = .ok (.aload_n 0, 1) := by decide +kernel
theorem dX5_linesMeet_82 : decode cX5_linesMeet 82 = .ok (.iload 5, 2) := by decide +kernel
theorem dX5_linesMeet_84 : decode cX5_linesMeet 84 = .ok (.iload 7, 2) := by decide +kernel
theorem dX5_linesMeet_86 : decode cX5_linesMeet 86 = .ok (.iload 8, 2) := by decide +kernel
theorem dX5_linesMeet_88 : decode cX5_linesMeet 88 = .ok (.invokevirtual 215, 3) := by decide +kernel
theorem dX5_linesMeet_91 : decode cX5_linesMeet 91 = .ok (.ifCond .ne 42, 3) := by decide +kernel
theorem dX5_linesMeet_94 : decode cX5_linesMeet 94 = .ok (.aload_n 0, 1) := by decide +kernel
theorem dX5_linesMeet_95 : decode cX5_linesMeet 95 = .ok (.iload 6, 2) := by decide +kernel
theorem dX5_linesMeet_97 : decode cX5_linesMeet 97 = .ok (.iload 7, 2) := by decide +kernel
theorem dX5_linesMeet_99 : decode cX5_linesMeet 99 = .ok (.iload 8, 2) := by decide +kernel
theorem dX5_linesMeet_101 : decode cX5_linesMeet 101 = .ok (.invokevirtual 215, 3) := by decide +kernel
theorem dX5_linesMeet_104 : decode cX5_linesMeet 104 = .ok (.ifCond .ne 29, 3) := by decide +kernel
theorem dX5_linesMeet_107 : decode cX5_linesMeet 107 = .ok (.aload_n 0, 1) := by decide +kernel
theorem dX5_linesMeet_108 : decode cX5_linesMeet 108 = .ok (.iload 7, 2) := by decide +kernel
theorem dX5_linesMeet_110 : decode cX5_linesMeet 110 = .ok (.iload 5, 2) := by decide +kernel
theorem dX5_linesMeet_112 : decode cX5_linesMeet 112 = .ok (.iload 6, 2) := by decide +kernel
theorem dX5_linesMeet_114 : decode cX5_linesMeet 114 = .ok (.invokevirtual 215, 3) := by decide +kernel
theorem dX5_linesMeet_117 : decode cX5_linesMeet 117 = .ok (.ifCond .ne 16, 3) := by decide +kernel
theorem dX5_linesMeet_120 : decode cX5_linesMeet 120 = .ok (.aload_n 0, 1) := by decide +kernel
theorem dX5_linesMeet_121 : decode cX5_linesMeet 121 = .ok (.iload 8, 2) := by decide +kernel
theorem dX5_linesMeet_123 : decode cX5_linesMeet 123 = .ok (.iload 5, 2) := by decide +kernel
theorem dX5_linesMeet_125 : decode cX5_linesMeet 125 = .ok (.iload 6, 2) := by decide +kernel
theorem dX5_linesMeet_127 : decode cX5_linesMeet 127 = .ok (.invokevirtual 215, 3) := by decide +kernel
theorem dX5_linesMeet_130 : decode cX5_linesMeet 130 = .ok (.ifCond .eq 5, 3) := by decide +kernel
theorem dX5_linesMeet_133 : decode cX5_linesMeet 133 = .ok (.iconst 1, 1) := by decide +kernel
theorem dX5_linesMeet_134 : decode cX5_linesMeet 134 = .ok (.ireturn, 1) := by decide +kernel
theorem dX5_linesMeet_135 : decode cX5_linesMeet 135 = .ok (.aload_n 0, 1) := by decide +kernel
theorem dX5_linesMeet_136 : decode cX5_linesMeet 136 = .ok (.iload 5, 2) := by decide +kernel
theorem dX5_linesMeet_138 : decode cX5_linesMeet 138 = .ok (.iload 6, 2) := by decide +kernel
theorem dX5_linesMeet_140 : decode cX5_linesMeet 140 = .ok (.iload 7, 2) := by decide +kernel
theorem dX5_linesMeet_142 : decode cX5_linesMeet 142 = .ok (.invokevirtual 218, 3) := by decide +kernel
theorem dX5_linesMeet_145 : decode cX5_linesMeet 145 = .ok (.aload_n 0, 1) := by decide +kernel
theorem dX5_linesMeet_146 : decode cX5_linesMeet 146 = .ok (.iload 5, 2) := by decide +kernel
theorem dX5_linesMeet_148 : decode cX5_linesMeet 148 = .ok (.iload 6, 2) := by decide +kernel
theorem dX5_linesMeet_150 : decode cX5_linesMeet 150 = .ok (.iload 8, 2) := by decide +kernel
theorem dX5_linesMeet_152 : decode cX5_linesMeet 152 = .ok (.invokevirtual 218, 3) := by decide +kernel
theorem dX5_linesMeet_155 : decode cX5_linesMeet 155 = .ok (.invokestatic 221, 3) := by decide +kernel
theorem dX5_linesMeet_158 : decode cX5_linesMeet 158 = .ok (.ifCond .eq 33, 3) := by decide +kernel
theorem dX5_linesMeet_161 : decode cX5_linesMeet 161 = .ok (.aload_n 0, 1) := by decide +kernel
theorem dX5_linesMeet_162 : decode cX5_linesMeet 162 = .ok (.iload 7, 2) := by decide +kernel
theorem dX5_linesMeet_164 : decode cX5_linesMeet 164 = .ok (.iload 8, 2) := by decide +kernel
theorem dX5_linesMeet_166 : decode cX5_linesMeet 166 = .ok (.iload 5, 2) := by decide +kernel
theorem dX5_linesMeet_168 : decode cX5_linesMeet 168 = .ok (.invokevirtual 218, 3) := by decide +kernel
theorem dX5_linesMeet_171 : decode cX5_linesMeet 171 = .ok (.aload_n 0, 1) := by decide +kernel
theorem dX5_linesMeet_172 : decode cX5_linesMeet 172 = .ok (.iload 7, 2) := by decide +kernel
theorem dX5_linesMeet_174 : decode cX5_linesMeet 174 = .ok (.iload 8, 2) := by decide +kernel
theorem dX5_linesMeet_176 : decode cX5_linesMeet 176 = .ok (.iload 6, 2) := by decide +kernel
theorem dX5_linesMeet_178 : decode cX5_linesMeet 178 = .ok (.invokevirtual 218, 3) := by decide +kernel
theorem dX5_linesMeet_181 : decode cX5_linesMeet 181 = .ok (.invokestatic 221, 3) := by decide +kernel
theorem dX5_linesMeet_184 : decode cX5_linesMeet 184 = .ok (.ifCond .eq 7, 3) := by decide +kernel
theorem dX5_linesMeet_187 : decode cX5_linesMeet 187 = .ok (.iconst 1, 1) := by decide +kernel
theorem dX5_linesMeet_188 : decode cX5_linesMeet 188 = .ok (.goto 4, 3) := by decide +kernel
theorem dX5_linesMeet_191 : decode cX5_linesMeet 191 = .ok (.iconst 0, 1) := by decide +kernel
theorem dX5_linesMeet_192 : decode cX5_linesMeet 192 = .ok (.ireturn, 1) := by decide +kernel
theorem dX5_areApart_0 : decode cX5_areApart 0 = .ok (.iload_n 0, 1) := by decide +kernel
theorem dX5_areApart_1 : decode cX5_areApart 1 = .ok (.ifCond .ge 7, 3) := by decide +kernel
theorem dX5_areApart_4 : decode cX5_areApart 4 = .ok (.iload_n 1, 1) := by decide +kernel
theorem dX5_areApart_5 : decode cX5_areApart 5 = .ok (.ifCond .gt 11, 3) := by decide +kernel
theorem dX5_areApart_8 : decode cX5_areApart 8 = .ok (.iload_n 0, 1) := by decide +kernel
theorem dX5_areApart_9 : decode cX5_areApart 9 = .ok (.ifCond .le 11, 3) := by decide +kernel
theorem dX5_areApart_12 : decode cX5_areApart 12 = .ok (.iload_n 1, 1) := by decide +kernel
theorem dX5_areApart_13 : decode cX5_areApart 13 = .ok (.ifCond .ge 7, 3) := by decide +kernel
theorem dX5_areApart_16 : decode cX5_areApart 16 = .ok (.iconst 1, 1) := by decide +kernel
theorem dX5_areApart_17 : decode cX5_areApart 17 = .ok (.goto 4, 3) := by decide +kernel
theorem dX5_areApart_20 : decode cX5_areApart 20 = .ok (.iconst 0, 1) := by decide +kernel
theorem dX5_areApart_21 : decode cX5_areApart 21 = .ok (.ireturn, 1) := by decide +kernel
theorem dX5_turn_0 : decode cX5_turn 0 = .ok (.aload_n 0, 1) := by decide +kernel
theorem dX5_turn_1 : decode cX5_turn 1 = .ok (.iload_n 2, 1) := by decide +kernel
theorem dX5_turn_2 : decode cX5_turn 2 = .ok (.invokevirtual 111, 3) := by decide +kernel
theorem dX5_turn_5 : decode cX5_turn 5 = .ok (.aload_n 0, 1) := by decide +kernel
theorem dX5_turn_6 : decode cX5_turn 6 = .ok (.iload_n 1, 1) := by decide +kernel
theorem dX5_turn_7 : decode cX5_turn 7 = .ok (.invokevirtual 111, 3) := by decide +kernel
theorem dX5_turn_10 : decode cX5_turn 10 = .ok (.isub, 1) := by decide +kernel
theorem dX5_turn_11 : decode cX5_turn 11 = .ok (.aload_n 0, 1) := by decide +kernel
theorem dX5_turn_12 : decode cX5_turn 12 = .ok (.iload_n 3, 1) := by decide +kernel
theorem dX5_turn_13 : decode cX5_turn 13 = .ok (.invokevirtual 114, 3) := by decide +kernel
theorem dX5_turn_16 : decode cX5_turn 16 = .ok (.aload_n 0, 1) := by decide +kernel
theorem dX5_turn_17 : decode cX5_turn 17 = .ok (.iload_n 1, 1) := by decide +kernel
theorem dX5_turn_18 : decode cX5_turn 18 = .ok (.invokevirtual 114, 3) := by decide +kernel
theorem dX5_turn_21 : decode cX5_turn 21 = .ok (.isub, 1) := by decide +kernel
theorem dX5_turn_22 : decode cX5_turn 22 = .ok (.imul, 1) := by decide +kernel
theorem dX5_turn_23 : decode cX5_turn 23 = .ok (.aload_n 0, 1) := by decide +kernel
theorem dX5_turn_24 : decode cX5_turn 24 = .ok (.iload_n 2, 1) := by decide +kernel
theorem dX5_turn_25 : decode cX5_turn 25 = .ok (.invokevirtual 114, 3) := by decide +kernel
theorem dX5_turn_28 : decode cX5_turn 28 = .ok (.aload_n 0, 1) := by decide +kernel
theorem dX5_turn_29 : decode cX5_turn 29 = .ok (.iload_n 1, 1) := by decide +kernel
theorem dX5_turn_30 : decode cX5_turn 30 = .ok (.invokevirtual 114, 3) := by decide +kernel
theorem dX5_turn_33 : decode cX5_turn 33 = .ok (.isub, 1) := by decide +kernel
theorem dX5_turn_34 : decode cX5_turn 34 = .ok (.aload_n 0, 1) := by decide +kernel
theorem dX5_turn_35 : decode cX5_turn 35 = .ok (.iload_n 3, 1) := by decide +kernel
theorem dX5_turn_36 : decode cX5_turn 36 = .ok (.invokevirtual 111, 3) := by decide +kernel
theorem dX5_turn_39 : decode cX5_turn 39 = .ok (.aload_n 0, 1) := by decide +kernel
theorem dX5_turn_40 : decode cX5_turn 40 = .ok (.iload_n 1, 1) := by decide +kernel
theorem dX5_turn_41 : decode cX5_turn 41 = .ok (.invokevirtual 111, 3) := by decide +kernel
theorem dX5_turn_44 : decode cX5_turn 44 = .ok (.isub, 1) := by decide +kernel
theorem dX5_turn_45 : decode cX5_turn 45 = .ok (.imul, 1) := by decide +kernel
theorem dX5_turn_46 : decode cX5_turn 46 = .ok (.isub, 1) := by decide +kernel
theorem dX5_turn_47 : decode cX5_turn 47 = .ok (.ireturn, 1) := by decide +kernel
theorem dX5_isInside_0 : decode cX5_isInside 0 = .ok (.iload_n 1, 1) := by decide +kernel
theorem dX5_isInside_1 : decode cX5_isInside 1 = .ok (.iload_n 2, 1) := by decide +kernel
theorem dX5_isInside_2 : decode cX5_isInside 2 = .ok (.if_icmp .eq 74, 3) := by decide +kernel
theorem dX5_isInside_5 : decode cX5_isInside 5 = .ok (.iload_n 1, 1) := by decide +kernel
theorem dX5_isInside_6 : decode cX5_isInside 6 = .ok (.iload_n 3, 1) := by decide +kernel
theorem dX5_isInside_7 : decode cX5_isInside 7 = .ok (.if_icmp .eq 69, 3) := by decide +kernel
theorem dX5_isInside_10 : decode cX5_isInside 10 = .ok (.aload_n 0, 1) := by decide +kernel
theorem dX5_isInside_11 : decode cX5_isInside 11 = .ok (.iload_n 2, 1) := by decide +kernel
theorem dX5_isInside_12 : decode cX5_isInside 12 = .ok (.iload_n 3, 1) := by decide +kernel
theorem dX5_isInside_13 : decode cX5_isInside 13 = .ok (.iload_n 1, 1) := by decide +kernel
theorem dX5_isInside_14 : decode cX5_isInside 14 = .ok (.invokevirtual 218, 3) := by decide +kernel
theorem dX5_isInside_17 : decode cX5_isInside 17 = .ok (.ifCond .ne 59, 3) := by decide +kernel
theorem dX5_isInside_20 : decode cX5_isInside 20 = .ok (.aload_n 0, 1) := by decide +kernel
theorem dX5_isInside_21 : decode cX5_isInside 21 = .ok (.iload_n 1, 1) := by decide +kernel
theorem dX5_isInside_22 : decode cX5_isInside 22 = .ok (.invokevirtual 111, 3) := by decide +kernel
theorem dX5_isInside_25 : decode cX5_isInside 25 = .ok (.aload_n 0, 1) := by decide +kernel
theorem dX5_isInside_26 : decode cX5_isInside 26 = .ok (.iload_n 2, 1) := by decide +kernel
theorem dX5_isInside_27 : decode cX5_isInside 27 = .ok (.invokevirtual 111, 3) := by decide +kernel
theorem dX5_isInside_30 : decode cX5_isInside 30 = .ok (.isub, 1) := by decide +kernel
theorem dX5_isInside_31 : decode cX5_isInside 31 = .ok (.aload_n 0, 1) := by decide +kernel
theorem dX5_isInside_32 : decode cX5_isInside 32 = .ok (.iload_n 1, 1) := by decide +kernel
theorem dX5_isInside_33 : decode cX5_isInside 33 = .ok (.invokevirtual 111, 3) := by decide +kernel
theorem dX5_isInside_36 : decode cX5_isInside 36 = .ok (.aload_n 0, 1) := by decide +kernel
theorem dX5_isInside_37 : decode cX5_isInside 37 = .ok (.iload_n 3, 1) := by decide +kernel
theorem dX5_isInside_38 : decode cX5_isInside 38 = .ok (.invokevirtual 111, 3) := by decide +kernel
theorem dX5_isInside_41 : decode cX5_isInside 41 = .ok (.isub, 1) := by decide +kernel
theorem dX5_isInside_42 : decode cX5_isInside 42 = .ok (.imul, 1) := by decide +kernel
theorem dX5_isInside_43 : decode cX5_isInside 43 = .ok (.ifCond .gt 33, 3) := by decide +kernel
theorem dX5_isInside_46 : decode cX5_isInside 46 = .ok (.aload_n 0, 1) := by decide +kernel
theorem dX5_isInside_47 : decode cX5_isInside 47 = .ok (.iload_n 1, 1) := by decide +kernel
theorem dX5_isInside_48 : decode cX5_isInside 48 = .ok (.invokevirtual 114, 3) := by decide +kernel
theorem dX5_isInside_51 : decode cX5_isInside 51 = .ok (.aload_n 0, 1) := by decide +kernel
theorem dX5_isInside_52 : decode cX5_isInside 52 = .ok (.iload_n 2, 1) := by decide +kernel
theorem dX5_isInside_53 : decode cX5_isInside 53 = .ok (.invokevirtual 114, 3) := by decide +kernel
theorem dX5_isInside_56 : decode cX5_isInside 56 = .ok (.isub, 1) := by decide +kernel
theorem dX5_isInside_57 : decode cX5_isInside 57 = .ok (.aload_n 0, 1) := by decide +kernel
theorem dX5_isInside_58 : decode cX5_isInside 58 = .ok (.iload_n 1, 1) := by decide +kernel
theorem dX5_isInside_59 : decode cX5_isInside 59 = .ok (.invokevirtual 114, 3) := by decide +kernel
theorem dX5_isInside_62 : decode cX5_isInside 62 = .ok (.aload_n 0, 1) := by decide +kernel
theorem dX5_isInside_63 : decode cX5_isInside 63 = .ok (.iload_n 3, 1) := by decide +kernel
theorem dX5_isInside_64 : decode cX5_isInside 64 = .ok (.invokevirtual 114, 3) := by decide +kernel
theorem dX5_isInside_67 : decode cX5_isInside 67 = .ok (.isub, 1) := by decide +kernel
theorem dX5_isInside_68 : decode cX5_isInside 68 = .ok (.imul, 1) := by decide +kernel
theorem dX5_isInside_69 : decode cX5_isInside 69 = .ok (.ifCond .gt 7, 3) := by decide +kernel
theorem dX5_isInside_72 : decode cX5_isInside 72 = .ok (.iconst 1, 1) := by decide +kernel
theorem dX5_isInside_73 : decode cX5_isInside 73 = .ok (.goto 4, 3) := by decide +kernel
theorem dX5_isInside_76 : decode cX5_isInside 76 = .ok (.iconst 0, 1) := by decide +kernel
theorem dX5_isInside_77 : decode cX5_isInside 77 = .ok (.ireturn, 1) := by decide +kernel
theorem dX5_isLetter_0 : decode cX5_isLetter 0 = .ok (.iload_n 1, 1) := by decide +kernel
theorem dX5_isLetter_1 : decode cX5_isLetter 1 = .ok (.ifCond .lt 21, 3) := by decide +kernel
theorem dX5_isLetter_4 : decode cX5_isLetter 4 = .ok (.iload_n 1, 1) := by decide +kernel
theorem dX5_isLetter_5 : decode cX5_isLetter 5 = .ok (.aload_n 0, 1) := by decide +kernel
theorem dX5_isLetter_6 : decode cX5_isLetter 6 = .ok (.getfield 83, 3) := by decide +kernel
theorem dX5_isLetter_9 : decode cX5_isLetter 9 = .ok (.if_icmp .ge 13, 3) := by decide +kernel
theorem dX5_isLetter_12 : decode cX5_isLetter 12 = .ok (.iload_n 1, 1) := by decide +kernel
theorem dX5_isLetter_13 : decode cX5_isLetter 13 = .ok (.bipush 12, 2) := by decide +kernel
theorem dX5_isLetter_15 : decode cX5_isLetter 15 = .ok (.if_icmp .ge 7, 3) := by decide +kernel
theorem dX5_isLetter_18 : decode cX5_isLetter 18 = .ok (.iconst 1, 1) := by decide +kernel
theorem dX5_isLetter_19 : decode cX5_isLetter 19 = .ok (.goto 4, 3) := by decide +kernel
theorem dX5_isLetter_22 : decode cX5_isLetter 22 = .ok (.iconst 0, 1) := by decide +kernel
theorem dX5_isLetter_23 : decode cX5_isLetter 23 = .ok (.ireturn, 1) := by decide +kernel
theorem dX5_ofOne_0 : decode cX5_ofOne 0 = .ok (.aload_n 0, 1) := by decide +kernel
theorem dX5_ofOne_1 : decode cX5_ofOne 1 = .ok (.iload_n 1, 1) := by decide +kernel
theorem dX5_ofOne_2 : decode cX5_ofOne 2 = .ok (.invokevirtual 224, 3) := by decide +kernel
theorem dX5_ofOne_5 : decode cX5_ofOne 5 = .ok (.ifCond .eq 27, 3) := by decide +kernel
theorem dX5_ofOne_8 : decode cX5_ofOne 8 = .ok (.iload_n 2, 1) := by decide +kernel
theorem dX5_ofOne_9 : decode cX5_ofOne 9 = .ok (.iconst 0, 1) := by decide +kernel
theorem dX5_ofOne_10 : decode cX5_ofOne 10 = .ok (.bipush 6, 2) := by decide +kernel
theorem dX5_ofOne_12 : decode cX5_ofOne 12 = .ok (.invokestatic 122, 3) := by decide +kernel
theorem dX5_ofOne_15 : decode cX5_ofOne 15 = .ok (.ifCond .eq 17, 3) := by decide +kernel
theorem dX5_ofOne_18 : decode cX5_ofOne 18 = .ok (.aload_n 0, 1) := by decide +kernel
theorem dX5_ofOne_19 : decode cX5_ofOne 19 = .ok (.getfield 33, 3) := by decide +kernel
theorem dX5_ofOne_22 : decode cX5_ofOne 22 = .ok (.iload_n 1, 1) := by decide +kernel
theorem dX5_ofOne_23 : decode cX5_ofOne 23 = .ok (.bipush 7, 2) := by decide +kernel
theorem dX5_ofOne_25 : decode cX5_ofOne 25 = .ok (.imul, 1) := by decide +kernel
theorem dX5_ofOne_26 : decode cX5_ofOne 26 = .ok (.iload_n 2, 1) := by decide +kernel
theorem dX5_ofOne_27 : decode cX5_ofOne 27 = .ok (.iadd, 1) := by decide +kernel
theorem dX5_ofOne_28 : decode cX5_ofOne 28 = .ok (.iaload, 1) := by decide +kernel
theorem dX5_ofOne_29 : decode cX5_ofOne 29 = .ok (.goto 4, 3) := by decide +kernel
theorem dX5_ofOne_32 : decode cX5_ofOne 32 = .ok (.iconst (-1), 1) := by decide +kernel
theorem dX5_ofOne_33 : decode cX5_ofOne 33 = .ok (.ireturn, 1) := by decide +kernel
theorem dX5_change_0 : decode cX5_change 0 = .ok (.aload_n 0, 1) := by decide +kernel
theorem dX5_change_1 : decode cX5_change 1 = .ok (.iload_n 1, 1) := by decide +kernel
theorem dX5_change_2 : decode cX5_change 2 = .ok (.invokevirtual 224, 3) := by decide +kernel
theorem dX5_change_5 : decode cX5_change 5 = .ok (.ifCond .eq 25, 3) := by decide +kernel
theorem dX5_change_8 : decode cX5_change 8 = .ok (.iload_n 2, 1) := by decide +kernel
theorem dX5_change_9 : decode cX5_change 9 = .ok (.iconst 0, 1) := by decide +kernel
theorem dX5_change_10 : decode cX5_change 10 = .ok (.bipush 6, 2) := by decide +kernel
theorem dX5_change_12 : decode cX5_change 12 = .ok (.invokestatic 122, 3) := by decide +kernel
theorem dX5_change_15 : decode cX5_change 15 = .ok (.ifCond .eq 15, 3) := by decide +kernel
theorem dX5_change_18 : decode cX5_change 18 = .ok (.aload_n 0, 1) := by decide +kernel
theorem dX5_change_19 : decode cX5_change 19 = .ok (.getfield 33, 3) := by decide +kernel
theorem dX5_change_22 : decode cX5_change 22 = .ok (.iload_n 1, 1) := by decide +kernel
theorem dX5_change_23 : decode cX5_change 23 = .ok (.bipush 7, 2) := by decide +kernel
theorem dX5_change_25 : decode cX5_change 25 = .ok (.imul, 1) := by decide +kernel
theorem dX5_change_26 : decode cX5_change 26 = .ok (.iload_n 2, 1) := by decide +kernel
theorem dX5_change_27 : decode cX5_change 27 = .ok (.iadd, 1) := by decide +kernel
theorem dX5_change_28 : decode cX5_change 28 = .ok (.iload_n 3, 1) := by decide +kernel
theorem dX5_change_29 : decode cX5_change 29 = .ok (.iastore, 1) := by decide +kernel
theorem dX5_change_30 : decode cX5_change 30 = .ok (.return_, 1) := by decide +kernel
theorem dX5_addLetter_0 : decode cX5_addLetter 0 = .ok (.aload_n 0, 1) := by decide +kernel
theorem dX5_addLetter_1 : decode cX5_addLetter 1 = .ok (.getfield 83, 3) := by decide +kernel
theorem dX5_addLetter_4 : decode cX5_addLetter 4 = .ok (.bipush 12, 2) := by decide +kernel
theorem dX5_addLetter_6 : decode cX5_addLetter 6 = .ok (.if_icmp .lt 5, 3) := by decide +kernel
theorem dX5_addLetter_9 : decode cX5_addLetter 9 = .ok (.iconst (-1), 1) := by decide +kernel
theorem dX5_addLetter_10 : decode cX5_addLetter 10 = .ok (.ireturn, 1) := by decide +kernel
theorem dX5_addLetter_11 : decode cX5_addLetter 11 = .ok (.aload_n 0, 1) := by decide +kernel
theorem dX5_addLetter_12 : decode cX5_addLetter 12 = .ok (.getfield 83, 3) := by decide +kernel
theorem dX5_addLetter_15 : decode cX5_addLetter 15 = .ok (.istore 5, 2) := by decide +kernel
theorem dX5_addLetter_17 : decode cX5_addLetter 17 = .ok (.aload_n 0, 1) := by decide +kernel
theorem dX5_addLetter_18 : decode cX5_addLetter 18 = .ok (.dup, 1) := by decide +kernel
theorem dX5_addLetter_19 : decode cX5_addLetter 19 = .ok (.getfield 83, 3) := by decide +kernel
theorem dX5_addLetter_22 : decode cX5_addLetter 22 = .ok (.iconst 1, 1) := by decide +kernel
theorem dX5_addLetter_23 : decode cX5_addLetter 23 = .ok (.iadd, 1) := by decide +kernel
theorem dX5_addLetter_24 : decode cX5_addLetter 24 = .ok (.putfield 83, 3) := by decide +kernel
theorem dX5_addLetter_27 : decode cX5_addLetter 27 = .ok (.aload_n 0, 1) := by decide +kernel
theorem dX5_addLetter_28 : decode cX5_addLetter 28 = .ok (.iload 5, 2) := by decide +kernel
theorem dX5_addLetter_30 : decode cX5_addLetter 30 = .ok (.iconst 0, 1) := by decide +kernel
theorem dX5_addLetter_31 : decode cX5_addLetter 31 = .ok (.iload_n 1, 1) := by decide +kernel
theorem dX5_addLetter_32 : decode cX5_addLetter 32 = .ok (.invokevirtual 227, 3) := by decide +kernel
theorem dX5_addLetter_35 : decode cX5_addLetter 35 = .ok (.aload_n 0, 1) := by decide +kernel
theorem dX5_addLetter_36 : decode cX5_addLetter 36 = .ok (.iload 5, 2) := by decide +kernel
theorem dX5_addLetter_38 : decode cX5_addLetter 38 = .ok (.iconst 1, 1) := by decide +kernel
theorem dX5_addLetter_39 : decode cX5_addLetter 39 = .ok (.iload_n 2, 1) := by decide +kernel
theorem dX5_addLetter_40 : decode cX5_addLetter 40 = .ok (.invokevirtual 227, 3) := by decide +kernel
theorem dX5_addLetter_43 : decode cX5_addLetter 43 = .ok (.aload_n 0, 1) := by decide +kernel
theorem dX5_addLetter_44 : decode cX5_addLetter 44 = .ok (.iload 5, 2) := by decide +kernel
theorem dX5_addLetter_46 : decode cX5_addLetter 46 = .ok (.iconst 2, 1) := by decide +kernel
theorem dX5_addLetter_47 : decode cX5_addLetter 47 = .ok (.iload_n 3, 1) := by decide +kernel
theorem dX5_addLetter_48 : decode cX5_addLetter 48 = .ok (.invokevirtual 227, 3) := by decide +kernel
theorem dX5_addLetter_51 : decode cX5_addLetter 51 = .ok (.aload_n 0, 1) := by decide +kernel
theorem dX5_addLetter_52 : decode cX5_addLetter 52 = .ok (.iload 5, 2) := by decide +kernel
theorem dX5_addLetter_54 : decode cX5_addLetter 54 = .ok (.iconst 3, 1) := by decide +kernel
theorem dX5_addLetter_55 : decode cX5_addLetter 55 = .ok (.iload 4, 2) := by decide +kernel
theorem dX5_addLetter_57 : decode cX5_addLetter 57 = .ok (.invokevirtual 227, 3) := by decide +kernel
theorem dX5_addLetter_60 : decode cX5_addLetter 60 = .ok (.aload_n 0, 1) := by decide +kernel
theorem dX5_addLetter_61 : decode cX5_addLetter 61 = .ok (.iload 5, 2) := by decide +kernel
theorem dX5_addLetter_63 : decode cX5_addLetter 63 = .ok (.iconst 4, 1) := by decide +kernel
theorem dX5_addLetter_64 : decode cX5_addLetter 64 = .ok (.aload_n 0, 1) := by decide +kernel
theorem dX5_addLetter_65 : decode cX5_addLetter 65 = .ok (.getfield 93, 3) := by decide +kernel
theorem dX5_addLetter_68 : decode cX5_addLetter 68 = .ok (.invokevirtual 227, 3) := by decide +kernel
theorem dX5_addLetter_71 : decode cX5_addLetter 71 = .ok (.aload_n 0, 1) := by decide +kernel
theorem dX5_addLetter_72 : decode cX5_addLetter 72 = .ok (.iload 5, 2) := by decide +kernel
theorem dX5_addLetter_74 : decode cX5_addLetter 74 = .ok (.iconst 5, 1) := by decide +kernel
theorem dX5_addLetter_75 : decode cX5_addLetter 75 = .ok (.iload_n 1, 1) := by decide +kernel
theorem dX5_addLetter_76 : decode cX5_addLetter 76 = .ok (.invokevirtual 227, 3) := by decide +kernel
theorem dX5_addLetter_79 : decode cX5_addLetter 79 = .ok (.aload_n 0, 1) := by decide +kernel
theorem dX5_addLetter_80 : decode cX5_addLetter 80 = .ok (.iload 5, 2) := by decide +kernel
theorem dX5_addLetter_82 : decode cX5_addLetter 82 = .ok (.bipush 6, 2) := by decide +kernel
theorem dX5_addLetter_84 : decode cX5_addLetter 84 = .ok (.iconst (-1), 1) := by decide +kernel
theorem dX5_addLetter_85 : decode cX5_addLetter 85 = .ok (.invokevirtual 227, 3) := by decide +kernel
theorem dX5_addLetter_88 : decode cX5_addLetter 88 = .ok (.iload 5, 2) := by decide +kernel
theorem dX5_addLetter_90 : decode cX5_addLetter 90 = .ok (.ireturn, 1) := by decide +kernel
theorem dX5_waitsOn_0 : decode cX5_waitsOn 0 = .ok (.aload_n 0, 1) := by decide +kernel
theorem dX5_waitsOn_1 : decode cX5_waitsOn 1 = .ok (.iload_n 1, 1) := by decide +kernel
theorem dX5_waitsOn_2 : decode cX5_waitsOn 2 = .ok (.iconst 5, 1) := by decide +kernel
theorem dX5_waitsOn_3 : decode cX5_waitsOn 3 = .ok (.invokevirtual 231, 3) := by decide +kernel
theorem dX5_waitsOn_6 : decode cX5_waitsOn 6 = .ok (.iload_n 2, 1) := by decide +kernel
theorem dX5_waitsOn_7 : decode cX5_waitsOn 7 = .ok (.if_icmp .ne 17, 3) := by decide +kernel
theorem dX5_waitsOn_10 : decode cX5_waitsOn 10 = .ok (.aload_n 0, 1) := by decide +kernel
theorem dX5_waitsOn_11 : decode cX5_waitsOn 11 = .ok (.iload_n 1, 1) := by decide +kernel
theorem dX5_waitsOn_12 : decode cX5_waitsOn 12 = .ok (.bipush 6, 2) := by decide +kernel
theorem dX5_waitsOn_14 : decode cX5_waitsOn 14 = .ok (.invokevirtual 231, 3) := by decide +kernel
theorem dX5_waitsOn_17 : decode cX5_waitsOn 17 = .ok (.ifCond .ge 7, 3) := by decide +kernel
theorem dX5_waitsOn_20 : decode cX5_waitsOn 20 = .ok (.iconst 1, 1) := by decide +kernel
theorem dX5_waitsOn_21 : decode cX5_waitsOn 21 = .ok (.goto 4, 3) := by decide +kernel
theorem dX5_waitsOn_24 : decode cX5_waitsOn 24 = .ok (.iconst 0, 1) := by decide +kernel
theorem dX5_waitsOn_25 : decode cX5_waitsOn 25 = .ok (.ireturn, 1) := by decide +kernel
theorem dX5_lettersOn_0 : decode cX5_lettersOn 0 = .ok (.iconst 0, 1) := by decide +kernel
theorem dX5_lettersOn_1 : decode cX5_lettersOn 1 = .ok (.istore_n 2, 1) := by decide +kernel
theorem dX5_lettersOn_2 : decode cX5_lettersOn 2 = .ok (.iconst 0, 1) := by decide +kernel
theorem dX5_lettersOn_3 : decode cX5_lettersOn 3 = .ok (.istore_n 3, 1) := by decide +kernel
theorem dX5_lettersOn_4 : decode cX5_lettersOn 4 = .ok (.iload_n 3, 1) := by decide +kernel
theorem dX5_lettersOn_5 : decode cX5_lettersOn 5 = .ok (.aload_n 0, 1) := by decide +kernel
theorem dX5_lettersOn_6 : decode cX5_lettersOn 6 = .ok (.getfield 83, 3) := by decide +kernel
theorem dX5_lettersOn_9 : decode cX5_lettersOn 9 = .ok (.if_icmp .ge 24, 3) := by decide +kernel
theorem dX5_lettersOn_12 : decode cX5_lettersOn 12 = .ok (.aload_n 0, 1) := by decide +kernel
theorem dX5_lettersOn_13 : decode cX5_lettersOn 13 = .ok (.iload_n 3, 1) := by decide +kernel
theorem dX5_lettersOn_14 : decode cX5_lettersOn 14 = .ok (.iload_n 1, 1) := by decide +kernel
theorem dX5_lettersOn_15 : decode cX5_lettersOn 15 = .ok (.invokevirtual 234, 3) := by decide +kernel
theorem dX5_lettersOn_18 : decode cX5_lettersOn 18 = .ok (.ifCond .eq 9, 3) := by decide +kernel
theorem dX5_lettersOn_21 : decode cX5_lettersOn 21 = .ok (.iload_n 2, 1) := by decide +kernel
theorem dX5_lettersOn_22 : decode cX5_lettersOn 22 = .ok (.iconst 1, 1) := by decide +kernel
theorem dX5_lettersOn_23 : decode cX5_lettersOn 23 = .ok (.iload_n 3, 1) := by decide +kernel
theorem dX5_lettersOn_24 : decode cX5_lettersOn 24 = .ok (.ishl, 1) := by decide +kernel
theorem dX5_lettersOn_25 : decode cX5_lettersOn 25 = .ok (.ior, 1) := by decide +kernel
theorem dX5_lettersOn_26 : decode cX5_lettersOn 26 = .ok (.istore_n 2, 1) := by decide +kernel
theorem dX5_lettersOn_27 : decode cX5_lettersOn 27 = .ok (.iinc 3 1, 3) := by decide +kernel
theorem dX5_lettersOn_30 : decode cX5_lettersOn 30 = .ok (.goto (-26), 3) := by decide +kernel
theorem dX5_lettersOn_33 : decode cX5_lettersOn 33 = .ok (.iload_n 2, 1) := by decide +kernel
theorem dX5_lettersOn_34 : decode cX5_lettersOn 34 = .ok (.ireturn, 1) := by decide +kernel
theorem dX5_passHours_0 : decode cX5_passHours 0 = .ok (.iconst 0, 1) := by decide +kernel
theorem dX5_passHours_1 : decode cX5_passHours 1 = .ok (.istore_n 2, 1) := by decide +kernel
theorem dX5_passHours_2 : decode cX5_passHours 2 = .ok (.iload_n 2, 1) := by decide +kernel
theorem dX5_passHours_3 : decode cX5_passHours 3 = .ok (.iload_n 1, 1) := by decide +kernel
theorem dX5_passHours_4 : decode cX5_passHours 4 = .ok (.if_icmp .ge 13, 3) := by decide +kernel
theorem dX5_passHours_7 : decode cX5_passHours 7 = .ok (.aload_n 0, 1) := by decide +kernel
theorem dX5_passHours_8 : decode cX5_passHours 8 = .ok (.invokevirtual 237, 3) := by decide +kernel
theorem dX5_passHours_11 : decode cX5_passHours 11 = .ok (.iinc 2 1, 3) := by decide +kernel
theorem dX5_passHours_14 : decode cX5_passHours 14 = .ok (.goto (-12), 3) := by decide +kernel
theorem dX5_passHours_17 : decode cX5_passHours 17 = .ok (.return_, 1) := by decide +kernel
theorem dX5_nextDraw_0 : decode cX5_nextDraw 0 = .ok (.aload_n 0, 1) := by decide +kernel
theorem dX5_nextDraw_1 : decode cX5_nextDraw 1 = .ok (.aload_n 0, 1) := by decide +kernel
theorem dX5_nextDraw_2 : decode cX5_nextDraw 2 = .ok (.getfield 61, 3) := by decide +kernel
theorem dX5_nextDraw_5 : decode cX5_nextDraw 5 = .ok (.ldc 240, 2) := by decide +kernel
theorem dX5_nextDraw_7 : decode cX5_nextDraw 7 = .ok (.imul, 1) := by decide +kernel
theorem dX5_nextDraw_8 : decode cX5_nextDraw 8 = .ok (.sipush 12345, 3) := by decide +kernel
theorem dX5_nextDraw_11 : decode cX5_nextDraw 11 = .ok (.iadd, 1) := by decide +kernel
theorem dX5_nextDraw_12 : decode cX5_nextDraw 12 = .ok (.putfield 61, 3) := by decide +kernel
theorem dX5_nextDraw_15 : decode cX5_nextDraw 15 = .ok (.aload_n 0, 1) := by decide +kernel
theorem dX5_nextDraw_16 : decode cX5_nextDraw 16 = .ok (.getfield 61, 3) := by decide +kernel
theorem dX5_nextDraw_19 : decode cX5_nextDraw 19 = .ok (.bipush 8, 2) := by decide +kernel
theorem dX5_nextDraw_21 : decode cX5_nextDraw 21 = .ok (.iushr, 1) := by decide +kernel
theorem dX5_nextDraw_22 : decode cX5_nextDraw 22 = .ok (.ireturn, 1) := by decide +kernel
theorem dX5_passHour_0 : decode cX5_passHour 0 = .ok (.aload_n 0, 1) := by decide +kernel
theorem dX5_passHour_1 : decode cX5_passHour 1 = .ok (.getfield 41, 3) := by decide +kernel
theorem dX5_passHour_4 : decode cX5_passHour 4 = .ok (.getfield 241, 3) := by decide +kernel
theorem dX5_passHour_7 : decode cX5_passHour 7 = .ok (.aload_n 0, 1) := by decide +kernel
theorem dX5_passHour_8 : decode cX5_passHour 8 = .ok (.getfield 83, 3) := by decide +kernel
theorem dX5_passHour_11 : decode cX5_passHour 11 = .ok (.if_icmp .ge 14, 3) := by decide +kernel
theorem dX5_passHour_14 : decode cX5_passHour 14 = .ok (.aload_n 0, 1) := by decide +kernel
theorem dX5_passHour_15 : decode cX5_passHour 15 = .ok (.aload_n 0, 1) := by decide +kernel
theorem dX5_passHour_16 : decode cX5_passHour 16 = .ok (.getfield 93, 3) := by decide +kernel
theorem dX5_passHour_19 : decode cX5_passHour 19 = .ok (.invokevirtual 244, 3) := by decide +kernel
theorem dX5_passHour_22 : decode cX5_passHour 22 = .ok (.goto 4, 3) := by decide +kernel
theorem dX5_passHour_25 : decode cX5_passHour 25 = .ok (.iconst 0, 1) := by decide +kernel
theorem dX5_passHour_26 : decode cX5_passHour 26 = .ok (.istore_n 1, 1) := by decide +kernel
theorem dX5_passHour_27 : decode cX5_passHour 27 = .ok (.aload_n 0, 1) := by decide +kernel
theorem dX5_passHour_28 : decode cX5_passHour 28 = .ok (.iload_n 1, 1) := by decide +kernel
theorem dX5_passHour_29 : decode cX5_passHour 29 = .ok (.invokevirtual 247, 3) := by decide +kernel
theorem dX5_passHour_32 : decode cX5_passHour 32 = .ok (.ifCond .eq 52, 3) := by decide +kernel
theorem dX5_passHour_35 : decode cX5_passHour 35 = .ok (.iload_n 1, 1) := by decide +kernel
theorem dX5_passHour_36 : decode cX5_passHour 36 = .ok (.aload_n 0, 1) := by decide +kernel
theorem dX5_passHour_37 : decode cX5_passHour 37 = .ok (.iload_n 1, 1) := by decide +kernel
theorem dX5_passHour_38 : decode cX5_passHour 38 = .ok (.invokevirtual 250, 3) := by decide +kernel
theorem dX5_passHour_41 : decode cX5_passHour 41 = .ok (.iconst (-1), 1) := by decide +kernel
theorem dX5_passHour_42 : decode cX5_passHour 42 = .ok (.ixor, 1) := by decide +kernel
theorem dX5_passHour_43 : decode cX5_passHour 43 = .ok (.iand, 1) := by decide +kernel
theorem dX5_passHour_44 : decode cX5_passHour 44 = .ok (.istore_n 2, 1) := by decide +kernel
theorem dX5_passHour_45 : decode cX5_passHour 45 = .ok (.iconst 0, 1) := by decide +kernel
theorem dX5_passHour_46 : decode cX5_passHour 46 = .ok (.istore_n 3, 1) := by decide +kernel
theorem dX5_passHour_47 : decode cX5_passHour 47 = .ok (.iconst 0, 1) := by decide +kernel
theorem dX5_passHour_48 : decode cX5_passHour 48 = .ok (.istore 4, 2) := by decide +kernel
theorem dX5_passHour_50 : decode cX5_passHour 50 = .ok (.iload 4, 2) := by decide +kernel
theorem dX5_passHour_52 : decode cX5_passHour 52 = .ok (.aload_n 0, 1) := by decide +kernel
theorem dX5_passHour_53 : decode cX5_passHour 53 = .ok (.getfield 80, 3) := by decide +kernel
theorem dX5_passHour_56 : decode cX5_passHour 56 = .ok (.if_icmp .ge 28, 3) := by decide +kernel
theorem dX5_passHour_59 : decode cX5_passHour 59 = .ok (.iload_n 2, 1) := by decide +kernel
theorem dX5_passHour_60 : decode cX5_passHour 60 = .ok (.iload 4, 2) := by decide +kernel
theorem dX5_passHour_62 : decode cX5_passHour 62 = .ok (.ishr, 1) := by decide +kernel
theorem dX5_passHour_63 : decode cX5_passHour 63 = .ok (.iconst 1, 1) := by decide +kernel
theorem dX5_passHour_64 : decode cX5_passHour 64 = .ok (.iand, 1) := by decide +kernel
theorem dX5_passHour_65 : decode cX5_passHour 65 = .ok (.ifCond .eq 13, 3) := by decide +kernel
theorem dX5_passHour_68 : decode cX5_passHour 68 = .ok (.iload_n 3, 1) := by decide +kernel
theorem dX5_passHour_69 : decode cX5_passHour 69 = .ok (.aload_n 0, 1) := by decide +kernel
theorem dX5_passHour_70 : decode cX5_passHour 70 = .ok (.iload 4, 2) := by decide +kernel
theorem dX5_passHour_72 : decode cX5_passHour 72 = .ok (.iload_n 3, 1) := by decide +kernel
theorem dX5_passHour_73 : decode cX5_passHour 73 = .ok (.invokevirtual 253, 3) := by decide +kernel
theorem dX5_passHour_76 : decode cX5_passHour 76 = .ok (.ior, 1) := by decide +kernel
theorem dX5_passHour_77 : decode cX5_passHour 77 = .ok (.istore_n 3, 1) := by decide +kernel
theorem dX5_passHour_78 : decode cX5_passHour 78 = .ok (.iinc 4 1, 3) := by decide +kernel
theorem dX5_passHour_81 : decode cX5_passHour 81 = .ok (.goto (-31), 3) := by decide +kernel
theorem dX5_passHour_84 : decode cX5_passHour 84 = .ok (.aload_n 0, 1) := by decide +kernel
theorem dX5_passHour_85 : decode cX5_passHour 85 = .ok (.dup, 1) := by decide +kernel
theorem dX5_passHour_86 : decode cX5_passHour 86 = .ok (.getfield 93, 3) := by decide +kernel
theorem dX5_passHour_89 : decode cX5_passHour 89 = .ok (.iconst 1, 1) := by decide +kernel
theorem dX5_passHour_90 : decode cX5_passHour 90 = .ok (.iadd, 1) := by decide +kernel
theorem dX5_passHour_91 : decode cX5_passHour 91 = .ok (.putfield 93, 3) := by decide +kernel
theorem dX5_passHour_94 : decode cX5_passHour 94 = .ok (.return_, 1) := by decide +kernel
theorem dX5_anyHasLetters_0 : decode cX5_anyHasLetters 0 = .ok (.iconst 0, 1) := by decide +kernel
theorem dX5_anyHasLetters_1 : decode cX5_anyHasLetters 1 = .ok (.istore_n 2, 1) := by decide +kernel
theorem dX5_anyHasLetters_2 : decode cX5_anyHasLetters 2 = .ok (.iload_n 2, 1) := by decide +kernel
theorem dX5_anyHasLetters_3 : decode cX5_anyHasLetters 3 = .ok (.aload_n 0, 1) := by decide +kernel
theorem dX5_anyHasLetters_4 : decode cX5_anyHasLetters 4 = .ok (.getfield 80, 3) := by decide +kernel
theorem dX5_anyHasLetters_7 : decode cX5_anyHasLetters 7 = .ok (.if_icmp .ge 44, 3) := by decide +kernel
theorem dX5_anyHasLetters_10 : decode cX5_anyHasLetters 10 = .ok (.iload_n 1, 1) := by decide +kernel
theorem dX5_anyHasLetters_11 : decode cX5_anyHasLetters 11 = .ok (.ifCond .eq 40, 3) := by decide +kernel
theorem dX5_anyHasLetters_14 : decode cX5_anyHasLetters 14 = .ok (.aload_n 0, 1) := by decide +kernel
theorem dX5_anyHasLetters_15 : decode cX5_anyHasLetters 15 = .ok (.iload_n 2, 1) := by decide +kernel
theorem dX5_anyHasLetters_16 : decode cX5_anyHasLetters 16 = .ok (.invokevirtual 201, 3) := by decide +kernel
theorem dX5_anyHasLetters_19 : decode cX5_anyHasLetters 19 = .ok (.astore_n 3, 1) := by decide +kernel
theorem dX5_anyHasLetters_20 : decode cX5_anyHasLetters 20 = .ok (.aload_n 3, 1) := by decide +kernel
theorem dX5_anyHasLetters_21 : decode cX5_anyHasLetters 21 = .ok (.ifnull 24, 3) := by decide +kernel
theorem dX5_anyHasLetters_24 : decode cX5_anyHasLetters 24 = .ok (.iload_n 1, 1) := by decide +kernel
theorem dX5_anyHasLetters_25 : decode cX5_anyHasLetters 25 = .ok (.iload_n 2, 1) := by decide +kernel
theorem dX5_anyHasLetters_26 : decode cX5_anyHasLetters 26 = .ok (.ishr, 1) := by decide +kernel
theorem dX5_anyHasLetters_27 : decode cX5_anyHasLetters 27 = .ok (.iconst 1, 1) := by decide +kernel
theorem dX5_anyHasLetters_28 : decode cX5_anyHasLetters 28 = .ok (.iand, 1) := by decide +kernel
theorem dX5_anyHasLetters_29 : decode cX5_anyHasLetters 29 = .ok (.ifCond .eq 16, 3) := by decide +kernel
theorem dX5_anyHasLetters_32 : decode cX5_anyHasLetters 32 = .ok (.aload_n 0, 1) := by decide +kernel
theorem dX5_anyHasLetters_33 : decode cX5_anyHasLetters 33 = .ok (.aload_n 3, 1) := by decide +kernel
theorem dX5_anyHasLetters_34 : decode cX5_anyHasLetters 34 = .ok (.getfield 157, 3) := by decide +kernel
theorem dX5_anyHasLetters_37 : decode cX5_anyHasLetters 37 = .ok (.invokevirtual 256, 3) := by decide +kernel
theorem dX5_anyHasLetters_40 : decode cX5_anyHasLetters 40 = .ok (.ifCond .eq 5, 3) := by decide +kernel
theorem dX5_anyHasLetters_43 : decode cX5_anyHasLetters 43 = .ok (.iconst 1, 1) := by decide +kernel
theorem dX5_anyHasLetters_44 : decode cX5_anyHasLetters 44 = .ok (.ireturn, 1) := by decide +kernel
theorem dX5_anyHasLetters_45 : decode cX5_anyHasLetters 45 = .ok (.iinc 2 1, 3) := by decide +kernel
theorem dX5_anyHasLetters_48 : decode cX5_anyHasLetters 48 = .ok (.goto (-46), 3) := by decide +kernel
theorem dX5_anyHasLetters_51 : decode cX5_anyHasLetters 51 = .ok (.iconst 0, 1) := by decide +kernel
theorem dX5_anyHasLetters_52 : decode cX5_anyHasLetters 52 = .ok (.ireturn, 1) := by decide +kernel
theorem dX5_takenBy_0 : decode cX5_takenBy 0 = .ok (.aload_n 0, 1) := by decide +kernel
theorem dX5_takenBy_1 : decode cX5_takenBy 1 = .ok (.iload_n 1, 1) := by decide +kernel
theorem dX5_takenBy_2 : decode cX5_takenBy 2 = .ok (.invokevirtual 201, 3) := by decide +kernel
theorem dX5_takenBy_5 : decode cX5_takenBy 5 = .ok (.astore_n 3, 1) := by decide +kernel
theorem dX5_takenBy_6 : decode cX5_takenBy 6 = .ok (.aload_n 0, 1) := by decide +kernel
theorem dX5_takenBy_7 : decode cX5_takenBy 7 = .ok (.iload_n 1, 1) := by decide +kernel
theorem dX5_takenBy_8 : decode cX5_takenBy 8 = .ok (.invokevirtual 205, 3) := by decide +kernel
theorem dX5_takenBy_11 : decode cX5_takenBy 11 = .ok (.istore 4, 2) := by decide +kernel
theorem dX5_takenBy_13 : decode cX5_takenBy 13 = .ok (.iconst 0, 1) := by decide +kernel
theorem dX5_takenBy_14 : decode cX5_takenBy 14 = .ok (.istore 5, 2) := by decide +kernel
theorem dX5_takenBy_16 : decode cX5_takenBy 16 = .ok (.iconst 0, 1) := by decide +kernel
theorem dX5_takenBy_17 : decode cX5_takenBy 17 = .ok (.istore 6, 2) := by decide +kernel
theorem dX5_takenBy_19 : decode cX5_takenBy 19 = .ok (.iconst 0, 1) := by decide +kernel
theorem dX5_takenBy_20 : decode cX5_takenBy 20 = .ok (.istore 7, 2) := by decide +kernel
theorem dX5_takenBy_22 : decode cX5_takenBy 22 = .ok (.iload 7, 2) := by decide +kernel
theorem dX5_takenBy_24 : decode cX5_takenBy 24 = .ok (.aload_n 0, 1) := by decide +kernel
theorem dX5_takenBy_25 : decode cX5_takenBy 25 = .ok (.getfield 83, 3) := by decide +kernel
theorem dX5_takenBy_28 : decode cX5_takenBy 28 = .ok (.if_icmp .ge 87, 3) := by decide +kernel
theorem dX5_takenBy_31 : decode cX5_takenBy 31 = .ok (.aload_n 3, 1) := by decide +kernel
theorem dX5_takenBy_32 : decode cX5_takenBy 32 = .ok (.ifnull 83, 3) := by decide +kernel
theorem dX5_takenBy_35 : decode cX5_takenBy 35 = .ok (.iload_n 2, 1) := by decide +kernel
theorem dX5_takenBy_36 : decode cX5_takenBy 36 = .ok (.iload 7, 2) := by decide +kernel
theorem dX5_takenBy_38 : decode cX5_takenBy 38 = .ok (.ishr, 1) := by decide +kernel
theorem dX5_takenBy_39 : decode cX5_takenBy 39 = .ok (.iconst 1, 1) := by decide +kernel
theorem dX5_takenBy_40 : decode cX5_takenBy 40 = .ok (.iand, 1) := by decide +kernel
theorem dX5_takenBy_41 : decode cX5_takenBy 41 = .ok (.ifCond .ne 68, 3) := by decide +kernel
theorem dX5_takenBy_44 : decode cX5_takenBy 44 = .ok (.aload_n 0, 1) := by decide +kernel
theorem dX5_takenBy_45 : decode cX5_takenBy 45 = .ok (.iload 7, 2) := by decide +kernel
theorem dX5_takenBy_47 : decode cX5_takenBy 47 = .ok (.aload_n 3, 1) := by decide +kernel
theorem dX5_takenBy_48 : decode cX5_takenBy 48 = .ok (.getfield 157, 3) := by decide +kernel
theorem dX5_takenBy_51 : decode cX5_takenBy 51 = .ok (.invokevirtual 234, 3) := by decide +kernel
theorem dX5_takenBy_54 : decode cX5_takenBy 54 = .ok (.ifCond .ne 6, 3) := by decide +kernel
theorem dX5_takenBy_57 : decode cX5_takenBy 57 = .ok (.goto 52, 3) := by decide +kernel
theorem dX5_takenBy_60 : decode cX5_takenBy 60 = .ok (.iload 6, 2) := by decide +kernel
theorem dX5_takenBy_62 : decode cX5_takenBy 62 = .ok (.aload_n 0, 1) := by decide +kernel
theorem dX5_takenBy_63 : decode cX5_takenBy 63 = .ok (.iload 7, 2) := by decide +kernel
theorem dX5_takenBy_65 : decode cX5_takenBy 65 = .ok (.iconst 2, 1) := by decide +kernel
theorem dX5_takenBy_66 : decode cX5_takenBy 66 = .ok (.invokevirtual 231, 3) := by decide +kernel
theorem dX5_takenBy_69 : decode cX5_takenBy 69 = .ok (.iadd, 1) := by decide +kernel
theorem dX5_takenBy_70 : decode cX5_takenBy 70 = .ok (.istore 8, 2) := by decide +kernel
theorem dX5_takenBy_72 : decode cX5_takenBy 72 = .ok (.aload_n 0, 1) := by decide +kernel
theorem dX5_takenBy_73 : decode cX5_takenBy 73 = .ok (.aload_n 3, 1) := by decide +kernel
theorem dX5_takenBy_74 : decode cX5_takenBy 74 = .ok (.iload 4, 2) := by decide +kernel
theorem dX5_takenBy_76 : decode cX5_takenBy 76 = .ok (.iload 8, 2) := by decide +kernel
theorem dX5_takenBy_78 : decode cX5_takenBy 78 = .ok (.aload_n 0, 1) := by decide +kernel
theorem dX5_takenBy_79 : decode cX5_takenBy 79 = .ok (.getfield 93, 3) := by decide +kernel
theorem dX5_takenBy_82 : decode cX5_takenBy 82 = .ok (.invokevirtual 197, 3) := by decide +kernel
theorem dX5_takenBy_85 : decode cX5_takenBy 85 = .ok (.ifCond .eq 24, 3) := by decide +kernel
theorem dX5_takenBy_88 : decode cX5_takenBy 88 = .ok (.iload 8, 2) := by decide +kernel
theorem dX5_takenBy_90 : decode cX5_takenBy 90 = .ok (.istore 6, 2) := by decide +kernel
theorem dX5_takenBy_92 : decode cX5_takenBy 92 = .ok (.iload 5, 2) := by decide +kernel
theorem dX5_takenBy_94 : decode cX5_takenBy 94 = .ok (.iconst 1, 1) := by decide +kernel
theorem dX5_takenBy_95 : decode cX5_takenBy 95 = .ok (.iload 7, 2) := by decide +kernel
theorem dX5_takenBy_97 : decode cX5_takenBy 97 = .ok (.ishl, 1) := by decide +kernel
theorem dX5_takenBy_98 : decode cX5_takenBy 98 = .ok (.ior, 1) := by decide +kernel
theorem dX5_takenBy_99 : decode cX5_takenBy 99 = .ok (.istore 5, 2) := by decide +kernel
theorem dX5_takenBy_101 : decode cX5_takenBy 101 = .ok (.aload_n 0, 1) := by decide +kernel
theorem dX5_takenBy_102 : decode cX5_takenBy 102 = .ok (.iload 7, 2) := by decide +kernel
theorem dX5_takenBy_104 : decode cX5_takenBy 104 = .ok (.iload 4, 2) := by decide +kernel
theorem dX5_takenBy_106 : decode cX5_takenBy 106 = .ok (.invokevirtual 259, 3) := by decide +kernel
theorem dX5_takenBy_109 : decode cX5_takenBy 109 = .ok (.iinc 7 1, 3) := by decide +kernel
theorem dX5_takenBy_112 : decode cX5_takenBy 112 = .ok (.goto (-90), 3) := by decide +kernel
theorem dX5_takenBy_115 : decode cX5_takenBy 115 = .ok (.iload 5, 2) := by decide +kernel
theorem dX5_takenBy_117 : decode cX5_takenBy 117 = .ok (.ireturn, 1) := by decide +kernel
theorem dX5_bring_0 : decode cX5_bring 0 = .ok (.aload_n 0, 1) := by decide +kernel
theorem dX5_bring_1 : decode cX5_bring 1 = .ok (.iload_n 1, 1) := by decide +kernel
theorem dX5_bring_2 : decode cX5_bring 2 = .ok (.iconst 5, 1) := by decide +kernel
theorem dX5_bring_3 : decode cX5_bring 3 = .ok (.iload_n 2, 1) := by decide +kernel
theorem dX5_bring_4 : decode cX5_bring 4 = .ok (.invokevirtual 227, 3) := by decide +kernel
theorem dX5_bring_7 : decode cX5_bring 7 = .ok (.aload_n 0, 1) := by decide +kernel
theorem dX5_bring_8 : decode cX5_bring 8 = .ok (.iload_n 1, 1) := by decide +kernel
theorem dX5_bring_9 : decode cX5_bring 9 = .ok (.iconst 1, 1) := by decide +kernel
theorem dX5_bring_10 : decode cX5_bring 10 = .ok (.invokevirtual 231, 3) := by decide +kernel
theorem dX5_bring_13 : decode cX5_bring 13 = .ok (.iload_n 2, 1) := by decide +kernel
theorem dX5_bring_14 : decode cX5_bring 14 = .ok (.if_icmp .ne 73, 3) := by decide +kernel
theorem dX5_bring_17 : decode cX5_bring 17 = .ok (.aload_n 0, 1) := by decide +kernel
theorem dX5_bring_18 : decode cX5_bring 18 = .ok (.getfield 93, 3) := by decide +kernel
theorem dX5_bring_21 : decode cX5_bring 21 = .ok (.iconst 1, 1) := by decide +kernel
theorem dX5_bring_22 : decode cX5_bring 22 = .ok (.iadd, 1) := by decide +kernel
theorem dX5_bring_23 : decode cX5_bring 23 = .ok (.istore_n 3, 1) := by decide +kernel
theorem dX5_bring_24 : decode cX5_bring 24 = .ok (.aload_n 0, 1) := by decide +kernel
theorem dX5_bring_25 : decode cX5_bring 25 = .ok (.iload_n 1, 1) := by decide +kernel
theorem dX5_bring_26 : decode cX5_bring 26 = .ok (.bipush 6, 2) := by decide +kernel
theorem dX5_bring_28 : decode cX5_bring 28 = .ok (.iload_n 3, 1) := by decide +kernel
theorem dX5_bring_29 : decode cX5_bring 29 = .ok (.invokevirtual 227, 3) := by decide +kernel
theorem dX5_bring_32 : decode cX5_bring 32 = .ok (.aload_n 0, 1) := by decide +kernel
theorem dX5_bring_33 : decode cX5_bring 33 = .ok (.getfield 41, 3) := by decide +kernel
theorem dX5_bring_36 : decode cX5_bring 36 = .ok (.iload_n 1, 1) := by decide +kernel
theorem dX5_bring_37 : decode cX5_bring 37 = .ok (.invokevirtual 262, 3) := by decide +kernel
theorem dX5_bring_40 : decode cX5_bring 40 = .ok (.pop, 1) := by decide +kernel
theorem dX5_bring_41 : decode cX5_bring 41 = .ok (.iload_n 3, 1) := by decide +kernel
theorem dX5_bring_42 : decode cX5_bring 42 = .ok (.aload_n 0, 1) := by decide +kernel
theorem dX5_bring_43 : decode cX5_bring 43 = .ok (.iload_n 1, 1) := by decide +kernel
theorem dX5_bring_44 : decode cX5_bring 44 = .ok (.iconst 4, 1) := by decide +kernel
theorem dX5_bring_45 : decode cX5_bring 45 = .ok (.invokevirtual 231, 3) := by decide +kernel
theorem dX5_bring_48 : decode cX5_bring 48 = .ok (.isub, 1) := by decide +kernel
theorem dX5_bring_49 : decode cX5_bring 49 = .ok (.istore 4, 2) := by decide +kernel
theorem dX5_bring_51 : decode cX5_bring 51 = .ok (.aload_n 0, 1) := by decide +kernel
theorem dX5_bring_52 : decode cX5_bring 52 = .ok (.getfield 58, 3) := by decide +kernel
theorem dX5_bring_55 : decode cX5_bring 55 = .ok (.iload 4, 2) := by decide +kernel
theorem dX5_bring_57 : decode cX5_bring 57 = .ok (.aload_n 0, 1) := by decide +kernel
theorem dX5_bring_58 : decode cX5_bring 58 = .ok (.iload_n 1, 1) := by decide +kernel
theorem dX5_bring_59 : decode cX5_bring 59 = .ok (.iconst 2, 1) := by decide +kernel
theorem dX5_bring_60 : decode cX5_bring 60 = .ok (.invokevirtual 231, 3) := by decide +kernel
theorem dX5_bring_63 : decode cX5_bring 63 = .ok (.iconst 0, 1) := by decide +kernel
theorem dX5_bring_64 : decode cX5_bring 64 = .ok (.iconst 0, 1) := by decide +kernel
theorem dX5_bring_65 : decode cX5_bring 65 = .ok (.invokevirtual 177, 3) := by decide +kernel
theorem dX5_bring_68 : decode cX5_bring 68 = .ok (.istore 5, 2) := by decide +kernel
theorem dX5_bring_70 : decode cX5_bring 70 = .ok (.aload_n 0, 1) := by decide +kernel
theorem dX5_bring_71 : decode cX5_bring 71 = .ok (.ldc_w 265, 3) := by decide +kernel
theorem dX5_bring_74 : decode cX5_bring 74 = .ok (.aload_n 0, 1) := by decide +kernel
theorem dX5_bring_75 : decode cX5_bring 75 = .ok (.getfield 96, 3) := by decide +kernel
theorem dX5_bring_78 : decode cX5_bring 78 = .ok (.iload 5, 2) := by decide +kernel
theorem dX5_bring_80 : decode cX5_bring 80 = .ok (.iadd, 1) := by decide +kernel
theorem dX5_bring_81 : decode cX5_bring 81 = .ok (.invokestatic 266, 3) := by decide +kernel
theorem dX5_bring_84 : decode cX5_bring 84 = .ok (.putfield 96, 3) := by decide +kernel
theorem dX5_bring_87 : decode cX5_bring 87 = .ok (.return_, 1) := by decide +kernel
theorem dX5_fewestHours_0 : decode cX5_fewestHours 0 = .ok (.iconst 1, 1) := by decide +kernel
theorem dX5_fewestHours_1 : decode cX5_fewestHours 1 = .ok (.iload_n 1, 1) := by decide +kernel
theorem dX5_fewestHours_2 : decode cX5_fewestHours 2 = .ok (.ishl, 1) := by decide +kernel
theorem dX5_fewestHours_3 : decode cX5_fewestHours 3 = .ok (.istore 5, 2) := by decide +kernel
theorem dX5_fewestHours_5 : decode cX5_fewestHours 5 = .ok (.iconst 0, 1) := by decide +kernel
theorem dX5_fewestHours_6 : decode cX5_fewestHours 6 = .ok (.istore 6, 2) := by decide +kernel
theorem dX5_fewestHours_8 : decode cX5_fewestHours 8 = .ok (.iconst 0, 1) := by decide +kernel
theorem dX5_fewestHours_9 : decode cX5_fewestHours 9 = .ok (.istore 7, 2) := by decide +kernel
theorem dX5_fewestHours_11 : decode cX5_fewestHours 11 = .ok (.iload 7, 2) := by decide +kernel
theorem dX5_fewestHours_13 : decode cX5_fewestHours 13 = .ok (.iload 4, 2) := by decide +kernel
theorem dX5_fewestHours_15 : decode cX5_fewestHours 15 = .ok (.if_icmp .ge 67, 3) := by decide +kernel
theorem dX5_fewestHours_18 : decode cX5_fewestHours 18 = .ok (.iload 6, 2) := by decide +kernel
theorem dX5_fewestHours_20 : decode cX5_fewestHours 20 = .ok (.bipush 24, 2) := by decide +kernel
theorem dX5_fewestHours_22 : decode cX5_fewestHours 22 = .ok (.if_icmp .ge 60, 3) := by decide +kernel
theorem dX5_fewestHours_25 : decode cX5_fewestHours 25 = .ok (.aload_n 0, 1) := by decide +kernel
theorem dX5_fewestHours_26 : decode cX5_fewestHours 26 = .ok (.iload 5, 2) := by decide +kernel
theorem dX5_fewestHours_28 : decode cX5_fewestHours 28 = .ok (.iload_n 3, 1) := by decide +kernel
theorem dX5_fewestHours_29 : decode cX5_fewestHours 29 = .ok (.aload_n 0, 1) := by decide +kernel
theorem dX5_fewestHours_30 : decode cX5_fewestHours 30 = .ok (.getfield 93, 3) := by decide +kernel
theorem dX5_fewestHours_33 : decode cX5_fewestHours 33 = .ok (.iload 7, 2) := by decide +kernel
theorem dX5_fewestHours_35 : decode cX5_fewestHours 35 = .ok (.iadd, 1) := by decide +kernel
theorem dX5_fewestHours_36 : decode cX5_fewestHours 36 = .ok (.invokevirtual 269, 3) := by decide +kernel
theorem dX5_fewestHours_39 : decode cX5_fewestHours 39 = .ok (.istore 8, 2) := by decide +kernel
theorem dX5_fewestHours_41 : decode cX5_fewestHours 41 = .ok (.iload 8, 2) := by decide +kernel
theorem dX5_fewestHours_43 : decode cX5_fewestHours 43 = .ok (.iload_n 2, 1) := by decide +kernel
theorem dX5_fewestHours_44 : decode cX5_fewestHours 44 = .ok (.ishr, 1) := by decide +kernel
theorem dX5_fewestHours_45 : decode cX5_fewestHours 45 = .ok (.iconst 1, 1) := by decide +kernel
theorem dX5_fewestHours_46 : decode cX5_fewestHours 46 = .ok (.iand, 1) := by decide +kernel
theorem dX5_fewestHours_47 : decode cX5_fewestHours 47 = .ok (.ifCond .eq 8, 3) := by decide +kernel
theorem dX5_fewestHours_50 : decode cX5_fewestHours 50 = .ok (.iload 7, 2) := by decide +kernel
theorem dX5_fewestHours_52 : decode cX5_fewestHours 52 = .ok (.iconst 1, 1) := by decide +kernel
theorem dX5_fewestHours_53 : decode cX5_fewestHours 53 = .ok (.iadd, 1) := by decide +kernel
theorem dX5_fewestHours_54 : decode cX5_fewestHours 54 = .ok (.ireturn, 1) := by decide +kernel
theorem dX5_fewestHours_55 : decode cX5_fewestHours 55 = .ok (.iload 8, 2) := by decide +kernel
theorem dX5_fewestHours_57 : decode cX5_fewestHours 57 = .ok (.iload 5, 2) := by decide +kernel
theorem dX5_fewestHours_59 : decode cX5_fewestHours 59 = .ok (.if_icmp .ne 10, 3) := by decide +kernel
theorem dX5_fewestHours_62 : decode cX5_fewestHours 62 = .ok (.iload 6, 2) := by decide +kernel
theorem dX5_fewestHours_64 : decode cX5_fewestHours 64 = .ok (.iconst 1, 1) := by decide +kernel
theorem dX5_fewestHours_65 : decode cX5_fewestHours 65 = .ok (.iadd, 1) := by decide +kernel
theorem dX5_fewestHours_66 : decode cX5_fewestHours 66 = .ok (.goto 4, 3) := by decide +kernel
theorem dX5_fewestHours_69 : decode cX5_fewestHours 69 = .ok (.iconst 0, 1) := by decide +kernel
theorem dX5_fewestHours_70 : decode cX5_fewestHours 70 = .ok (.istore 6, 2) := by decide +kernel
theorem dX5_fewestHours_72 : decode cX5_fewestHours 72 = .ok (.iload 8, 2) := by decide +kernel
theorem dX5_fewestHours_74 : decode cX5_fewestHours 74 = .ok (.istore 5, 2) := by decide +kernel
theorem dX5_fewestHours_76 : decode cX5_fewestHours 76 = .ok (.iinc 7 1, 3) := by decide +kernel
theorem dX5_fewestHours_79 : decode cX5_fewestHours 79 = .ok (.goto (-68), 3) := by decide +kernel
theorem dX5_fewestHours_82 : decode cX5_fewestHours 82 = .ok (.iconst (-1), 1) := by decide +kernel
theorem dX5_fewestHours_83 : decode cX5_fewestHours 83 = .ok (.ireturn, 1) := by decide +kernel
theorem dX5_reachedBehind_0 : decode cX5_reachedBehind 0 = .ok (.iload_n 1, 1) := by decide +kernel
theorem dX5_reachedBehind_1 : decode cX5_reachedBehind 1 = .ok (.istore 4, 2) := by decide +kernel
theorem dX5_reachedBehind_3 : decode cX5_reachedBehind 3 = .ok (.iconst 0, 1) := by decide +kernel
theorem dX5_reachedBehind_4 : decode cX5_reachedBehind 4 = .ok (.istore 5, 2) := by decide +kernel
theorem dX5_reachedBehind_6 : decode cX5_reachedBehind 6 = .ok (.iload 5, 2) := by decide +kernel
theorem dX5_reachedBehind_8 : decode cX5_reachedBehind 8 = .ok (.aload_n 0, 1) := by decide +kernel
theorem dX5_reachedBehind_9 : decode cX5_reachedBehind 9 = .ok (.getfield 80, 3) := by decide +kernel
theorem dX5_reachedBehind_12 : decode cX5_reachedBehind 12 = .ok (.if_icmp .ge 87, 3) := by decide +kernel
theorem dX5_reachedBehind_15 : decode cX5_reachedBehind 15 = .ok (.aload_n 0, 1) := by decide +kernel
theorem dX5_reachedBehind_16 : decode cX5_reachedBehind 16 = .ok (.iload 5, 2) := by decide +kernel
theorem dX5_reachedBehind_18 : decode cX5_reachedBehind 18 = .ok (.invokevirtual 201, 3) := by decide +kernel
theorem dX5_reachedBehind_21 : decode cX5_reachedBehind 21 = .ok (.astore 6, 2) := by decide +kernel
theorem dX5_reachedBehind_23 : decode cX5_reachedBehind 23 = .ok (.aload 6, 2) := by decide +kernel
theorem dX5_reachedBehind_25 : decode cX5_reachedBehind 25 = .ok (.ifnull 68, 3) := by decide +kernel
theorem dX5_reachedBehind_28 : decode cX5_reachedBehind 28 = .ok (.iload_n 1, 1) := by decide +kernel
theorem dX5_reachedBehind_29 : decode cX5_reachedBehind 29 = .ok (.aload 6, 2) := by decide +kernel
theorem dX5_reachedBehind_31 : decode cX5_reachedBehind 31 = .ok (.getfield 157, 3) := by decide +kernel
theorem dX5_reachedBehind_34 : decode cX5_reachedBehind 34 = .ok (.ishr, 1) := by decide +kernel
theorem dX5_reachedBehind_35 : decode cX5_reachedBehind 35 = .ok (.iconst 1, 1) := by decide +kernel
theorem dX5_reachedBehind_36 : decode cX5_reachedBehind 36 = .ok (.iand, 1) := by decide +kernel
theorem dX5_reachedBehind_37 : decode cX5_reachedBehind 37 = .ok (.ifCond .ne 6, 3) := by decide +kernel
theorem dX5_reachedBehind_40 : decode cX5_reachedBehind 40 = .ok (.goto 53, 3) := by decide +kernel
theorem dX5_reachedBehind_43 : decode cX5_reachedBehind 43 = .ok (.iconst 0, 1) := by decide +kernel
theorem dX5_reachedBehind_44 : decode cX5_reachedBehind 44 = .ok (.istore 7, 2) := by decide +kernel
theorem dX5_reachedBehind_46 : decode cX5_reachedBehind 46 = .ok (.iload 7, 2) := by decide +kernel
theorem dX5_reachedBehind_48 : decode cX5_reachedBehind 48 = .ok (.aload_n 0, 1) := by decide +kernel
theorem dX5_reachedBehind_49 : decode cX5_reachedBehind 49 = .ok (.getfield 77, 3) := by decide +kernel
theorem dX5_reachedBehind_52 : decode cX5_reachedBehind 52 = .ok (.if_icmp .ge 41, 3) := by decide +kernel
theorem dX5_reachedBehind_55 : decode cX5_reachedBehind 55 = .ok (.iload 4, 2) := by decide +kernel
theorem dX5_reachedBehind_57 : decode cX5_reachedBehind 57 = .ok (.iload 7, 2) := by decide +kernel
theorem dX5_reachedBehind_59 : decode cX5_reachedBehind 59 = .ok (.ishr, 1) := by decide +kernel
theorem dX5_reachedBehind_60 : decode cX5_reachedBehind 60 = .ok (.iconst 1, 1) := by decide +kernel
theorem dX5_reachedBehind_61 : decode cX5_reachedBehind 61 = .ok (.iand, 1) := by decide +kernel
theorem dX5_reachedBehind_62 : decode cX5_reachedBehind 62 = .ok (.ifCond .ne 25, 3) := by decide +kernel
theorem dX5_reachedBehind_65 : decode cX5_reachedBehind 65 = .ok (.aload_n 0, 1) := by decide +kernel
theorem dX5_reachedBehind_66 : decode cX5_reachedBehind 66 = .ok (.aload 6, 2) := by decide +kernel
theorem dX5_reachedBehind_68 : decode cX5_reachedBehind 68 = .ok (.iload 7, 2) := by decide +kernel
theorem dX5_reachedBehind_70 : decode cX5_reachedBehind 70 = .ok (.iload_n 2, 1) := by decide +kernel
theorem dX5_reachedBehind_71 : decode cX5_reachedBehind 71 = .ok (.iload_n 3, 1) := by decide +kernel
theorem dX5_reachedBehind_72 : decode cX5_reachedBehind 72 = .ok (.invokevirtual 197, 3) := by decide +kernel
theorem dX5_reachedBehind_75 : decode cX5_reachedBehind 75 = .ok (.ifCond .eq 12, 3) := by decide +kernel
theorem dX5_reachedBehind_78 : decode cX5_reachedBehind 78 = .ok (.iload 4, 2) := by decide +kernel
theorem dX5_reachedBehind_80 : decode cX5_reachedBehind 80 = .ok (.iconst 1, 1) := by decide +kernel
theorem dX5_reachedBehind_81 : decode cX5_reachedBehind 81 = .ok (.iload 7, 2) := by decide +kernel
theorem dX5_reachedBehind_83 : decode cX5_reachedBehind 83 = .ok (.ishl, 1) := by decide +kernel
theorem dX5_reachedBehind_84 : decode cX5_reachedBehind 84 = .ok (.ior, 1) := by decide +kernel
theorem dX5_reachedBehind_85 : decode cX5_reachedBehind 85 = .ok (.istore 4, 2) := by decide +kernel
theorem dX5_reachedBehind_87 : decode cX5_reachedBehind 87 = .ok (.iinc 7 1, 3) := by decide +kernel
theorem dX5_reachedBehind_90 : decode cX5_reachedBehind 90 = .ok (.goto (-44), 3) := by decide +kernel
theorem dX5_reachedBehind_93 : decode cX5_reachedBehind 93 = .ok (.iinc 5 1, 3) := by decide +kernel
theorem dX5_reachedBehind_96 : decode cX5_reachedBehind 96 = .ok (.goto (-90), 3) := by decide +kernel
theorem dX5_reachedBehind_99 : decode cX5_reachedBehind 99 = .ok (.iload 4, 2) := by decide +kernel
theorem dX5_reachedBehind_101 : decode cX5_reachedBehind 101 = .ok (.ireturn, 1) := by decide +kernel
theorem dX5_firstBeforeQuestion_0 : decode cX5_firstBeforeQuestion 0 = .ok (.iconst 0, 1) := by decide +kernel
theorem dX5_firstBeforeQuestion_1 : decode cX5_firstBeforeQuestion 1 = .ok (.istore_n 1, 1) := by decide +kernel
theorem dX5_firstBeforeQuestion_2 : decode cX5_firstBeforeQuestion 2 = .ok (.iconst 0, 1) := by decide +kernel
theorem dX5_firstBeforeQuestion_3 : decode cX5_firstBeforeQuestion 3 = .ok (.istore_n 2, 1) := by decide +kernel
theorem dX5_firstBeforeQuestion_4 : decode cX5_firstBeforeQuestion 4 = .ok (.iload_n 2, 1) := by decide +kernel
theorem dX5_firstBeforeQuestion_5 : decode cX5_firstBeforeQuestion 5 = .ok (.aload_n 0, 1) := by decide +kernel
theorem dX5_firstBeforeQuestion_6 : decode cX5_firstBeforeQuestion 6 = .ok (.getfield 41, 3) := by decide +kernel
theorem dX5_firstBeforeQuestion_9 : decode cX5_firstBeforeQuestion 9 = .ok (.getfield 241, 3) := by decide +kernel
theorem dX5_firstBeforeQuestion_12 : decode cX5_firstBeforeQuestion 12 = .ok (.if_icmp .ge 48, 3) := by decide +kernel
theorem dX5_firstBeforeQuestion_15 : decode cX5_firstBeforeQuestion 15 = .ok (.aload_n 0, 1) := by decide +kernel
theorem dX5_firstBeforeQuestion_16 : decode cX5_firstBeforeQuestion 16 = .ok (.getfield 41, 3) := by decide +kernel
theorem dX5_firstBeforeQuestion_19 : decode cX5_firstBeforeQuestion 19 = .ok (.iload_n 2, 1) := by decide +kernel
theorem dX5_firstBeforeQuestion_20 : decode cX5_firstBeforeQuestion 20 = .ok (.invokevirtual 272, 3) := by decide +kernel
theorem dX5_firstBeforeQuestion_23 : decode cX5_firstBeforeQuestion 23 = .ok (.istore_n 3, 1) := by decide +kernel
theorem dX5_firstBeforeQuestion_24 : decode cX5_firstBeforeQuestion 24 = .ok (.aload_n 0, 1) := by decide +kernel
theorem dX5_firstBeforeQuestion_25 : decode cX5_firstBeforeQuestion 25 = .ok (.iload_n 3, 1) := by decide +kernel
theorem dX5_firstBeforeQuestion_26 : decode cX5_firstBeforeQuestion 26 = .ok (.iconst 3, 1) := by decide +kernel
theorem dX5_firstBeforeQuestion_27 : decode cX5_firstBeforeQuestion 27 = .ok (.invokevirtual 231, 3) := by decide +kernel
theorem dX5_firstBeforeQuestion_30 : decode cX5_firstBeforeQuestion 30 = .ok (.istore 4, 2) := by decide +kernel
theorem dX5_firstBeforeQuestion_32 : decode cX5_firstBeforeQuestion 32 = .ok (.iload 4, 2) := by decide +kernel
theorem dX5_firstBeforeQuestion_34 : decode cX5_firstBeforeQuestion 34 = .ok (.ifCond .lt 14, 3) := by decide +kernel
theorem dX5_firstBeforeQuestion_37 : decode cX5_firstBeforeQuestion 37 = .ok (.iload_n 1, 1) := by decide +kernel
theorem dX5_firstBeforeQuestion_38 : decode cX5_firstBeforeQuestion 38 = .ok (.iload 4, 2) := by decide +kernel
theorem dX5_firstBeforeQuestion_40 : decode cX5_firstBeforeQuestion 40 = .ok (.ishr, 1) := by decide +kernel
theorem dX5_firstBeforeQuestion_41 : decode cX5_firstBeforeQuestion 41 = .ok (.iconst 1, 1) := by decide +kernel
theorem dX5_firstBeforeQuestion_42 : decode cX5_firstBeforeQuestion 42 = .ok (.iand, 1) := by decide +kernel
theorem dX5_firstBeforeQuestion_43 : decode cX5_firstBeforeQuestion 43 = .ok (.ifCond .ne 5, 3) := by decide +kernel
theorem dX5_firstBeforeQuestion_46 : decode cX5_firstBeforeQuestion 46 = .ok (.iload_n 3, 1) := by decide +kernel
theorem dX5_firstBeforeQuestion_47 : decode cX5_firstBeforeQuestion 47 = .ok (.ireturn, 1) := by decide +kernel
theorem dX5_firstBeforeQuestion_48 : decode cX5_firstBeforeQuestion 48 = .ok (.iload_n 1, 1) := by decide +kernel
theorem dX5_firstBeforeQuestion_49 : decode cX5_firstBeforeQuestion 49 = .ok (.iconst 1, 1) := by decide +kernel
theorem dX5_firstBeforeQuestion_50 : decode cX5_firstBeforeQuestion 50 = .ok (.iload_n 3, 1) := by decide +kernel
theorem dX5_firstBeforeQuestion_51 : decode cX5_firstBeforeQuestion 51 = .ok (.ishl, 1) := by decide +kernel
theorem dX5_firstBeforeQuestion_52 : decode cX5_firstBeforeQuestion 52 = .ok (.ior, 1) := by decide +kernel
theorem dX5_firstBeforeQuestion_53 : decode cX5_firstBeforeQuestion 53 = .ok (.istore_n 1, 1) := by decide +kernel
theorem dX5_firstBeforeQuestion_54 : decode cX5_firstBeforeQuestion 54 = .ok (.iinc 2 1, 3) := by decide +kernel
theorem dX5_firstBeforeQuestion_57 : decode cX5_firstBeforeQuestion 57 = .ok (.goto (-53), 3) := by decide +kernel
theorem dX5_firstBeforeQuestion_60 : decode cX5_firstBeforeQuestion 60 = .ok (.iconst (-1), 1) := by decide +kernel
theorem dX5_firstBeforeQuestion_61 : decode cX5_firstBeforeQuestion 61 = .ok (.ireturn, 1) := by decide +kernel
theorem dX5_mendedAt_0 : decode cX5_mendedAt 0 = .ok (.iconst 0, 1) := by decide +kernel
theorem dX5_mendedAt_1 : decode cX5_mendedAt 1 = .ok (.istore_n 2, 1) := by decide +kernel
theorem dX5_mendedAt_2 : decode cX5_mendedAt 2 = .ok (.iconst (-1), 1) := by decide +kernel
theorem dX5_mendedAt_3 : decode cX5_mendedAt 3 = .ok (.istore_n 3, 1) := by decide +kernel
theorem dX5_mendedAt_4 : decode cX5_mendedAt 4 = .ok (.iconst 0, 1) := by decide +kernel
theorem dX5_mendedAt_5 : decode cX5_mendedAt 5 = .ok (.istore 4, 2) := by decide +kernel
theorem dX5_mendedAt_7 : decode cX5_mendedAt 7 = .ok (.iload 4, 2) := by decide +kernel
theorem dX5_mendedAt_9 : decode cX5_mendedAt 9 = .ok (.iload_n 1, 1) := by decide +kernel
theorem dX5_mendedAt_10 : decode cX5_mendedAt 10 = .ok (.if_icmp .gt 37, 3) := by decide +kernel
theorem dX5_mendedAt_13 : decode cX5_mendedAt 13 = .ok (.iload 4, 2) := by decide +kernel
theorem dX5_mendedAt_15 : decode cX5_mendedAt 15 = .ok (.aload_n 0, 1) := by decide +kernel
theorem dX5_mendedAt_16 : decode cX5_mendedAt 16 = .ok (.getfield 41, 3) := by decide +kernel
theorem dX5_mendedAt_19 : decode cX5_mendedAt 19 = .ok (.getfield 241, 3) := by decide +kernel
theorem dX5_mendedAt_22 : decode cX5_mendedAt 22 = .ok (.if_icmp .ge 25, 3) := by decide +kernel
theorem dX5_mendedAt_25 : decode cX5_mendedAt 25 = .ok (.aload_n 0, 1) := by decide +kernel
theorem dX5_mendedAt_26 : decode cX5_mendedAt 26 = .ok (.iload_n 2, 1) := by decide +kernel
theorem dX5_mendedAt_27 : decode cX5_mendedAt 27 = .ok (.invokevirtual 275, 3) := by decide +kernel
theorem dX5_mendedAt_30 : decode cX5_mendedAt 30 = .ok (.istore_n 3, 1) := by decide +kernel
theorem dX5_mendedAt_31 : decode cX5_mendedAt 31 = .ok (.iload_n 3, 1) := by decide +kernel
theorem dX5_mendedAt_32 : decode cX5_mendedAt 32 = .ok (.ifCond .lt 9, 3) := by decide +kernel
theorem dX5_mendedAt_35 : decode cX5_mendedAt 35 = .ok (.iload_n 2, 1) := by decide +kernel
theorem dX5_mendedAt_36 : decode cX5_mendedAt 36 = .ok (.iconst 1, 1) := by decide +kernel
theorem dX5_mendedAt_37 : decode cX5_mendedAt 37 = .ok (.iload_n 3, 1) := by decide +kernel
theorem dX5_mendedAt_38 : decode cX5_mendedAt 38 = .ok (.ishl, 1) := by decide +kernel
theorem dX5_mendedAt_39 : decode cX5_mendedAt 39 = .ok (.ior, 1) := by decide +kernel
theorem dX5_mendedAt_40 : decode cX5_mendedAt 40 = .ok (.istore_n 2, 1) := by decide +kernel
theorem dX5_mendedAt_41 : decode cX5_mendedAt 41 = .ok (.iinc 4 1, 3) := by decide +kernel
theorem dX5_mendedAt_44 : decode cX5_mendedAt 44 = .ok (.goto (-37), 3) := by decide +kernel
theorem dX5_mendedAt_47 : decode cX5_mendedAt 47 = .ok (.iload_n 3, 1) := by decide +kernel
theorem dX5_mendedAt_48 : decode cX5_mendedAt 48 = .ok (.ireturn, 1) := by decide +kernel
theorem dX5_firstThatCanBe_0 : decode cX5_firstThatCanBe 0 = .ok (.iconst 0, 1) := by decide +kernel
theorem dX5_firstThatCanBe_1 : decode cX5_firstThatCanBe 1 = .ok (.istore_n 2, 1) := by decide +kernel
theorem dX5_firstThatCanBe_2 : decode cX5_firstThatCanBe 2 = .ok (.iload_n 2, 1) := by decide +kernel
theorem dX5_firstThatCanBe_3 : decode cX5_firstThatCanBe 3 = .ok (.aload_n 0, 1) := by decide +kernel
theorem dX5_firstThatCanBe_4 : decode cX5_firstThatCanBe 4 = .ok (.getfield 41, 3) := by decide +kernel
theorem dX5_firstThatCanBe_7 : decode cX5_firstThatCanBe 7 = .ok (.getfield 241, 3) := by decide +kernel
theorem dX5_firstThatCanBe_10 : decode cX5_firstThatCanBe 10 = .ok (.if_icmp .ge 73, 3) := by decide +kernel
theorem dX5_firstThatCanBe_13 : decode cX5_firstThatCanBe 13 = .ok (.aload_n 0, 1) := by decide +kernel
theorem dX5_firstThatCanBe_14 : decode cX5_firstThatCanBe 14 = .ok (.getfield 41, 3) := by decide +kernel
theorem dX5_firstThatCanBe_17 : decode cX5_firstThatCanBe 17 = .ok (.iload_n 2, 1) := by decide +kernel
theorem dX5_firstThatCanBe_18 : decode cX5_firstThatCanBe 18 = .ok (.invokevirtual 272, 3) := by decide +kernel
theorem dX5_firstThatCanBe_21 : decode cX5_firstThatCanBe 21 = .ok (.istore_n 3, 1) := by decide +kernel
theorem dX5_firstThatCanBe_22 : decode cX5_firstThatCanBe 22 = .ok (.aload_n 0, 1) := by decide +kernel
theorem dX5_firstThatCanBe_23 : decode cX5_firstThatCanBe 23 = .ok (.iload_n 3, 1) := by decide +kernel
theorem dX5_firstThatCanBe_24 : decode cX5_firstThatCanBe 24 = .ok (.iconst 3, 1) := by decide +kernel
theorem dX5_firstThatCanBe_25 : decode cX5_firstThatCanBe 25 = .ok (.invokevirtual 231, 3) := by decide +kernel
theorem dX5_firstThatCanBe_28 : decode cX5_firstThatCanBe 28 = .ok (.istore 4, 2) := by decide +kernel
theorem dX5_firstThatCanBe_30 : decode cX5_firstThatCanBe 30 = .ok (.iload 4, 2) := by decide +kernel
theorem dX5_firstThatCanBe_32 : decode cX5_firstThatCanBe 32 = .ok (.ifCond .lt 23, 3) := by decide +kernel
theorem dX5_firstThatCanBe_35 : decode cX5_firstThatCanBe 35 = .ok (.aload_n 0, 1) := by decide +kernel
theorem dX5_firstThatCanBe_36 : decode cX5_firstThatCanBe 36 = .ok (.iload 4, 2) := by decide +kernel
theorem dX5_firstThatCanBe_38 : decode cX5_firstThatCanBe 38 = .ok (.bipush 6, 2) := by decide +kernel
theorem dX5_firstThatCanBe_40 : decode cX5_firstThatCanBe 40 = .ok (.invokevirtual 231, 3) := by decide +kernel
theorem dX5_firstThatCanBe_43 : decode cX5_firstThatCanBe 43 = .ok (.ifCond .lt 12, 3) := by decide +kernel
theorem dX5_firstThatCanBe_46 : decode cX5_firstThatCanBe 46 = .ok (.iload_n 1, 1) := by decide +kernel
theorem dX5_firstThatCanBe_47 : decode cX5_firstThatCanBe 47 = .ok (.iload 4, 2) := by decide +kernel
theorem dX5_firstThatCanBe_49 : decode cX5_firstThatCanBe 49 = .ok (.ishr, 1) := by decide +kernel
theorem dX5_firstThatCanBe_50 : decode cX5_firstThatCanBe 50 = .ok (.iconst 1, 1) := by decide +kernel
theorem dX5_firstThatCanBe_51 : decode cX5_firstThatCanBe 51 = .ok (.iand, 1) := by decide +kernel
theorem dX5_firstThatCanBe_52 : decode cX5_firstThatCanBe 52 = .ok (.ifCond .eq 7, 3) := by decide +kernel
theorem dX5_firstThatCanBe_55 : decode cX5_firstThatCanBe 55 = .ok (.iconst 1, 1) := by decide +kernel
theorem dX5_firstThatCanBe_56 : decode cX5_firstThatCanBe 56 = .ok (.goto 4, 3) := by decide +kernel
theorem dX5_firstThatCanBe_59 : decode cX5_firstThatCanBe 59 = .ok (.iconst 0, 1) := by decide +kernel
theorem dX5_firstThatCanBe_60 : decode cX5_firstThatCanBe 60 = .ok (.istore 5, 2) := by decide +kernel
theorem dX5_firstThatCanBe_62 : decode cX5_firstThatCanBe 62 = .ok (.iload 5, 2) := by decide +kernel
theorem dX5_firstThatCanBe_64 : decode cX5_firstThatCanBe 64 = .ok (.ifCond .eq 13, 3) := by decide +kernel
theorem dX5_firstThatCanBe_67 : decode cX5_firstThatCanBe 67 = .ok (.iload_n 1, 1) := by decide +kernel
theorem dX5_firstThatCanBe_68 : decode cX5_firstThatCanBe 68 = .ok (.iload_n 3, 1) := by decide +kernel
theorem dX5_firstThatCanBe_69 : decode cX5_firstThatCanBe 69 = .ok (.ishr, 1) := by decide +kernel
theorem dX5_firstThatCanBe_70 : decode cX5_firstThatCanBe 70 = .ok (.iconst 1, 1) := by decide +kernel
theorem dX5_firstThatCanBe_71 : decode cX5_firstThatCanBe 71 = .ok (.iand, 1) := by decide +kernel
theorem dX5_firstThatCanBe_72 : decode cX5_firstThatCanBe 72 = .ok (.ifCond .ne 5, 3) := by decide +kernel
theorem dX5_firstThatCanBe_75 : decode cX5_firstThatCanBe 75 = .ok (.iload_n 3, 1) := by decide +kernel
theorem dX5_firstThatCanBe_76 : decode cX5_firstThatCanBe 76 = .ok (.ireturn, 1) := by decide +kernel
theorem dX5_firstThatCanBe_77 : decode cX5_firstThatCanBe 77 = .ok (.iinc 2 1, 3) := by decide +kernel
theorem dX5_firstThatCanBe_80 : decode cX5_firstThatCanBe 80 = .ok (.goto (-78), 3) := by decide +kernel
theorem dX5_firstThatCanBe_83 : decode cX5_firstThatCanBe 83 = .ok (.iconst (-1), 1) := by decide +kernel
theorem dX5_firstThatCanBe_84 : decode cX5_firstThatCanBe 84 = .ok (.ireturn, 1) := by decide +kernel
