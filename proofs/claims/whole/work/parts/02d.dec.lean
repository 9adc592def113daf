theorem d_Mod_init_0 : decode b_Mod_init 0 = .ok (.aload_n 0, 1) := by decide +kernel
theorem d_Mod_init_1 : decode b_Mod_init 1 = .ok (.invokespecial 1, 3) := by decide +kernel
theorem d_Mod_init_4 : decode b_Mod_init 4 = .ok (.aload_n 0, 1) := by decide +kernel
theorem d_Mod_init_5 : decode b_Mod_init 5 = .ok (.sipush 400, 3) := by decide +kernel
theorem d_Mod_init_8 : decode b_Mod_init 8 = .ok (.newarray .byte, 2) := by decide +kernel
theorem d_Mod_init_10 : decode b_Mod_init 10 = .ok (.putfield 7, 3) := by decide +kernel
theorem d_Mod_init_13 : decode b_Mod_init 13 = .ok (.aload_n 0, 1) := by decide +kernel
theorem d_Mod_init_14 : decode b_Mod_init 14 = .ok (.bipush 32, 2) := by decide +kernel
theorem d_Mod_init_16 : decode b_Mod_init 16 = .ok (.newarray .byte, 2) := by decide +kernel
theorem d_Mod_init_18 : decode b_Mod_init 18 = .ok (.putfield 13, 3) := by decide +kernel
theorem d_Mod_init_21 : decode b_Mod_init 21 = .ok (.aload_n 0, 1) := by decide +kernel
theorem d_Mod_init_22 : decode b_Mod_init 22 = .ok (.sipush 160, 3) := by decide +kernel
theorem d_Mod_init_25 : decode b_Mod_init 25 = .ok (.newarray .byte, 2) := by decide +kernel
theorem d_Mod_init_27 : decode b_Mod_init 27 = .ok (.putfield 16, 3) := by decide +kernel
theorem d_Mod_init_30 : decode b_Mod_init 30 = .ok (.aload_n 0, 1) := by decide +kernel
theorem d_Mod_init_31 : decode b_Mod_init 31 = .ok (.iconst 2, 1) := by decide +kernel
theorem d_Mod_init_32 : decode b_Mod_init 32 = .ok (.newarray .int, 2) := by decide +kernel
theorem d_Mod_init_34 : decode b_Mod_init 34 = .ok (.putfield 19, 3) := by decide +kernel
theorem d_Mod_init_37 : decode b_Mod_init 37 = .ok (.aload_n 0, 1) := by decide +kernel
theorem d_Mod_init_38 : decode b_Mod_init 38 = .ok (.bipush 32, 2) := by decide +kernel
theorem d_Mod_init_40 : decode b_Mod_init 40 = .ok (.newarray .byte, 2) := by decide +kernel
theorem d_Mod_init_42 : decode b_Mod_init 42 = .ok (.putfield 23, 3) := by decide +kernel
theorem d_Mod_init_45 : decode b_Mod_init 45 = .ok (.aload_n 0, 1) := by decide +kernel
theorem d_Mod_init_46 : decode b_Mod_init 46 = .ok (.bipush 64, 2) := by decide +kernel
theorem d_Mod_init_48 : decode b_Mod_init 48 = .ok (.newarray .int, 2) := by decide +kernel
theorem d_Mod_init_50 : decode b_Mod_init 50 = .ok (.putfield 26, 3) := by decide +kernel
theorem d_Mod_init_53 : decode b_Mod_init 53 = .ok (.aload_n 0, 1) := by decide +kernel
theorem d_Mod_init_54 : decode b_Mod_init 54 = .ok (.bipush 8, 2) := by decide +kernel
theorem d_Mod_init_56 : decode b_Mod_init 56 = .ok (.newarray .int, 2) := by decide +kernel
theorem d_Mod_init_58 : decode b_Mod_init 58 = .ok (.putfield 29, 3) := by decide +kernel
theorem d_Mod_init_61 : decode b_Mod_init 61 = .ok (.aload_n 0, 1) := by decide +kernel
theorem d_Mod_init_62 : decode b_Mod_init 62 = .ok (.bipush 32, 2) := by decide +kernel
theorem d_Mod_init_64 : decode b_Mod_init 64 = .ok (.newarray .byte, 2) := by decide +kernel
theorem d_Mod_init_66 : decode b_Mod_init 66 = .ok (.putfield 32, 3) := by decide +kernel
theorem d_Mod_init_69 : decode b_Mod_init 69 = .ok (.aload_n 0, 1) := by decide +kernel
theorem d_Mod_init_70 : decode b_Mod_init 70 = .ok (.bipush 32, 2) := by decide +kernel
theorem d_Mod_init_72 : decode b_Mod_init 72 = .ok (.newarray .byte, 2) := by decide +kernel
theorem d_Mod_init_74 : decode b_Mod_init 74 = .ok (.putfield 35, 3) := by decide +kernel
theorem d_Mod_init_77 : decode b_Mod_init 77 = .ok (.aload_n 0, 1) := by decide +kernel
theorem d_Mod_init_78 : decode b_Mod_init 78 = .ok (.sipush 512, 3) := by decide +kernel
theorem d_Mod_init_81 : decode b_Mod_init 81 = .ok (.newarray .byte, 2) := by decide +kernel
theorem d_Mod_init_83 : decode b_Mod_init 83 = .ok (.putfield 38, 3) := by decide +kernel
theorem d_Mod_init_86 : decode b_Mod_init 86 = .ok (.aload_n 0, 1) := by decide +kernel
theorem d_Mod_init_87 : decode b_Mod_init 87 = .ok (.sipush 1920, 3) := by decide +kernel
theorem d_Mod_init_90 : decode b_Mod_init 90 = .ok (.newarray .byte, 2) := by decide +kernel
theorem d_Mod_init_92 : decode b_Mod_init 92 = .ok (.putfield 41, 3) := by decide +kernel
theorem d_Mod_init_95 : decode b_Mod_init 95 = .ok (.aload_n 0, 1) := by decide +kernel
theorem d_Mod_init_96 : decode b_Mod_init 96 = .ok (.bipush 24, 2) := by decide +kernel
theorem d_Mod_init_98 : decode b_Mod_init 98 = .ok (.newarray .int, 2) := by decide +kernel
theorem d_Mod_init_100 : decode b_Mod_init 100 = .ok (.putfield 44, 3) := by decide +kernel
theorem d_Mod_init_103 : decode b_Mod_init 103 = .ok (.aload_n 0, 1) := by decide +kernel
theorem d_Mod_init_104 : decode b_Mod_init 104 = .ok (.bipush 100, 2) := by decide +kernel
theorem d_Mod_init_106 : decode b_Mod_init 106 = .ok (.newarray .boolean, 2) := by decide +kernel
theorem d_Mod_init_108 : decode b_Mod_init 108 = .ok (.putfield 47, 3) := by decide +kernel
theorem d_Mod_init_111 : decode b_Mod_init 111 = .ok (.return_, 1) := by decide +kernel
theorem d_Mod_round_0 : decode b_Mod_round 0 = .ok (.bipush 16, 2) := by decide +kernel
theorem d_Mod_round_2 : decode b_Mod_round 2 = .ok (.istore_n 1, 1) := by decide +kernel
theorem d_Mod_round_3 : decode b_Mod_round 3 = .ok (.iload_n 1, 1) := by decide +kernel
theorem d_Mod_round_4 : decode b_Mod_round 4 = .ok (.bipush 64, 2) := by decide +kernel
theorem d_Mod_round_6 : decode b_Mod_round 6 = .ok (.if_icmp .ge 110, 3) := by decide +kernel
theorem d_Mod_round_9 : decode b_Mod_round 9 = .ok (.aload_n 0, 1) := by decide +kernel
theorem d_Mod_round_10 : decode b_Mod_round 10 = .ok (.getfield 26, 3) := by decide +kernel
theorem d_Mod_round_13 : decode b_Mod_round 13 = .ok (.iload_n 1, 1) := by decide +kernel
theorem d_Mod_round_14 : decode b_Mod_round 14 = .ok (.bipush 15, 2) := by decide +kernel
theorem d_Mod_round_16 : decode b_Mod_round 16 = .ok (.isub, 1) := by decide +kernel
theorem d_Mod_round_17 : decode b_Mod_round 17 = .ok (.iaload, 1) := by decide +kernel
theorem d_Mod_round_18 : decode b_Mod_round 18 = .ok (.istore_n 2, 1) := by decide +kernel
theorem d_Mod_round_19 : decode b_Mod_round 19 = .ok (.aload_n 0, 1) := by decide +kernel
theorem d_Mod_round_20 : decode b_Mod_round 20 = .ok (.getfield 26, 3) := by decide +kernel
theorem d_Mod_round_23 : decode b_Mod_round 23 = .ok (.iload_n 1, 1) := by decide +kernel
theorem d_Mod_round_24 : decode b_Mod_round 24 = .ok (.iconst 2, 1) := by decide +kernel
theorem d_Mod_round_25 : decode b_Mod_round 25 = .ok (.isub, 1) := by decide +kernel
theorem d_Mod_round_26 : decode b_Mod_round 26 = .ok (.iaload, 1) := by decide +kernel
theorem d_Mod_round_27 : decode b_Mod_round 27 = .ok (.istore_n 3, 1) := by decide +kernel
theorem d_Mod_round_28 : decode b_Mod_round 28 = .ok (.iload_n 2, 1) := by decide +kernel
theorem d_Mod_round_29 : decode b_Mod_round 29 = .ok (.bipush 7, 2) := by decide +kernel
theorem d_Mod_round_31 : decode b_Mod_round 31 = .ok (.iushr, 1) := by decide +kernel
theorem d_Mod_round_32 : decode b_Mod_round 32 = .ok (.iload_n 2, 1) := by decide +kernel
theorem d_Mod_round_33 : decode b_Mod_round 33 = .ok (.bipush 25, 2) := by decide +kernel
theorem d_Mod_round_35 : decode b_Mod_round 35 = .ok (.ishl, 1) := by decide +kernel
theorem d_Mod_round_36 : decode b_Mod_round 36 = .ok (.ior, 1) := by decide +kernel
theorem d_Mod_round_37 : decode b_Mod_round 37 = .ok (.iload_n 2, 1) := by decide +kernel
theorem d_Mod_round_38 : decode b_Mod_round 38 = .ok (.bipush 18, 2) := by decide +kernel
theorem d_Mod_round_40 : decode b_Mod_round 40 = .ok (.iushr, 1) := by decide +kernel
theorem d_Mod_round_41 : decode b_Mod_round 41 = .ok (.iload_n 2, 1) := by decide +kernel
theorem d_Mod_round_42 : decode b_Mod_round 42 = .ok (.bipush 14, 2) := by decide +kernel
theorem d_Mod_round_44 : decode b_Mod_round 44 = .ok (.ishl, 1) := by decide +kernel
theorem d_Mod_round_45 : decode b_Mod_round 45 = .ok (.ior, 1) := by decide +kernel
theorem d_Mod_round_46 : decode b_Mod_round 46 = .ok (.ixor, 1) := by decide +kernel
theorem d_Mod_round_47 : decode b_Mod_round 47 = .ok (.iload_n 2, 1) := by decide +kernel
theorem d_Mod_round_48 : decode b_Mod_round 48 = .ok (.iconst 3, 1) := by decide +kernel
theorem d_Mod_round_49 : decode b_Mod_round 49 = .ok (.iushr, 1) := by decide +kernel
theorem d_Mod_round_50 : decode b_Mod_round 50 = .ok (.ixor, 1) := by decide +kernel
theorem d_Mod_round_51 : decode b_Mod_round 51 = .ok (.istore 4, 2) := by decide +kernel
theorem d_Mod_round_53 : decode b_Mod_round 53 = .ok (.iload_n 3, 1) := by decide +kernel
theorem d_Mod_round_54 : decode b_Mod_round 54 = .ok (.bipush 17, 2) := by decide +kernel
theorem d_Mod_round_56 : decode b_Mod_round 56 = .ok (.iushr, 1) := by decide +kernel
theorem d_Mod_round_57 : decode b_Mod_round 57 = .ok (.iload_n 3, 1) := by decide +kernel
theorem d_Mod_round_58 : decode b_Mod_round 58 = .ok (.bipush 15, 2) := by decide +kernel
theorem d_Mod_round_60 : decode b_Mod_round 60 = .ok (.ishl, 1) := by decide +kernel
theorem d_Mod_round_61 : decode b_Mod_round 61 = .ok (.ior, 1) := by decide +kernel
theorem d_Mod_round_62 : decode b_Mod_round 62 = .ok (.iload_n 3, 1) := by decide +kernel
theorem d_Mod_round_63 : decode b_Mod_round 63 = .ok (.bipush 19, 2) := by decide +kernel
theorem d_Mod_round_65 : decode b_Mod_round 65 = .ok (.iushr, 1) := by decide +kernel
theorem d_Mod_round_66 : decode b_Mod_round 66 = .ok (.iload_n 3, 1) := by decide +kernel
theorem d_Mod_round_67 : decode b_Mod_round 67 = .ok (.bipush 13, 2) := by decide +kernel
theorem d_Mod_round_69 : decode b_Mod_round 69 = .ok (.ishl, 1) := by decide +kernel
theorem d_Mod_round_70 : decode b_Mod_round 70 = .ok (.ior, 1) := by decide +kernel
theorem d_Mod_round_71 : decode b_Mod_round 71 = .ok (.ixor, 1) := by decide +kernel
theorem d_Mod_round_72 : decode b_Mod_round 72 = .ok (.iload_n 3, 1) := by decide +kernel
theorem d_Mod_round_73 : decode b_Mod_round 73 = .ok (.bipush 10, 2) := by decide +kernel
theorem d_Mod_round_75 : decode b_Mod_round 75 = .ok (.iushr, 1) := by decide +kernel
theorem d_Mod_round_76 : decode b_Mod_round 76 = .ok (.ixor, 1) := by decide +kernel
theorem d_Mod_round_77 : decode b_Mod_round 77 = .ok (.istore 5, 2) := by decide +kernel
theorem d_Mod_round_79 : decode b_Mod_round 79 = .ok (.aload_n 0, 1) := by decide +kernel
theorem d_Mod_round_80 : decode b_Mod_round 80 = .ok (.getfield 26, 3) := by decide +kernel
theorem d_Mod_round_83 : decode b_Mod_round 83 = .ok (.iload_n 1, 1) := by decide +kernel
theorem d_Mod_round_84 : decode b_Mod_round 84 = .ok (.aload_n 0, 1) := by decide +kernel
theorem d_Mod_round_85 : decode b_Mod_round 85 = .ok (.getfield 26, 3) := by decide +kernel
theorem d_Mod_round_88 : decode b_Mod_round 88 = .ok (.iload_n 1, 1) := by decide +kernel
theorem d_Mod_round_89 : decode b_Mod_round 89 = .ok (.bipush 16, 2) := by decide +kernel
theorem d_Mod_round_91 : decode b_Mod_round 91 = .ok (.isub, 1) := by decide +kernel
theorem d_Mod_round_92 : decode b_Mod_round 92 = .ok (.iaload, 1) := by decide +kernel
theorem d_Mod_round_93 : decode b_Mod_round 93 = .ok (.iload 4, 2) := by decide +kernel
theorem d_Mod_round_95 : decode b_Mod_round 95 = .ok (.iadd, 1) := by decide +kernel
theorem d_Mod_round_96 : decode b_Mod_round 96 = .ok (.aload_n 0, 1) := by decide +kernel
theorem d_Mod_round_97 : decode b_Mod_round 97 = .ok (.getfield 26, 3) := by decide +kernel
theorem d_Mod_round_100 : decode b_Mod_round 100 = .ok (.iload_n 1, 1) := by decide +kernel
theorem d_Mod_round_101 : decode b_Mod_round 101 = .ok (.bipush 7, 2) := by decide +kernel
theorem d_Mod_round_103 : decode b_Mod_round 103 = .ok (.isub, 1) := by decide +kernel
theorem d_Mod_round_104 : decode b_Mod_round 104 = .ok (.iaload, 1) := by decide +kernel
theorem d_Mod_round_105 : decode b_Mod_round 105 = .ok (.iadd, 1) := by decide +kernel
theorem d_Mod_round_106 : decode b_Mod_round 106 = .ok (.iload 5, 2) := by decide +kernel
theorem d_Mod_round_108 : decode b_Mod_round 108 = .ok (.iadd, 1) := by decide +kernel
theorem d_Mod_round_109 : decode b_Mod_round 109 = .ok (.iastore, 1) := by decide +kernel
theorem d_Mod_round_110 : decode b_Mod_round 110 = .ok (.iinc 1 1, 3) := by decide +kernel
theorem d_Mod_round_113 : decode b_Mod_round 113 = .ok (.goto (-110), 3) := by decide +kernel
theorem d_Mod_round_116 : decode b_Mod_round 116 = .ok (.aload_n 0, 1) := by decide +kernel
theorem d_Mod_round_117 : decode b_Mod_round 117 = .ok (.getfield 29, 3) := by decide +kernel
theorem d_Mod_round_120 : decode b_Mod_round 120 = .ok (.iconst 0, 1) := by decide +kernel
theorem d_Mod_round_121 : decode b_Mod_round 121 = .ok (.iaload, 1) := by decide +kernel
theorem d_Mod_round_122 : decode b_Mod_round 122 = .ok (.istore_n 1, 1) := by decide +kernel
theorem d_Mod_round_123 : decode b_Mod_round 123 = .ok (.aload_n 0, 1) := by decide +kernel
theorem d_Mod_round_124 : decode b_Mod_round 124 = .ok (.getfield 29, 3) := by decide +kernel
theorem d_Mod_round_127 : decode b_Mod_round 127 = .ok (.iconst 1, 1) := by decide +kernel
theorem d_Mod_round_128 : decode b_Mod_round 128 = .ok (.iaload, 1) := by decide +kernel
theorem d_Mod_round_129 : decode b_Mod_round 129 = .ok (.istore_n 2, 1) := by decide +kernel
theorem d_Mod_round_130 : decode b_Mod_round 130 = .ok (.aload_n 0, 1) := by decide +kernel
theorem d_Mod_round_131 : decode b_Mod_round 131 = .ok (.getfield 29, 3) := by decide +kernel
theorem d_Mod_round_134 : decode b_Mod_round 134 = .ok (.iconst 2, 1) := by decide +kernel
theorem d_Mod_round_135 : decode b_Mod_round 135 = .ok (.iaload, 1) := by decide +kernel
theorem d_Mod_round_136 : decode b_Mod_round 136 = .ok (.istore_n 3, 1) := by decide +kernel
theorem d_Mod_round_137 : decode b_Mod_round 137 = .ok (.aload_n 0, 1) := by decide +kernel
theorem d_Mod_round_138 : decode b_Mod_round 138 = .ok (.getfield 29, 3) := by decide +kernel
theorem d_Mod_round_141 : decode b_Mod_round 141 = .ok (.iconst 3, 1) := by decide +kernel
theorem d_Mod_round_142 : decode b_Mod_round 142 = .ok (.iaload, 1) := by decide +kernel
theorem d_Mod_round_143 : decode b_Mod_round 143 = .ok (.istore 4, 2) := by decide +kernel
theorem d_Mod_round_145 : decode b_Mod_round 145 = .ok (.aload_n 0, 1) := by decide +kernel
theorem d_Mod_round_146 : decode b_Mod_round 146 = .ok (.getfield 29, 3) := by decide +kernel
theorem d_Mod_round_149 : decode b_Mod_round 149 = .ok (.iconst 4, 1) := by decide +kernel
theorem d_Mod_round_150 : decode b_Mod_round 150 = .ok (.iaload, 1) := by decide +kernel
theorem d_Mod_round_151 : decode b_Mod_round 151 = .ok (.istore 5, 2) := by decide +kernel
theorem d_Mod_round_153 : decode b_Mod_round 153 = .ok (.aload_n 0, 1) := by decide +kernel
theorem d_Mod_round_154 : decode b_Mod_round 154 = .ok (.getfield 29, 3) := by decide +kernel
theorem d_Mod_round_157 : decode b_Mod_round 157 = .ok (.iconst 5, 1) := by decide +kernel
theorem d_Mod_round_158 : decode b_Mod_round 158 = .ok (.iaload, 1) := by decide +kernel
theorem d_Mod_round_159 : decode b_Mod_round 159 = .ok (.istore 6, 2) := by decide +kernel
theorem d_Mod_round_161 : decode b_Mod_round 161 = .ok (.aload_n 0, 1) := by decide +kernel
theorem d_Mod_round_162 : decode b_Mod_round 162 = .ok (.getfield 29, 3) := by decide +kernel
theorem d_Mod_round_165 : decode b_Mod_round 165 = .ok (.bipush 6, 2) := by decide +kernel
theorem d_Mod_round_167 : decode b_Mod_round 167 = .ok (.iaload, 1) := by decide +kernel
theorem d_Mod_round_168 : decode b_Mod_round 168 = .ok (.istore 7, 2) := by decide +kernel
theorem d_Mod_round_170 : decode b_Mod_round 170 = .ok (.aload_n 0, 1) := by decide +kernel
theorem d_Mod_round_171 : decode b_Mod_round 171 = .ok (.getfield 29, 3) := by decide +kernel
theorem d_Mod_round_174 : decode b_Mod_round 174 = .ok (.bipush 7, 2) := by decide +kernel
theorem d_Mod_round_176 : decode b_Mod_round 176 = .ok (.iaload, 1) := by decide +kernel
theorem d_Mod_round_177 : decode b_Mod_round 177 = .ok (.istore 8, 2) := by decide +kernel
theorem d_Mod_round_179 : decode b_Mod_round 179 = .ok (.iconst 0, 1) := by decide +kernel
theorem d_Mod_round_180 : decode b_Mod_round 180 = .ok (.istore 9, 2) := by decide +kernel
theorem d_Mod_round_182 : decode b_Mod_round 182 = .ok (.iload 9, 2) := by decide +kernel
theorem d_Mod_round_184 : decode b_Mod_round 184 = .ok (.bipush 64, 2) := by decide +kernel
theorem d_Mod_round_186 : decode b_Mod_round 186 = .ok (.if_icmp .ge 152, 3) := by decide +kernel
theorem d_Mod_round_189 : decode b_Mod_round 189 = .ok (.iload 8, 2) := by decide +kernel
theorem d_Mod_round_191 : decode b_Mod_round 191 = .ok (.iload 5, 2) := by decide +kernel
theorem d_Mod_round_193 : decode b_Mod_round 193 = .ok (.bipush 6, 2) := by decide +kernel
theorem d_Mod_round_195 : decode b_Mod_round 195 = .ok (.iushr, 1) := by decide +kernel
theorem d_Mod_round_196 : decode b_Mod_round 196 = .ok (.iload 5, 2) := by decide +kernel
theorem d_Mod_round_198 : decode b_Mod_round 198 = .ok (.bipush 26, 2) := by decide +kernel
theorem d_Mod_round_200 : decode b_Mod_round 200 = .ok (.ishl, 1) := by decide +kernel
theorem d_Mod_round_201 : decode b_Mod_round 201 = .ok (.ior, 1) := by decide +kernel
theorem d_Mod_round_202 : decode b_Mod_round 202 = .ok (.iload 5, 2) := by decide +kernel
theorem d_Mod_round_204 : decode b_Mod_round 204 = .ok (.bipush 11, 2) := by decide +kernel
theorem d_Mod_round_206 : decode b_Mod_round 206 = .ok (.iushr, 1) := by decide +kernel
theorem d_Mod_round_207 : decode b_Mod_round 207 = .ok (.iload 5, 2) := by decide +kernel
theorem d_Mod_round_209 : decode b_Mod_round 209 = .ok (.bipush 21, 2) := by decide +kernel
theorem d_Mod_round_211 : decode b_Mod_round 211 = .ok (.ishl, 1) := by decide +kernel
theorem d_Mod_round_212 : decode b_Mod_round 212 = .ok (.ior, 1) := by decide +kernel
theorem d_Mod_round_213 : decode b_Mod_round 213 = .ok (.ixor, 1) := by decide +kernel
theorem d_Mod_round_214 : decode b_Mod_round 214 = .ok (.iload 5, 2) := by decide +kernel
theorem d_Mod_round_216 : decode b_Mod_round 216 = .ok (.bipush 25, 2) := by decide +kernel
theorem d_Mod_round_218 : decode b_Mod_round 218 = .ok (.iushr, 1) := by decide +kernel
theorem d_Mod_round_219 : decode b_Mod_round 219 = .ok (.iload 5, 2) := by decide +kernel
theorem d_Mod_round_221 : decode b_Mod_round 221 = .ok (.bipush 7, 2) := by decide +kernel
theorem d_Mod_round_223 : decode b_Mod_round 223 = .ok (.ishl, 1) := by decide +kernel
theorem d_Mod_round_224 : decode b_Mod_round 224 = .ok (.ior, 1) := by decide +kernel
theorem d_Mod_round_225 : decode b_Mod_round 225 = .ok (.ixor, 1) := by decide +kernel
theorem d_Mod_round_226 : decode b_Mod_round 226 = .ok (.iadd, 1) := by decide +kernel
theorem d_Mod_round_227 : decode b_Mod_round 227 = .ok (.iload 5, 2) := by decide +kernel
theorem d_Mod_round_229 : decode b_Mod_round 229 = .ok (.iload 6, 2) := by decide +kernel
theorem d_Mod_round_231 : decode b_Mod_round 231 = .ok (.iand, 1) := by decide +kernel
theorem d_Mod_round_232 : decode b_Mod_round 232 = .ok (.iload 5, 2) := by decide +kernel
theorem d_Mod_round_234 : decode b_Mod_round 234 = .ok (.iconst (-1), 1) := by decide +kernel
theorem d_Mod_round_235 : decode b_Mod_round 235 = .ok (.ixor, 1) := by decide +kernel
theorem d_Mod_round_236 : decode b_Mod_round 236 = .ok (.iload 7, 2) := by decide +kernel
theorem d_Mod_round_238 : decode b_Mod_round 238 = .ok (.iand, 1) := by decide +kernel
theorem d_Mod_round_239 : decode b_Mod_round 239 = .ok (.ixor, 1) := by decide +kernel
theorem d_Mod_round_240 : decode b_Mod_round 240 = .ok (.iadd, 1) := by decide +kernel
theorem d_Mod_round_241 : decode b_Mod_round 241 = .ok (.getstatic 51, 3) := by decide +kernel
theorem d_Mod_round_244 : decode b_Mod_round 244 = .ok (.iload 9, 2) := by decide +kernel
theorem d_Mod_round_246 : decode b_Mod_round 246 = .ok (.iaload, 1) := by decide +kernel
theorem d_Mod_round_247 : decode b_Mod_round 247 = .ok (.iadd, 1) := by decide +kernel
theorem d_Mod_round_248 : decode b_Mod_round 248 = .ok (.aload_n 0, 1) := by decide +kernel
theorem d_Mod_round_249 : decode b_Mod_round 249 = .ok (.getfield 26, 3) := by decide +kernel
theorem d_Mod_round_252 : decode b_Mod_round 252 = .ok (.iload 9, 2) := by decide +kernel
theorem d_Mod_round_254 : decode b_Mod_round 254 = .ok (.iaload, 1) := by decide +kernel
theorem d_Mod_round_255 : decode b_Mod_round 255 = .ok (.iadd, 1) := by decide +kernel
theorem d_Mod_round_256 : decode b_Mod_round 256 = .ok (.istore 10, 2) := by decide +kernel
theorem d_Mod_round_258 : decode b_Mod_round 258 = .ok (.iload_n 1, 1) := by decide +kernel
theorem d_Mod_round_259 : decode b_Mod_round 259 = .ok (.iconst 2, 1) := by decide +kernel
theorem d_Mod_round_260 : decode b_Mod_round 260 = .ok (.iushr, 1) := by decide +kernel
theorem d_Mod_round_261 : decode b_Mod_round 261 = .ok (.iload_n 1, 1) := by decide +kernel
theorem d_Mod_round_262 : decode b_Mod_round 262 = .ok (.bipush 30, 2) := by decide +kernel
theorem d_Mod_round_264 : decode b_Mod_round 264 = .ok (.ishl, 1) := by decide +kernel
theorem d_Mod_round_265 : decode b_Mod_round 265 = .ok (.ior, 1) := by decide +kernel
theorem d_Mod_round_266 : decode b_Mod_round 266 = .ok (.iload_n 1, 1) := by decide +kernel
theorem d_Mod_round_267 : decode b_Mod_round 267 = .ok (.bipush 13, 2) := by decide +kernel
theorem d_Mod_round_269 : decode b_Mod_round 269 = .ok (.iushr, 1) := by decide +kernel
theorem d_Mod_round_270 : decode b_Mod_round 270 = .ok (.iload_n 1, 1) := by decide +kernel
theorem d_Mod_round_271 : decode b_Mod_round 271 = .ok (.bipush 19, 2) := by decide +kernel
theorem d_Mod_round_273 : decode b_Mod_round 273 = .ok (.ishl, 1) := by decide +kernel
theorem d_Mod_round_274 : decode b_Mod_round 274 = .ok (.ior, 1) := by decide +kernel
theorem d_Mod_round_275 : decode b_Mod_round 275 = .ok (.ixor, 1) := by decide +kernel
theorem d_Mod_round_276 : decode b_Mod_round 276 = .ok (.iload_n 1, 1) := by decide +kernel
theorem d_Mod_round_277 : decode b_Mod_round 277 = .ok (.bipush 22, 2) := by decide +kernel
theorem d_Mod_round_279 : decode b_Mod_round 279 = .ok (.iushr, 1) := by decide +kernel
theorem d_Mod_round_280 : decode b_Mod_round 280 = .ok (.iload_n 1, 1) := by decide +kernel
theorem d_Mod_round_281 : decode b_Mod_round 281 = .ok (.bipush 10, 2) := by decide +kernel
theorem d_Mod_round_283 : decode b_Mod_round 283 = .ok (.ishl, 1) := by decide +kernel
theorem d_Mod_round_284 : decode b_Mod_round 284 = .ok (.ior, 1) := by decide +kernel
theorem d_Mod_round_285 : decode b_Mod_round 285 = .ok (.ixor, 1) := by decide +kernel
theorem d_Mod_round_286 : decode b_Mod_round 286 = .ok (.iload_n 1, 1) := by decide +kernel
theorem d_Mod_round_287 : decode b_Mod_round 287 = .ok (.iload_n 2, 1) := by decide +kernel
theorem d_Mod_round_288 : decode b_Mod_round 288 = .ok (.iand, 1) := by decide +kernel
theorem d_Mod_round_289 : decode b_Mod_round 289 = .ok (.iload_n 1, 1) := by decide +kernel
theorem d_Mod_round_290 : decode b_Mod_round 290 = .ok (.iload_n 3, 1) := by decide +kernel
theorem d_Mod_round_291 : decode b_Mod_round 291 = .ok (.iand, 1) := by decide +kernel
theorem d_Mod_round_292 : decode b_Mod_round 292 = .ok (.ixor, 1) := by decide +kernel
theorem d_Mod_round_293 : decode b_Mod_round 293 = .ok (.iload_n 2, 1) := by decide +kernel
theorem d_Mod_round_294 : decode b_Mod_round 294 = .ok (.iload_n 3, 1) := by decide +kernel
theorem d_Mod_round_295 : decode b_Mod_round 295 = .ok (.iand, 1) := by decide +kernel
theorem d_Mod_round_296 : decode b_Mod_round 296 = .ok (.ixor, 1) := by decide +kernel
theorem d_Mod_round_297 : decode b_Mod_round 297 = .ok (.iadd, 1) := by decide +kernel
theorem d_Mod_round_298 : decode b_Mod_round 298 = .ok (.istore 11, 2) := by decide +kernel
theorem d_Mod_round_300 : decode b_Mod_round 300 = .ok (.iload 7, 2) := by decide +kernel
theorem d_Mod_round_302 : decode b_Mod_round 302 = .ok (.istore 8, 2) := by decide +kernel
theorem d_Mod_round_304 : decode b_Mod_round 304 = .ok (.iload 6, 2) := by decide +kernel
theorem d_Mod_round_306 : decode b_Mod_round 306 = .ok (.istore 7, 2) := by decide +kernel
theorem d_Mod_round_308 : decode b_Mod_round 308 = .ok (.iload 5, 2) := by decide +kernel
theorem d_Mod_round_310 : decode b_Mod_round 310 = .ok (.istore 6, 2) := by decide +kernel
theorem d_Mod_round_312 : decode b_Mod_round 312 = .ok (.iload 4, 2) := by decide +kernel
theorem d_Mod_round_314 : decode b_Mod_round 314 = .ok (.iload 10, 2) := by decide +kernel
theorem d_Mod_round_316 : decode b_Mod_round 316 = .ok (.iadd, 1) := by decide +kernel
theorem d_Mod_round_317 : decode b_Mod_round 317 = .ok (.istore 5, 2) := by decide +kernel
theorem d_Mod_round_319 : decode b_Mod_round 319 = .ok (.iload_n 3, 1) := by decide +kernel
theorem d_Mod_round_320 : decode b_Mod_round 320 = .ok (.istore 4, 2) := by decide +kernel
theorem d_Mod_round_322 : decode b_Mod_round 322 = .ok (.iload_n 2, 1) := by decide +kernel
theorem d_Mod_round_323 : decode b_Mod_round 323 = .ok (.istore_n 3, 1) := by decide +kernel
theorem d_Mod_round_324 : decode b_Mod_round 324 = .ok (.iload_n 1, 1) := by decide +kernel
theorem d_Mod_round_325 : decode b_Mod_round 325 = .ok (.istore_n 2, 1) := by decide +kernel
theorem d_Mod_round_326 : decode b_Mod_round 326 = .ok (.iload 10, 2) := by decide +kernel
theorem d_Mod_round_328 : decode b_Mod_round 328 = .ok (.iload 11, 2) := by decide +kernel
theorem d_Mod_round_330 : decode b_Mod_round 330 = .ok (.iadd, 1) := by decide +kernel
theorem d_Mod_round_331 : decode b_Mod_round 331 = .ok (.istore_n 1, 1) := by decide +kernel
theorem d_Mod_round_332 : decode b_Mod_round 332 = .ok (.iinc 9 1, 3) := by decide +kernel
theorem d_Mod_round_335 : decode b_Mod_round 335 = .ok (.goto (-153), 3) := by decide +kernel
theorem d_Mod_round_338 : decode b_Mod_round 338 = .ok (.aload_n 0, 1) := by decide +kernel
theorem d_Mod_round_339 : decode b_Mod_round 339 = .ok (.getfield 29, 3) := by decide +kernel
theorem d_Mod_round_342 : decode b_Mod_round 342 = .ok (.iconst 0, 1) := by decide +kernel
theorem d_Mod_round_343 : decode b_Mod_round 343 = .ok (.dup2, 1) := by decide +kernel
theorem d_Mod_round_344 : decode b_Mod_round 344 = .ok (.iaload, 1) := by decide +kernel
theorem d_Mod_round_345 : decode b_Mod_round 345 = .ok (.iload_n 1, 1) := by decide +kernel
theorem d_Mod_round_346 : decode b_Mod_round 346 = .ok (.iadd, 1) := by decide +kernel
theorem d_Mod_round_347 : decode b_Mod_round 347 = .ok (.iastore, 1) := by decide +kernel
theorem d_Mod_round_348 : decode b_Mod_round 348 = .ok (.aload_n 0, 1) := by decide +kernel
theorem d_Mod_round_349 : decode b_Mod_round 349 = .ok (.getfield 29, 3) := by decide +kernel
theorem d_Mod_round_352 : decode b_Mod_round 352 = .ok (.iconst 1, 1) := by decide +kernel
theorem d_Mod_round_353 : decode b_Mod_round 353 = .ok (.dup2, 1) := by decide +kernel
theorem d_Mod_round_354 : decode b_Mod_round 354 = .ok (.iaload, 1) := by decide +kernel
theorem d_Mod_round_355 : decode b_Mod_round 355 = .ok (.iload_n 2, 1) := by decide +kernel
theorem d_Mod_round_356 : decode b_Mod_round 356 = .ok (.iadd, 1) := by decide +kernel
theorem d_Mod_round_357 : decode b_Mod_round 357 = .ok (.iastore, 1) := by decide +kernel
theorem d_Mod_round_358 : decode b_Mod_round 358 = .ok (.aload_n 0, 1) := by decide +kernel
theorem d_Mod_round_359 : decode b_Mod_round 359 = .ok (.getfield 29, 3) := by decide +kernel
theorem d_Mod_round_362 : decode b_Mod_round 362 = .ok (.iconst 2, 1) := by decide +kernel
theorem d_Mod_round_363 : decode b_Mod_round 363 = .ok (.dup2, 1) := by decide +kernel
theorem d_Mod_round_364 : decode b_Mod_round 364 = .ok (.iaload, 1) := by decide +kernel
theorem d_Mod_round_365 : decode b_Mod_round 365 = .ok (.iload_n 3, 1) := by decide +kernel
theorem d_Mod_round_366 : decode b_Mod_round 366 = .ok (.iadd, 1) := by decide +kernel
theorem d_Mod_round_367 : decode b_Mod_round 367 = .ok (.iastore, 1) := by decide +kernel
theorem d_Mod_round_368 : decode b_Mod_round 368 = .ok (.aload_n 0, 1) := by decide +kernel
theorem d_Mod_round_369 : decode b_Mod_round 369 = .ok (.getfield 29, 3) := by decide +kernel
theorem d_Mod_round_372 : decode b_Mod_round 372 = .ok (.iconst 3, 1) := by decide +kernel
theorem d_Mod_round_373 : decode b_Mod_round 373 = .ok (.dup2, 1) := by decide +kernel
theorem d_Mod_round_374 : decode b_Mod_round 374 = .ok (.iaload, 1) := by decide +kernel
theorem d_Mod_round_375 : decode b_Mod_round 375 = .ok (.iload 4, 2) := by decide +kernel
theorem d_Mod_round_377 : decode b_Mod_round 377 = .ok (.iadd, 1) := by decide +kernel
theorem d_Mod_round_378 : decode b_Mod_round 378 = .ok (.iastore, 1) := by decide +kernel
theorem d_Mod_round_379 : decode b_Mod_round 379 = .ok (.aload_n 0, 1) := by decide +kernel
theorem d_Mod_round_380 : decode b_Mod_round 380 = .ok (.getfield 29, 3) := by decide +kernel
theorem d_Mod_round_383 : decode b_Mod_round 383 = .ok (.iconst 4, 1) := by decide +kernel
theorem d_Mod_round_384 : decode b_Mod_round 384 = .ok (.dup2, 1) := by decide +kernel
theorem d_Mod_round_385 : decode b_Mod_round 385 = .ok (.iaload, 1) := by decide +kernel
theorem d_Mod_round_386 : decode b_Mod_round 386 = .ok (.iload 5, 2) := by decide +kernel
theorem d_Mod_round_388 : decode b_Mod_round 388 = .ok (.iadd, 1) := by decide +kernel
theorem d_Mod_round_389 : decode b_Mod_round 389 = .ok (.iastore, 1) := by decide +kernel
theorem d_Mod_round_390 : decode b_Mod_round 390 = .ok (.aload_n 0, 1) := by decide +kernel
theorem d_Mod_round_391 : decode b_Mod_round 391 = .ok (.getfield 29, 3) := by decide +kernel
theorem d_Mod_round_394 : decode b_Mod_round 394 = .ok (.iconst 5, 1) := by decide +kernel
theorem d_Mod_round_395 : decode b_Mod_round 395 = .ok (.dup2, 1) := by decide +kernel
theorem d_Mod_round_396 : decode b_Mod_round 396 = .ok (.iaload, 1) := by decide +kernel
theorem d_Mod_round_397 : decode b_Mod_round 397 = .ok (.iload 6, 2) := by decide +kernel
theorem d_Mod_round_399 : decode b_Mod_round 399 = .ok (.iadd, 1) := by decide +kernel
theorem d_Mod_round_400 : decode b_Mod_round 400 = .ok (.iastore, 1) := by decide +kernel
theorem d_Mod_round_401 : decode b_Mod_round 401 = .ok (.aload_n 0, 1) := by decide +kernel
theorem d_Mod_round_402 : decode b_Mod_round 402 = .ok (.getfield 29, 3) := by decide +kernel
theorem d_Mod_round_405 : decode b_Mod_round 405 = .ok (.bipush 6, 2) := by decide +kernel
theorem d_Mod_round_407 : decode b_Mod_round 407 = .ok (.dup2, 1) := by decide +kernel
theorem d_Mod_round_408 : decode b_Mod_round 408 = .ok (.iaload, 1) := by decide +kernel
theorem d_Mod_round_409 : decode b_Mod_round 409 = .ok (.iload 7, 2) := by decide +kernel
theorem d_Mod_round_411 : decode b_Mod_round 411 = .ok (.iadd, 1) := by decide +kernel
theorem d_Mod_round_412 : decode b_Mod_round 412 = .ok (.iastore, 1) := by decide +kernel
theorem d_Mod_round_413 : decode b_Mod_round 413 = .ok (.aload_n 0, 1) := by decide +kernel
theorem d_Mod_round_414 : decode b_Mod_round 414 = .ok (.getfield 29, 3) := by decide +kernel
theorem d_Mod_round_417 : decode b_Mod_round 417 = .ok (.bipush 7, 2) := by decide +kernel
theorem d_Mod_round_419 : decode b_Mod_round 419 = .ok (.dup2, 1) := by decide +kernel
theorem d_Mod_round_420 : decode b_Mod_round 420 = .ok (.iaload, 1) := by decide +kernel
theorem d_Mod_round_421 : decode b_Mod_round 421 = .ok (.iload 8, 2) := by decide +kernel
theorem d_Mod_round_423 : decode b_Mod_round 423 = .ok (.iadd, 1) := by decide +kernel
theorem d_Mod_round_424 : decode b_Mod_round 424 = .ok (.iastore, 1) := by decide +kernel
theorem d_Mod_round_425 : decode b_Mod_round 425 = .ok (.return_, 1) := by decide +kernel
theorem d_Mod_sha5_0 : decode b_Mod_sha5 0 = .ok (.iconst 0, 1) := by decide +kernel
theorem d_Mod_sha5_1 : decode b_Mod_sha5 1 = .ok (.istore 6, 2) := by decide +kernel
theorem d_Mod_sha5_3 : decode b_Mod_sha5 3 = .ok (.iload 6, 2) := by decide +kernel
theorem d_Mod_sha5_5 : decode b_Mod_sha5 5 = .ok (.bipush 8, 2) := by decide +kernel
theorem d_Mod_sha5_7 : decode b_Mod_sha5 7 = .ok (.if_icmp .ge 22, 3) := by decide +kernel
theorem d_Mod_sha5_10 : decode b_Mod_sha5 10 = .ok (.aload_n 0, 1) := by decide +kernel
theorem d_Mod_sha5_11 : decode b_Mod_sha5 11 = .ok (.getfield 29, 3) := by decide +kernel
theorem d_Mod_sha5_14 : decode b_Mod_sha5 14 = .ok (.iload 6, 2) := by decide +kernel
theorem d_Mod_sha5_16 : decode b_Mod_sha5 16 = .ok (.getstatic 54, 3) := by decide +kernel
theorem d_Mod_sha5_19 : decode b_Mod_sha5 19 = .ok (.iload 6, 2) := by decide +kernel
theorem d_Mod_sha5_21 : decode b_Mod_sha5 21 = .ok (.iaload, 1) := by decide +kernel
theorem d_Mod_sha5_22 : decode b_Mod_sha5 22 = .ok (.iastore, 1) := by decide +kernel
theorem d_Mod_sha5_23 : decode b_Mod_sha5 23 = .ok (.iinc 6 1, 3) := by decide +kernel
theorem d_Mod_sha5_26 : decode b_Mod_sha5 26 = .ok (.goto (-23), 3) := by decide +kernel
theorem d_Mod_sha5_29 : decode b_Mod_sha5 29 = .ok (.iload_n 3, 1) := by decide +kernel
theorem d_Mod_sha5_30 : decode b_Mod_sha5 30 = .ok (.bipush 9, 2) := by decide +kernel
theorem d_Mod_sha5_32 : decode b_Mod_sha5 32 = .ok (.iadd, 1) := by decide +kernel
theorem d_Mod_sha5_33 : decode b_Mod_sha5 33 = .ok (.bipush 63, 2) := by decide +kernel
theorem d_Mod_sha5_35 : decode b_Mod_sha5 35 = .ok (.iadd, 1) := by decide +kernel
theorem d_Mod_sha5_36 : decode b_Mod_sha5 36 = .ok (.bipush 64, 2) := by decide +kernel
theorem d_Mod_sha5_38 : decode b_Mod_sha5 38 = .ok (.idiv, 1) := by decide +kernel
theorem d_Mod_sha5_39 : decode b_Mod_sha5 39 = .ok (.bipush 64, 2) := by decide +kernel
theorem d_Mod_sha5_41 : decode b_Mod_sha5 41 = .ok (.imul, 1) := by decide +kernel
theorem d_Mod_sha5_42 : decode b_Mod_sha5 42 = .ok (.istore 6, 2) := by decide +kernel
theorem d_Mod_sha5_44 : decode b_Mod_sha5 44 = .ok (.iconst 0, 1) := by decide +kernel
theorem d_Mod_sha5_45 : decode b_Mod_sha5 45 = .ok (.istore 7, 2) := by decide +kernel
theorem d_Mod_sha5_47 : decode b_Mod_sha5 47 = .ok (.iload 7, 2) := by decide +kernel
theorem d_Mod_sha5_49 : decode b_Mod_sha5 49 = .ok (.iload 6, 2) := by decide +kernel
theorem d_Mod_sha5_51 : decode b_Mod_sha5 51 = .ok (.if_icmp .ge 146, 3) := by decide +kernel
theorem d_Mod_sha5_54 : decode b_Mod_sha5 54 = .ok (.iconst 0, 1) := by decide +kernel
theorem d_Mod_sha5_55 : decode b_Mod_sha5 55 = .ok (.istore 8, 2) := by decide +kernel
theorem d_Mod_sha5_57 : decode b_Mod_sha5 57 = .ok (.iload 8, 2) := by decide +kernel
theorem d_Mod_sha5_59 : decode b_Mod_sha5 59 = .ok (.bipush 16, 2) := by decide +kernel
theorem d_Mod_sha5_61 : decode b_Mod_sha5 61 = .ok (.if_icmp .ge 126, 3) := by decide +kernel
theorem d_Mod_sha5_64 : decode b_Mod_sha5 64 = .ok (.iconst 0, 1) := by decide +kernel
theorem d_Mod_sha5_65 : decode b_Mod_sha5 65 = .ok (.istore 9, 2) := by decide +kernel
theorem d_Mod_sha5_67 : decode b_Mod_sha5 67 = .ok (.iconst 0, 1) := by decide +kernel
theorem d_Mod_sha5_68 : decode b_Mod_sha5 68 = .ok (.istore 10, 2) := by decide +kernel
theorem d_Mod_sha5_70 : decode b_Mod_sha5 70 = .ok (.iload 10, 2) := by decide +kernel
theorem d_Mod_sha5_72 : decode b_Mod_sha5 72 = .ok (.iconst 4, 1) := by decide +kernel
theorem d_Mod_sha5_73 : decode b_Mod_sha5 73 = .ok (.if_icmp .ge 99, 3) := by decide +kernel
theorem d_Mod_sha5_76 : decode b_Mod_sha5 76 = .ok (.iload 7, 2) := by decide +kernel
theorem d_Mod_sha5_78 : decode b_Mod_sha5 78 = .ok (.iconst 4, 1) := by decide +kernel
theorem d_Mod_sha5_79 : decode b_Mod_sha5 79 = .ok (.iload 8, 2) := by decide +kernel
theorem d_Mod_sha5_81 : decode b_Mod_sha5 81 = .ok (.imul, 1) := by decide +kernel
theorem d_Mod_sha5_82 : decode b_Mod_sha5 82 = .ok (.iadd, 1) := by decide +kernel
theorem d_Mod_sha5_83 : decode b_Mod_sha5 83 = .ok (.iload 10, 2) := by decide +kernel
theorem d_Mod_sha5_85 : decode b_Mod_sha5 85 = .ok (.iadd, 1) := by decide +kernel
theorem d_Mod_sha5_86 : decode b_Mod_sha5 86 = .ok (.istore 11, 2) := by decide +kernel
theorem d_Mod_sha5_88 : decode b_Mod_sha5 88 = .ok (.iload 11, 2) := by decide +kernel
theorem d_Mod_sha5_90 : decode b_Mod_sha5 90 = .ok (.iload_n 3, 1) := by decide +kernel
theorem d_Mod_sha5_91 : decode b_Mod_sha5 91 = .ok (.if_icmp .ge 16, 3) := by decide +kernel
theorem d_Mod_sha5_94 : decode b_Mod_sha5 94 = .ok (.aload_n 1, 1) := by decide +kernel
theorem d_Mod_sha5_95 : decode b_Mod_sha5 95 = .ok (.iload_n 2, 1) := by decide +kernel
theorem d_Mod_sha5_96 : decode b_Mod_sha5 96 = .ok (.iload 11, 2) := by decide +kernel
theorem d_Mod_sha5_98 : decode b_Mod_sha5 98 = .ok (.iadd, 1) := by decide +kernel
theorem d_Mod_sha5_99 : decode b_Mod_sha5 99 = .ok (.baload, 1) := by decide +kernel
theorem d_Mod_sha5_100 : decode b_Mod_sha5 100 = .ok (.sipush 255, 3) := by decide +kernel
theorem d_Mod_sha5_103 : decode b_Mod_sha5 103 = .ok (.iand, 1) := by decide +kernel
theorem d_Mod_sha5_104 : decode b_Mod_sha5 104 = .ok (.goto 16, 3) := by decide +kernel
theorem d_Mod_sha5_107 : decode b_Mod_sha5 107 = .ok (.iload 11, 2) := by decide +kernel
theorem d_Mod_sha5_109 : decode b_Mod_sha5 109 = .ok (.iload_n 3, 1) := by decide +kernel
theorem d_Mod_sha5_110 : decode b_Mod_sha5 110 = .ok (.if_icmp .ne 9, 3) := by decide +kernel
theorem d_Mod_sha5_113 : decode b_Mod_sha5 113 = .ok (.sipush 128, 3) := by decide +kernel
theorem d_Mod_sha5_116 : decode b_Mod_sha5 116 = .ok (.goto 4, 3) := by decide +kernel
theorem d_Mod_sha5_119 : decode b_Mod_sha5 119 = .ok (.iconst 0, 1) := by decide +kernel
theorem d_Mod_sha5_120 : decode b_Mod_sha5 120 = .ok (.istore 12, 2) := by decide +kernel
theorem d_Mod_sha5_122 : decode b_Mod_sha5 122 = .ok (.iload 11, 2) := by decide +kernel
theorem d_Mod_sha5_124 : decode b_Mod_sha5 124 = .ok (.iload 6, 2) := by decide +kernel
theorem d_Mod_sha5_126 : decode b_Mod_sha5 126 = .ok (.bipush 8, 2) := by decide +kernel
theorem d_Mod_sha5_128 : decode b_Mod_sha5 128 = .ok (.isub, 1) := by decide +kernel
theorem d_Mod_sha5_129 : decode b_Mod_sha5 129 = .ok (.if_icmp .lt 27, 3) := by decide +kernel
theorem d_Mod_sha5_132 : decode b_Mod_sha5 132 = .ok (.iload_n 3, 1) := by decide +kernel
theorem d_Mod_sha5_133 : decode b_Mod_sha5 133 = .ok (.i2l, 1) := by decide +kernel
theorem d_Mod_sha5_134 : decode b_Mod_sha5 134 = .ok (.ldc2_w 57, 3) := by decide +kernel
theorem d_Mod_sha5_137 : decode b_Mod_sha5 137 = .ok (.lmul, 1) := by decide +kernel
theorem d_Mod_sha5_138 : decode b_Mod_sha5 138 = .ok (.bipush 8, 2) := by decide +kernel
theorem d_Mod_sha5_140 : decode b_Mod_sha5 140 = .ok (.iload 6, 2) := by decide +kernel
theorem d_Mod_sha5_142 : decode b_Mod_sha5 142 = .ok (.iconst 1, 1) := by decide +kernel
theorem d_Mod_sha5_143 : decode b_Mod_sha5 143 = .ok (.isub, 1) := by decide +kernel
theorem d_Mod_sha5_144 : decode b_Mod_sha5 144 = .ok (.iload 11, 2) := by decide +kernel
theorem d_Mod_sha5_146 : decode b_Mod_sha5 146 = .ok (.isub, 1) := by decide +kernel
theorem d_Mod_sha5_147 : decode b_Mod_sha5 147 = .ok (.imul, 1) := by decide +kernel
theorem d_Mod_sha5_148 : decode b_Mod_sha5 148 = .ok (.lushr, 1) := by decide +kernel
theorem d_Mod_sha5_149 : decode b_Mod_sha5 149 = .ok (.l2i, 1) := by decide +kernel
theorem d_Mod_sha5_150 : decode b_Mod_sha5 150 = .ok (.sipush 255, 3) := by decide +kernel
theorem d_Mod_sha5_153 : decode b_Mod_sha5 153 = .ok (.iand, 1) := by decide +kernel
theorem d_Mod_sha5_154 : decode b_Mod_sha5 154 = .ok (.istore 12, 2) := by decide +kernel
theorem d_Mod_sha5_156 : decode b_Mod_sha5 156 = .ok (.iload 9, 2) := by decide +kernel
theorem d_Mod_sha5_158 : decode b_Mod_sha5 158 = .ok (.bipush 8, 2) := by decide +kernel
theorem d_Mod_sha5_160 : decode b_Mod_sha5 160 = .ok (.ishl, 1) := by decide +kernel
theorem d_Mod_sha5_161 : decode b_Mod_sha5 161 = .ok (.iload 12, 2) := by decide +kernel
theorem d_Mod_sha5_163 : decode b_Mod_sha5 163 = .ok (.ior, 1) := by decide +kernel
theorem d_Mod_sha5_164 : decode b_Mod_sha5 164 = .ok (.istore 9, 2) := by decide +kernel
theorem d_Mod_sha5_166 : decode b_Mod_sha5 166 = .ok (.iinc 10 1, 3) := by decide +kernel
theorem d_Mod_sha5_169 : decode b_Mod_sha5 169 = .ok (.goto (-99), 3) := by decide +kernel
theorem d_Mod_sha5_172 : decode b_Mod_sha5 172 = .ok (.aload_n 0, 1) := by decide +kernel
theorem d_Mod_sha5_173 : decode b_Mod_sha5 173 = .ok (.getfield 26, 3) := by decide +kernel
theorem d_Mod_sha5_176 : decode b_Mod_sha5 176 = .ok (.iload 8, 2) := by decide +kernel
theorem d_Mod_sha5_178 : decode b_Mod_sha5 178 = .ok (.iload 9, 2) := by decide +kernel
theorem d_Mod_sha5_180 : decode b_Mod_sha5 180 = .ok (.iastore, 1) := by decide +kernel
theorem d_Mod_sha5_181 : decode b_Mod_sha5 181 = .ok (.iinc 8 1, 3) := by decide +kernel
theorem d_Mod_sha5_184 : decode b_Mod_sha5 184 = .ok (.goto (-127), 3) := by decide +kernel
theorem d_Mod_sha5_187 : decode b_Mod_sha5 187 = .ok (.aload_n 0, 1) := by decide +kernel
theorem d_Mod_sha5_188 : decode b_Mod_sha5 188 = .ok (.invokevirtual 59, 3) := by decide +kernel
theorem d_Mod_sha5_191 : decode b_Mod_sha5 191 = .ok (.iinc 7 64, 3) := by decide +kernel
theorem d_Mod_sha5_194 : decode b_Mod_sha5 194 = .ok (.goto (-147), 3) := by decide +kernel
theorem d_Mod_sha5_197 : decode b_Mod_sha5 197 = .ok (.iconst 0, 1) := by decide +kernel
theorem d_Mod_sha5_198 : decode b_Mod_sha5 198 = .ok (.istore 7, 2) := by decide +kernel
theorem d_Mod_sha5_200 : decode b_Mod_sha5 200 = .ok (.iload 7, 2) := by decide +kernel
theorem d_Mod_sha5_202 : decode b_Mod_sha5 202 = .ok (.bipush 32, 2) := by decide +kernel
theorem d_Mod_sha5_204 : decode b_Mod_sha5 204 = .ok (.if_icmp .ge 38, 3) := by decide +kernel
theorem d_Mod_sha5_207 : decode b_Mod_sha5 207 = .ok (.aload 4, 2) := by decide +kernel
theorem d_Mod_sha5_209 : decode b_Mod_sha5 209 = .ok (.iload 5, 2) := by decide +kernel
theorem d_Mod_sha5_211 : decode b_Mod_sha5 211 = .ok (.iload 7, 2) := by decide +kernel
theorem d_Mod_sha5_213 : decode b_Mod_sha5 213 = .ok (.iadd, 1) := by decide +kernel
theorem d_Mod_sha5_214 : decode b_Mod_sha5 214 = .ok (.aload_n 0, 1) := by decide +kernel
theorem d_Mod_sha5_215 : decode b_Mod_sha5 215 = .ok (.getfield 29, 3) := by decide +kernel
theorem d_Mod_sha5_218 : decode b_Mod_sha5 218 = .ok (.iload 7, 2) := by decide +kernel
theorem d_Mod_sha5_220 : decode b_Mod_sha5 220 = .ok (.iconst 4, 1) := by decide +kernel
theorem d_Mod_sha5_221 : decode b_Mod_sha5 221 = .ok (.idiv, 1) := by decide +kernel
theorem d_Mod_sha5_222 : decode b_Mod_sha5 222 = .ok (.iaload, 1) := by decide +kernel
theorem d_Mod_sha5_223 : decode b_Mod_sha5 223 = .ok (.bipush 24, 2) := by decide +kernel
theorem d_Mod_sha5_225 : decode b_Mod_sha5 225 = .ok (.bipush 8, 2) := by decide +kernel
theorem d_Mod_sha5_227 : decode b_Mod_sha5 227 = .ok (.iload 7, 2) := by decide +kernel
theorem d_Mod_sha5_229 : decode b_Mod_sha5 229 = .ok (.iconst 4, 1) := by decide +kernel
theorem d_Mod_sha5_230 : decode b_Mod_sha5 230 = .ok (.irem, 1) := by decide +kernel
theorem d_Mod_sha5_231 : decode b_Mod_sha5 231 = .ok (.imul, 1) := by decide +kernel
theorem d_Mod_sha5_232 : decode b_Mod_sha5 232 = .ok (.isub, 1) := by decide +kernel
theorem d_Mod_sha5_233 : decode b_Mod_sha5 233 = .ok (.iushr, 1) := by decide +kernel
theorem d_Mod_sha5_234 : decode b_Mod_sha5 234 = .ok (.i2b, 1) := by decide +kernel
theorem d_Mod_sha5_235 : decode b_Mod_sha5 235 = .ok (.bastore, 1) := by decide +kernel
theorem d_Mod_sha5_236 : decode b_Mod_sha5 236 = .ok (.iinc 7 1, 3) := by decide +kernel
theorem d_Mod_sha5_239 : decode b_Mod_sha5 239 = .ok (.goto (-39), 3) := by decide +kernel
theorem d_Mod_sha5_242 : decode b_Mod_sha5 242 = .ok (.return_, 1) := by decide +kernel
theorem d_Mod_hash_0 : decode b_Mod_hash 0 = .ok (.aload_n 0, 1) := by decide +kernel
theorem d_Mod_hash_1 : decode b_Mod_hash 1 = .ok (.aload_n 1, 1) := by decide +kernel
theorem d_Mod_hash_2 : decode b_Mod_hash 2 = .ok (.iload_n 2, 1) := by decide +kernel
theorem d_Mod_hash_3 : decode b_Mod_hash 3 = .ok (.iload_n 3, 1) := by decide +kernel
theorem d_Mod_hash_4 : decode b_Mod_hash 4 = .ok (.aload_n 0, 1) := by decide +kernel
theorem d_Mod_hash_5 : decode b_Mod_hash 5 = .ok (.getfield 32, 3) := by decide +kernel
theorem d_Mod_hash_8 : decode b_Mod_hash 8 = .ok (.iconst 0, 1) := by decide +kernel
theorem d_Mod_hash_9 : decode b_Mod_hash 9 = .ok (.invokevirtual 62, 3) := by decide +kernel
theorem d_Mod_hash_12 : decode b_Mod_hash 12 = .ok (.aload_n 0, 1) := by decide +kernel
theorem d_Mod_hash_13 : decode b_Mod_hash 13 = .ok (.aload_n 0, 1) := by decide +kernel
theorem d_Mod_hash_14 : decode b_Mod_hash 14 = .ok (.getfield 32, 3) := by decide +kernel
theorem d_Mod_hash_17 : decode b_Mod_hash 17 = .ok (.iconst 0, 1) := by decide +kernel
theorem d_Mod_hash_18 : decode b_Mod_hash 18 = .ok (.bipush 32, 2) := by decide +kernel
theorem d_Mod_hash_20 : decode b_Mod_hash 20 = .ok (.aload 4, 2) := by decide +kernel
theorem d_Mod_hash_22 : decode b_Mod_hash 22 = .ok (.iload 5, 2) := by decide +kernel
theorem d_Mod_hash_24 : decode b_Mod_hash 24 = .ok (.invokevirtual 62, 3) := by decide +kernel
theorem d_Mod_hash_27 : decode b_Mod_hash 27 = .ok (.return_, 1) := by decide +kernel
theorem d_Mod_same_0 : decode b_Mod_same 0 = .ok (.iconst 0, 1) := by decide +kernel
theorem d_Mod_same_1 : decode b_Mod_same 1 = .ok (.istore 5, 2) := by decide +kernel
theorem d_Mod_same_3 : decode b_Mod_same 3 = .ok (.iload 5, 2) := by decide +kernel
theorem d_Mod_same_5 : decode b_Mod_same 5 = .ok (.iload 4, 2) := by decide +kernel
theorem d_Mod_same_7 : decode b_Mod_same 7 = .ok (.if_icmp .ge 26, 3) := by decide +kernel
theorem d_Mod_same_10 : decode b_Mod_same 10 = .ok (.aload_n 0, 1) := by decide +kernel
theorem d_Mod_same_11 : decode b_Mod_same 11 = .ok (.iload_n 1, 1) := by decide +kernel
theorem d_Mod_same_12 : decode b_Mod_same 12 = .ok (.iload 5, 2) := by decide +kernel
theorem d_Mod_same_14 : decode b_Mod_same 14 = .ok (.iadd, 1) := by decide +kernel
theorem d_Mod_same_15 : decode b_Mod_same 15 = .ok (.baload, 1) := by decide +kernel
theorem d_Mod_same_16 : decode b_Mod_same 16 = .ok (.aload_n 2, 1) := by decide +kernel
theorem d_Mod_same_17 : decode b_Mod_same 17 = .ok (.iload_n 3, 1) := by decide +kernel
theorem d_Mod_same_18 : decode b_Mod_same 18 = .ok (.iload 5, 2) := by decide +kernel
theorem d_Mod_same_20 : decode b_Mod_same 20 = .ok (.iadd, 1) := by decide +kernel
theorem d_Mod_same_21 : decode b_Mod_same 21 = .ok (.baload, 1) := by decide +kernel
theorem d_Mod_same_22 : decode b_Mod_same 22 = .ok (.if_icmp .eq 5, 3) := by decide +kernel
theorem d_Mod_same_25 : decode b_Mod_same 25 = .ok (.iconst 0, 1) := by decide +kernel
theorem d_Mod_same_26 : decode b_Mod_same 26 = .ok (.ireturn, 1) := by decide +kernel
theorem d_Mod_same_27 : decode b_Mod_same 27 = .ok (.iinc 5 1, 3) := by decide +kernel
theorem d_Mod_same_30 : decode b_Mod_same 30 = .ok (.goto (-27), 3) := by decide +kernel
theorem d_Mod_same_33 : decode b_Mod_same 33 = .ok (.iconst 1, 1) := by decide +kernel
theorem d_Mod_same_34 : decode b_Mod_same 34 = .ok (.ireturn, 1) := by decide +kernel
theorem d_Mod_push_0 : decode b_Mod_push 0 = .ok (.aload_n 0, 1) := by decide +kernel
theorem d_Mod_push_1 : decode b_Mod_push 1 = .ok (.getfield 66, 3) := by decide +kernel
theorem d_Mod_push_4 : decode b_Mod_push 4 = .ok (.bipush 24, 2) := by decide +kernel
theorem d_Mod_push_6 : decode b_Mod_push 6 = .ok (.if_icmp .eq 9, 3) := by decide +kernel
theorem d_Mod_push_9 : decode b_Mod_push 9 = .ok (.iload_n 3, 1) := by decide +kernel
theorem d_Mod_push_10 : decode b_Mod_push 10 = .ok (.bipush 80, 2) := by decide +kernel
theorem d_Mod_push_12 : decode b_Mod_push 12 = .ok (.if_icmp .le 5, 3) := by decide +kernel
theorem d_Mod_push_15 : decode b_Mod_push 15 = .ok (.iconst 0, 1) := by decide +kernel
theorem d_Mod_push_16 : decode b_Mod_push 16 = .ok (.ireturn, 1) := by decide +kernel
theorem d_Mod_push_17 : decode b_Mod_push 17 = .ok (.iconst 0, 1) := by decide +kernel
theorem d_Mod_push_18 : decode b_Mod_push 18 = .ok (.istore 4, 2) := by decide +kernel
theorem d_Mod_push_20 : decode b_Mod_push 20 = .ok (.iload 4, 2) := by decide +kernel
theorem d_Mod_push_22 : decode b_Mod_push 22 = .ok (.iload_n 3, 1) := by decide +kernel
theorem d_Mod_push_23 : decode b_Mod_push 23 = .ok (.if_icmp .ge 30, 3) := by decide +kernel
theorem d_Mod_push_26 : decode b_Mod_push 26 = .ok (.aload_n 0, 1) := by decide +kernel
theorem d_Mod_push_27 : decode b_Mod_push 27 = .ok (.getfield 41, 3) := by decide +kernel
theorem d_Mod_push_30 : decode b_Mod_push 30 = .ok (.bipush 80, 2) := by decide +kernel
theorem d_Mod_push_32 : decode b_Mod_push 32 = .ok (.aload_n 0, 1) := by decide +kernel
theorem d_Mod_push_33 : decode b_Mod_push 33 = .ok (.getfield 66, 3) := by decide +kernel
theorem d_Mod_push_36 : decode b_Mod_push 36 = .ok (.imul, 1) := by decide +kernel
theorem d_Mod_push_37 : decode b_Mod_push 37 = .ok (.iload 4, 2) := by decide +kernel
theorem d_Mod_push_39 : decode b_Mod_push 39 = .ok (.iadd, 1) := by decide +kernel
theorem d_Mod_push_40 : decode b_Mod_push 40 = .ok (.aload_n 1, 1) := by decide +kernel
theorem d_Mod_push_41 : decode b_Mod_push 41 = .ok (.iload_n 2, 1) := by decide +kernel
theorem d_Mod_push_42 : decode b_Mod_push 42 = .ok (.iload 4, 2) := by decide +kernel
theorem d_Mod_push_44 : decode b_Mod_push 44 = .ok (.iadd, 1) := by decide +kernel
theorem d_Mod_push_45 : decode b_Mod_push 45 = .ok (.baload, 1) := by decide +kernel
theorem d_Mod_push_46 : decode b_Mod_push 46 = .ok (.bastore, 1) := by decide +kernel
theorem d_Mod_push_47 : decode b_Mod_push 47 = .ok (.iinc 4 1, 3) := by decide +kernel
theorem d_Mod_push_50 : decode b_Mod_push 50 = .ok (.goto (-30), 3) := by decide +kernel
theorem d_Mod_push_53 : decode b_Mod_push 53 = .ok (.aload_n 0, 1) := by decide +kernel
theorem d_Mod_push_54 : decode b_Mod_push 54 = .ok (.getfield 44, 3) := by decide +kernel
theorem d_Mod_push_57 : decode b_Mod_push 57 = .ok (.aload_n 0, 1) := by decide +kernel
theorem d_Mod_push_58 : decode b_Mod_push 58 = .ok (.getfield 66, 3) := by decide +kernel
theorem d_Mod_push_61 : decode b_Mod_push 61 = .ok (.iload_n 3, 1) := by decide +kernel
theorem d_Mod_push_62 : decode b_Mod_push 62 = .ok (.iastore, 1) := by decide +kernel
theorem d_Mod_push_63 : decode b_Mod_push 63 = .ok (.aload_n 0, 1) := by decide +kernel
theorem d_Mod_push_64 : decode b_Mod_push 64 = .ok (.dup, 1) := by decide +kernel
theorem d_Mod_push_65 : decode b_Mod_push 65 = .ok (.getfield 66, 3) := by decide +kernel
theorem d_Mod_push_68 : decode b_Mod_push 68 = .ok (.iconst 1, 1) := by decide +kernel
theorem d_Mod_push_69 : decode b_Mod_push 69 = .ok (.iadd, 1) := by decide +kernel
theorem d_Mod_push_70 : decode b_Mod_push 70 = .ok (.putfield 66, 3) := by decide +kernel
theorem d_Mod_push_73 : decode b_Mod_push 73 = .ok (.iconst 1, 1) := by decide +kernel
theorem d_Mod_push_74 : decode b_Mod_push 74 = .ok (.ireturn, 1) := by decide +kernel
theorem d_Mod_pushNumber_0 : decode b_Mod_pushNumber 0 = .ok (.iload_n 1, 1) := by decide +kernel
theorem d_Mod_pushNumber_1 : decode b_Mod_pushNumber 1 = .ok (.ifCond .ne 14, 3) := by decide +kernel
theorem d_Mod_pushNumber_4 : decode b_Mod_pushNumber 4 = .ok (.aload_n 0, 1) := by decide +kernel
theorem d_Mod_pushNumber_5 : decode b_Mod_pushNumber 5 = .ok (.aload_n 0, 1) := by decide +kernel
theorem d_Mod_pushNumber_6 : decode b_Mod_pushNumber 6 = .ok (.getfield 32, 3) := by decide +kernel
theorem d_Mod_pushNumber_9 : decode b_Mod_pushNumber 9 = .ok (.iconst 0, 1) := by decide +kernel
theorem d_Mod_pushNumber_10 : decode b_Mod_pushNumber 10 = .ok (.iconst 0, 1) := by decide +kernel
theorem d_Mod_pushNumber_11 : decode b_Mod_pushNumber 11 = .ok (.invokevirtual 70, 3) := by decide +kernel
theorem d_Mod_pushNumber_14 : decode b_Mod_pushNumber 14 = .ok (.ireturn, 1) := by decide +kernel
theorem d_Mod_pushNumber_15 : decode b_Mod_pushNumber 15 = .ok (.iconst 0, 1) := by decide +kernel
theorem d_Mod_pushNumber_16 : decode b_Mod_pushNumber 16 = .ok (.istore_n 2, 1) := by decide +kernel
theorem d_Mod_pushNumber_17 : decode b_Mod_pushNumber 17 = .ok (.iload_n 2, 1) := by decide +kernel
theorem d_Mod_pushNumber_18 : decode b_Mod_pushNumber 18 = .ok (.iconst 4, 1) := by decide +kernel
theorem d_Mod_pushNumber_19 : decode b_Mod_pushNumber 19 = .ok (.if_icmp .ge 25, 3) := by decide +kernel
theorem d_Mod_pushNumber_22 : decode b_Mod_pushNumber 22 = .ok (.aload_n 0, 1) := by decide +kernel
theorem d_Mod_pushNumber_23 : decode b_Mod_pushNumber 23 = .ok (.getfield 32, 3) := by decide +kernel
theorem d_Mod_pushNumber_26 : decode b_Mod_pushNumber 26 = .ok (.iload_n 2, 1) := by decide +kernel
theorem d_Mod_pushNumber_27 : decode b_Mod_pushNumber 27 = .ok (.iload_n 1, 1) := by decide +kernel
theorem d_Mod_pushNumber_28 : decode b_Mod_pushNumber 28 = .ok (.bipush 24, 2) := by decide +kernel
theorem d_Mod_pushNumber_30 : decode b_Mod_pushNumber 30 = .ok (.bipush 8, 2) := by decide +kernel
theorem d_Mod_pushNumber_32 : decode b_Mod_pushNumber 32 = .ok (.iload_n 2, 1) := by decide +kernel
theorem d_Mod_pushNumber_33 : decode b_Mod_pushNumber 33 = .ok (.imul, 1) := by decide +kernel
theorem d_Mod_pushNumber_34 : decode b_Mod_pushNumber 34 = .ok (.isub, 1) := by decide +kernel
theorem d_Mod_pushNumber_35 : decode b_Mod_pushNumber 35 = .ok (.ishr, 1) := by decide +kernel
theorem d_Mod_pushNumber_36 : decode b_Mod_pushNumber 36 = .ok (.i2b, 1) := by decide +kernel
theorem d_Mod_pushNumber_37 : decode b_Mod_pushNumber 37 = .ok (.bastore, 1) := by decide +kernel
theorem d_Mod_pushNumber_38 : decode b_Mod_pushNumber 38 = .ok (.iinc 2 1, 3) := by decide +kernel
theorem d_Mod_pushNumber_41 : decode b_Mod_pushNumber 41 = .ok (.goto (-24), 3) := by decide +kernel
theorem d_Mod_pushNumber_44 : decode b_Mod_pushNumber 44 = .ok (.aload_n 0, 1) := by decide +kernel
theorem d_Mod_pushNumber_45 : decode b_Mod_pushNumber 45 = .ok (.aload_n 0, 1) := by decide +kernel
theorem d_Mod_pushNumber_46 : decode b_Mod_pushNumber 46 = .ok (.getfield 32, 3) := by decide +kernel
theorem d_Mod_pushNumber_49 : decode b_Mod_pushNumber 49 = .ok (.iconst 0, 1) := by decide +kernel
theorem d_Mod_pushNumber_50 : decode b_Mod_pushNumber 50 = .ok (.iconst 4, 1) := by decide +kernel
theorem d_Mod_pushNumber_51 : decode b_Mod_pushNumber 51 = .ok (.invokevirtual 70, 3) := by decide +kernel
theorem d_Mod_pushNumber_54 : decode b_Mod_pushNumber 54 = .ok (.ireturn, 1) := by decide +kernel
theorem d_Mod_isTrue_0 : decode b_Mod_isTrue 0 = .ok (.iconst 0, 1) := by decide +kernel
theorem d_Mod_isTrue_1 : decode b_Mod_isTrue 1 = .ok (.istore_n 2, 1) := by decide +kernel
theorem d_Mod_isTrue_2 : decode b_Mod_isTrue 2 = .ok (.iload_n 2, 1) := by decide +kernel
theorem d_Mod_isTrue_3 : decode b_Mod_isTrue 3 = .ok (.aload_n 0, 1) := by decide +kernel
theorem d_Mod_isTrue_4 : decode b_Mod_isTrue 4 = .ok (.getfield 44, 3) := by decide +kernel
theorem d_Mod_isTrue_7 : decode b_Mod_isTrue 7 = .ok (.iload_n 1, 1) := by decide +kernel
theorem d_Mod_isTrue_8 : decode b_Mod_isTrue 8 = .ok (.iaload, 1) := by decide +kernel
theorem d_Mod_isTrue_9 : decode b_Mod_isTrue 9 = .ok (.if_icmp .ge 25, 3) := by decide +kernel
theorem d_Mod_isTrue_12 : decode b_Mod_isTrue 12 = .ok (.aload_n 0, 1) := by decide +kernel
theorem d_Mod_isTrue_13 : decode b_Mod_isTrue 13 = .ok (.getfield 41, 3) := by decide +kernel
theorem d_Mod_isTrue_16 : decode b_Mod_isTrue 16 = .ok (.bipush 80, 2) := by decide +kernel
theorem d_Mod_isTrue_18 : decode b_Mod_isTrue 18 = .ok (.iload_n 1, 1) := by decide +kernel
theorem d_Mod_isTrue_19 : decode b_Mod_isTrue 19 = .ok (.imul, 1) := by decide +kernel
theorem d_Mod_isTrue_20 : decode b_Mod_isTrue 20 = .ok (.iload_n 2, 1) := by decide +kernel
theorem d_Mod_isTrue_21 : decode b_Mod_isTrue 21 = .ok (.iadd, 1) := by decide +kernel
theorem d_Mod_isTrue_22 : decode b_Mod_isTrue 22 = .ok (.baload, 1) := by decide +kernel
theorem d_Mod_isTrue_23 : decode b_Mod_isTrue 23 = .ok (.ifCond .eq 5, 3) := by decide +kernel
theorem d_Mod_isTrue_26 : decode b_Mod_isTrue 26 = .ok (.iconst 1, 1) := by decide +kernel
theorem d_Mod_isTrue_27 : decode b_Mod_isTrue 27 = .ok (.ireturn, 1) := by decide +kernel
theorem d_Mod_isTrue_28 : decode b_Mod_isTrue 28 = .ok (.iinc 2 1, 3) := by decide +kernel
theorem d_Mod_isTrue_31 : decode b_Mod_isTrue 31 = .ok (.goto (-29), 3) := by decide +kernel
theorem d_Mod_isTrue_34 : decode b_Mod_isTrue 34 = .ok (.iconst 0, 1) := by decide +kernel
theorem d_Mod_isTrue_35 : decode b_Mod_isTrue 35 = .ok (.ireturn, 1) := by decide +kernel
theorem d_Mod_numberOf_0 : decode b_Mod_numberOf 0 = .ok (.aload_n 0, 1) := by decide +kernel
theorem d_Mod_numberOf_1 : decode b_Mod_numberOf 1 = .ok (.getfield 44, 3) := by decide +kernel
theorem d_Mod_numberOf_4 : decode b_Mod_numberOf 4 = .ok (.iload_n 1, 1) := by decide +kernel
theorem d_Mod_numberOf_5 : decode b_Mod_numberOf 5 = .ok (.iaload, 1) := by decide +kernel
theorem d_Mod_numberOf_6 : decode b_Mod_numberOf 6 = .ok (.ifCond .le 19, 3) := by decide +kernel
theorem d_Mod_numberOf_9 : decode b_Mod_numberOf 9 = .ok (.aload_n 0, 1) := by decide +kernel
theorem d_Mod_numberOf_10 : decode b_Mod_numberOf 10 = .ok (.getfield 41, 3) := by decide +kernel
theorem d_Mod_numberOf_13 : decode b_Mod_numberOf 13 = .ok (.bipush 80, 2) := by decide +kernel
theorem d_Mod_numberOf_15 : decode b_Mod_numberOf 15 = .ok (.iload_n 1, 1) := by decide +kernel
theorem d_Mod_numberOf_16 : decode b_Mod_numberOf 16 = .ok (.imul, 1) := by decide +kernel
theorem d_Mod_numberOf_17 : decode b_Mod_numberOf 17 = .ok (.baload, 1) := by decide +kernel
theorem d_Mod_numberOf_18 : decode b_Mod_numberOf 18 = .ok (.ifCond .ge 7, 3) := by decide +kernel
theorem d_Mod_numberOf_21 : decode b_Mod_numberOf 21 = .ok (.iconst (-1), 1) := by decide +kernel
theorem d_Mod_numberOf_22 : decode b_Mod_numberOf 22 = .ok (.goto 4, 3) := by decide +kernel
theorem d_Mod_numberOf_25 : decode b_Mod_numberOf 25 = .ok (.iconst 0, 1) := by decide +kernel
theorem d_Mod_numberOf_26 : decode b_Mod_numberOf 26 = .ok (.istore_n 2, 1) := by decide +kernel
theorem d_Mod_numberOf_27 : decode b_Mod_numberOf 27 = .ok (.iconst 0, 1) := by decide +kernel
theorem d_Mod_numberOf_28 : decode b_Mod_numberOf 28 = .ok (.istore_n 3, 1) := by decide +kernel
theorem d_Mod_numberOf_29 : decode b_Mod_numberOf 29 = .ok (.iload_n 3, 1) := by decide +kernel
theorem d_Mod_numberOf_30 : decode b_Mod_numberOf 30 = .ok (.aload_n 0, 1) := by decide +kernel
theorem d_Mod_numberOf_31 : decode b_Mod_numberOf 31 = .ok (.getfield 44, 3) := by decide +kernel
theorem d_Mod_numberOf_34 : decode b_Mod_numberOf 34 = .ok (.iload_n 1, 1) := by decide +kernel
theorem d_Mod_numberOf_35 : decode b_Mod_numberOf 35 = .ok (.iaload, 1) := by decide +kernel
theorem d_Mod_numberOf_36 : decode b_Mod_numberOf 36 = .ok (.if_icmp .ge 30, 3) := by decide +kernel
theorem d_Mod_numberOf_39 : decode b_Mod_numberOf 39 = .ok (.iload_n 2, 1) := by decide +kernel
theorem d_Mod_numberOf_40 : decode b_Mod_numberOf 40 = .ok (.bipush 8, 2) := by decide +kernel
theorem d_Mod_numberOf_42 : decode b_Mod_numberOf 42 = .ok (.ishl, 1) := by decide +kernel
theorem d_Mod_numberOf_43 : decode b_Mod_numberOf 43 = .ok (.aload_n 0, 1) := by decide +kernel
theorem d_Mod_numberOf_44 : decode b_Mod_numberOf 44 = .ok (.getfield 41, 3) := by decide +kernel
theorem d_Mod_numberOf_47 : decode b_Mod_numberOf 47 = .ok (.bipush 80, 2) := by decide +kernel
theorem d_Mod_numberOf_49 : decode b_Mod_numberOf 49 = .ok (.iload_n 1, 1) := by decide +kernel
theorem d_Mod_numberOf_50 : decode b_Mod_numberOf 50 = .ok (.imul, 1) := by decide +kernel
theorem d_Mod_numberOf_51 : decode b_Mod_numberOf 51 = .ok (.iload_n 3, 1) := by decide +kernel
theorem d_Mod_numberOf_52 : decode b_Mod_numberOf 52 = .ok (.iadd, 1) := by decide +kernel
theorem d_Mod_numberOf_53 : decode b_Mod_numberOf 53 = .ok (.baload, 1) := by decide +kernel
theorem d_Mod_numberOf_54 : decode b_Mod_numberOf 54 = .ok (.sipush 255, 3) := by decide +kernel
theorem d_Mod_numberOf_57 : decode b_Mod_numberOf 57 = .ok (.iand, 1) := by decide +kernel
theorem d_Mod_numberOf_58 : decode b_Mod_numberOf 58 = .ok (.ior, 1) := by decide +kernel
theorem d_Mod_numberOf_59 : decode b_Mod_numberOf 59 = .ok (.istore_n 2, 1) := by decide +kernel
theorem d_Mod_numberOf_60 : decode b_Mod_numberOf 60 = .ok (.iinc 3 1, 3) := by decide +kernel
theorem d_Mod_numberOf_63 : decode b_Mod_numberOf 63 = .ok (.goto (-34), 3) := by decide +kernel
theorem d_Mod_numberOf_66 : decode b_Mod_numberOf 66 = .ok (.iload_n 2, 1) := by decide +kernel
theorem d_Mod_numberOf_67 : decode b_Mod_numberOf 67 = .ok (.ireturn, 1) := by decide +kernel
