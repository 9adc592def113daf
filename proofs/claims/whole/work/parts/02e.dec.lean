theorem d_Mod_signed_0 : decode b_Mod_signed 0 = .ok (.iconst 0, 1) := by decide +kernel
theorem d_Mod_signed_1 : decode b_Mod_signed 1 = .ok (.istore_n 3, 1) := by decide +kernel
theorem d_Mod_signed_2 : decode b_Mod_signed 2 = .ok (.iload_n 3, 1) := by decide +kernel
theorem d_Mod_signed_3 : decode b_Mod_signed 3 = .ok (.aload_n 0, 1) := by decide +kernel
theorem d_Mod_signed_4 : decode b_Mod_signed 4 = .ok (.getfield 44, 3) := by decide +kernel
theorem d_Mod_signed_7 : decode b_Mod_signed 7 = .ok (.iload_n 2, 1) := by decide +kernel
theorem d_Mod_signed_8 : decode b_Mod_signed 8 = .ok (.iaload, 1) := by decide +kernel
theorem d_Mod_signed_9 : decode b_Mod_signed 9 = .ok (.if_icmp .ge 26, 3) := by decide +kernel
theorem d_Mod_signed_12 : decode b_Mod_signed 12 = .ok (.aload_n 0, 1) := by decide +kernel
theorem d_Mod_signed_13 : decode b_Mod_signed 13 = .ok (.getfield 38, 3) := by decide +kernel
theorem d_Mod_signed_16 : decode b_Mod_signed 16 = .ok (.iload_n 3, 1) := by decide +kernel
theorem d_Mod_signed_17 : decode b_Mod_signed 17 = .ok (.aload_n 0, 1) := by decide +kernel
theorem d_Mod_signed_18 : decode b_Mod_signed 18 = .ok (.getfield 41, 3) := by decide +kernel
theorem d_Mod_signed_21 : decode b_Mod_signed 21 = .ok (.bipush 80, 2) := by decide +kernel
theorem d_Mod_signed_23 : decode b_Mod_signed 23 = .ok (.iload_n 2, 1) := by decide +kernel
theorem d_Mod_signed_24 : decode b_Mod_signed 24 = .ok (.imul, 1) := by decide +kernel
theorem d_Mod_signed_25 : decode b_Mod_signed 25 = .ok (.iload_n 3, 1) := by decide +kernel
theorem d_Mod_signed_26 : decode b_Mod_signed 26 = .ok (.iadd, 1) := by decide +kernel
theorem d_Mod_signed_27 : decode b_Mod_signed 27 = .ok (.baload, 1) := by decide +kernel
theorem d_Mod_signed_28 : decode b_Mod_signed 28 = .ok (.bastore, 1) := by decide +kernel
theorem d_Mod_signed_29 : decode b_Mod_signed 29 = .ok (.iinc 3 1, 3) := by decide +kernel
theorem d_Mod_signed_32 : decode b_Mod_signed 32 = .ok (.goto (-30), 3) := by decide +kernel
theorem d_Mod_signed_35 : decode b_Mod_signed 35 = .ok (.iconst 0, 1) := by decide +kernel
theorem d_Mod_signed_36 : decode b_Mod_signed 36 = .ok (.istore_n 3, 1) := by decide +kernel
theorem d_Mod_signed_37 : decode b_Mod_signed 37 = .ok (.iload_n 3, 1) := by decide +kernel
theorem d_Mod_signed_38 : decode b_Mod_signed 38 = .ok (.bipush 32, 2) := by decide +kernel
theorem d_Mod_signed_40 : decode b_Mod_signed 40 = .ok (.if_icmp .ge 28, 3) := by decide +kernel
theorem d_Mod_signed_43 : decode b_Mod_signed 43 = .ok (.aload_n 0, 1) := by decide +kernel
theorem d_Mod_signed_44 : decode b_Mod_signed 44 = .ok (.getfield 38, 3) := by decide +kernel
theorem d_Mod_signed_47 : decode b_Mod_signed 47 = .ok (.aload_n 0, 1) := by decide +kernel
theorem d_Mod_signed_48 : decode b_Mod_signed 48 = .ok (.getfield 44, 3) := by decide +kernel
theorem d_Mod_signed_51 : decode b_Mod_signed 51 = .ok (.iload_n 2, 1) := by decide +kernel
theorem d_Mod_signed_52 : decode b_Mod_signed 52 = .ok (.iaload, 1) := by decide +kernel
theorem d_Mod_signed_53 : decode b_Mod_signed 53 = .ok (.iload_n 3, 1) := by decide +kernel
theorem d_Mod_signed_54 : decode b_Mod_signed 54 = .ok (.iadd, 1) := by decide +kernel
theorem d_Mod_signed_55 : decode b_Mod_signed 55 = .ok (.aload_n 0, 1) := by decide +kernel
theorem d_Mod_signed_56 : decode b_Mod_signed 56 = .ok (.getfield 23, 3) := by decide +kernel
theorem d_Mod_signed_59 : decode b_Mod_signed 59 = .ok (.iload_n 3, 1) := by decide +kernel
theorem d_Mod_signed_60 : decode b_Mod_signed 60 = .ok (.baload, 1) := by decide +kernel
theorem d_Mod_signed_61 : decode b_Mod_signed 61 = .ok (.bastore, 1) := by decide +kernel
theorem d_Mod_signed_62 : decode b_Mod_signed 62 = .ok (.iinc 3 1, 3) := by decide +kernel
theorem d_Mod_signed_65 : decode b_Mod_signed 65 = .ok (.goto (-28), 3) := by decide +kernel
theorem d_Mod_signed_68 : decode b_Mod_signed 68 = .ok (.aload_n 0, 1) := by decide +kernel
theorem d_Mod_signed_69 : decode b_Mod_signed 69 = .ok (.aload_n 0, 1) := by decide +kernel
theorem d_Mod_signed_70 : decode b_Mod_signed 70 = .ok (.getfield 38, 3) := by decide +kernel
theorem d_Mod_signed_73 : decode b_Mod_signed 73 = .ok (.iconst 0, 1) := by decide +kernel
theorem d_Mod_signed_74 : decode b_Mod_signed 74 = .ok (.aload_n 0, 1) := by decide +kernel
theorem d_Mod_signed_75 : decode b_Mod_signed 75 = .ok (.getfield 44, 3) := by decide +kernel
theorem d_Mod_signed_78 : decode b_Mod_signed 78 = .ok (.iload_n 2, 1) := by decide +kernel
theorem d_Mod_signed_79 : decode b_Mod_signed 79 = .ok (.iaload, 1) := by decide +kernel
theorem d_Mod_signed_80 : decode b_Mod_signed 80 = .ok (.bipush 32, 2) := by decide +kernel
theorem d_Mod_signed_82 : decode b_Mod_signed 82 = .ok (.iadd, 1) := by decide +kernel
theorem d_Mod_signed_83 : decode b_Mod_signed 83 = .ok (.aload_n 0, 1) := by decide +kernel
theorem d_Mod_signed_84 : decode b_Mod_signed 84 = .ok (.getfield 35, 3) := by decide +kernel
theorem d_Mod_signed_87 : decode b_Mod_signed 87 = .ok (.iconst 0, 1) := by decide +kernel
theorem d_Mod_signed_88 : decode b_Mod_signed 88 = .ok (.invokevirtual 74, 3) := by decide +kernel
theorem d_Mod_signed_91 : decode b_Mod_signed 91 = .ok (.aload_n 0, 1) := by decide +kernel
theorem d_Mod_signed_92 : decode b_Mod_signed 92 = .ok (.getfield 44, 3) := by decide +kernel
theorem d_Mod_signed_95 : decode b_Mod_signed 95 = .ok (.iload_n 1, 1) := by decide +kernel
theorem d_Mod_signed_96 : decode b_Mod_signed 96 = .ok (.iaload, 1) := by decide +kernel
theorem d_Mod_signed_97 : decode b_Mod_signed 97 = .ok (.bipush 8, 2) := by decide +kernel
theorem d_Mod_signed_99 : decode b_Mod_signed 99 = .ok (.if_icmp .ne 28, 3) := by decide +kernel
theorem d_Mod_signed_102 : decode b_Mod_signed 102 = .ok (.aload_n 0, 1) := by decide +kernel
theorem d_Mod_signed_103 : decode b_Mod_signed 103 = .ok (.getfield 41, 3) := by decide +kernel
theorem d_Mod_signed_106 : decode b_Mod_signed 106 = .ok (.bipush 80, 2) := by decide +kernel
theorem d_Mod_signed_108 : decode b_Mod_signed 108 = .ok (.iload_n 1, 1) := by decide +kernel
theorem d_Mod_signed_109 : decode b_Mod_signed 109 = .ok (.imul, 1) := by decide +kernel
theorem d_Mod_signed_110 : decode b_Mod_signed 110 = .ok (.aload_n 0, 1) := by decide +kernel
theorem d_Mod_signed_111 : decode b_Mod_signed 111 = .ok (.getfield 35, 3) := by decide +kernel
theorem d_Mod_signed_114 : decode b_Mod_signed 114 = .ok (.iconst 0, 1) := by decide +kernel
theorem d_Mod_signed_115 : decode b_Mod_signed 115 = .ok (.bipush 8, 2) := by decide +kernel
theorem d_Mod_signed_117 : decode b_Mod_signed 117 = .ok (.invokestatic 77, 3) := by decide +kernel
theorem d_Mod_signed_120 : decode b_Mod_signed 120 = .ok (.ifCond .eq 7, 3) := by decide +kernel
theorem d_Mod_signed_123 : decode b_Mod_signed 123 = .ok (.iconst 1, 1) := by decide +kernel
theorem d_Mod_signed_124 : decode b_Mod_signed 124 = .ok (.goto 4, 3) := by decide +kernel
theorem d_Mod_signed_127 : decode b_Mod_signed 127 = .ok (.iconst 0, 1) := by decide +kernel
theorem d_Mod_signed_128 : decode b_Mod_signed 128 = .ok (.ireturn, 1) := by decide +kernel
theorem d_Mod_many_0 : decode b_Mod_many 0 = .ok (.aload_n 0, 1) := by decide +kernel
theorem d_Mod_many_1 : decode b_Mod_many 1 = .ok (.getfield 66, 3) := by decide +kernel
theorem d_Mod_many_4 : decode b_Mod_many 4 = .ok (.iconst 1, 1) := by decide +kernel
theorem d_Mod_many_5 : decode b_Mod_many 5 = .ok (.if_icmp .lt 18, 3) := by decide +kernel
theorem d_Mod_many_8 : decode b_Mod_many 8 = .ok (.aload_n 0, 1) := by decide +kernel
theorem d_Mod_many_9 : decode b_Mod_many 9 = .ok (.getfield 44, 3) := by decide +kernel
theorem d_Mod_many_12 : decode b_Mod_many 12 = .ok (.aload_n 0, 1) := by decide +kernel
theorem d_Mod_many_13 : decode b_Mod_many 13 = .ok (.getfield 66, 3) := by decide +kernel
theorem d_Mod_many_16 : decode b_Mod_many 16 = .ok (.iconst 1, 1) := by decide +kernel
theorem d_Mod_many_17 : decode b_Mod_many 17 = .ok (.isub, 1) := by decide +kernel
theorem d_Mod_many_18 : decode b_Mod_many 18 = .ok (.iaload, 1) := by decide +kernel
theorem d_Mod_many_19 : decode b_Mod_many 19 = .ok (.iconst 4, 1) := by decide +kernel
theorem d_Mod_many_20 : decode b_Mod_many 20 = .ok (.if_icmp .le 5, 3) := by decide +kernel
theorem d_Mod_many_23 : decode b_Mod_many 23 = .ok (.iconst 0, 1) := by decide +kernel
theorem d_Mod_many_24 : decode b_Mod_many 24 = .ok (.ireturn, 1) := by decide +kernel
theorem d_Mod_many_25 : decode b_Mod_many 25 = .ok (.aload_n 0, 1) := by decide +kernel
theorem d_Mod_many_26 : decode b_Mod_many 26 = .ok (.aload_n 0, 1) := by decide +kernel
theorem d_Mod_many_27 : decode b_Mod_many 27 = .ok (.getfield 66, 3) := by decide +kernel
theorem d_Mod_many_30 : decode b_Mod_many 30 = .ok (.iconst 1, 1) := by decide +kernel
theorem d_Mod_many_31 : decode b_Mod_many 31 = .ok (.isub, 1) := by decide +kernel
theorem d_Mod_many_32 : decode b_Mod_many 32 = .ok (.invokevirtual 81, 3) := by decide +kernel
theorem d_Mod_many_35 : decode b_Mod_many 35 = .ok (.istore_n 1, 1) := by decide +kernel
theorem d_Mod_many_36 : decode b_Mod_many 36 = .ok (.iload_n 1, 1) := by decide +kernel
theorem d_Mod_many_37 : decode b_Mod_many 37 = .ok (.ifCond .lt 19, 3) := by decide +kernel
theorem d_Mod_many_40 : decode b_Mod_many 40 = .ok (.iload_n 1, 1) := by decide +kernel
theorem d_Mod_many_41 : decode b_Mod_many 41 = .ok (.bipush 8, 2) := by decide +kernel
theorem d_Mod_many_43 : decode b_Mod_many 43 = .ok (.if_icmp .gt 13, 3) := by decide +kernel
theorem d_Mod_many_46 : decode b_Mod_many 46 = .ok (.aload_n 0, 1) := by decide +kernel
theorem d_Mod_many_47 : decode b_Mod_many 47 = .ok (.getfield 66, 3) := by decide +kernel
theorem d_Mod_many_50 : decode b_Mod_many 50 = .ok (.iload_n 1, 1) := by decide +kernel
theorem d_Mod_many_51 : decode b_Mod_many 51 = .ok (.iconst 2, 1) := by decide +kernel
theorem d_Mod_many_52 : decode b_Mod_many 52 = .ok (.iadd, 1) := by decide +kernel
theorem d_Mod_many_53 : decode b_Mod_many 53 = .ok (.if_icmp .ge 5, 3) := by decide +kernel
theorem d_Mod_many_56 : decode b_Mod_many 56 = .ok (.iconst 0, 1) := by decide +kernel
theorem d_Mod_many_57 : decode b_Mod_many 57 = .ok (.ireturn, 1) := by decide +kernel
theorem d_Mod_many_58 : decode b_Mod_many 58 = .ok (.aload_n 0, 1) := by decide +kernel
theorem d_Mod_many_59 : decode b_Mod_many 59 = .ok (.getfield 66, 3) := by decide +kernel
theorem d_Mod_many_62 : decode b_Mod_many 62 = .ok (.iconst 1, 1) := by decide +kernel
theorem d_Mod_many_63 : decode b_Mod_many 63 = .ok (.isub, 1) := by decide +kernel
theorem d_Mod_many_64 : decode b_Mod_many 64 = .ok (.iload_n 1, 1) := by decide +kernel
theorem d_Mod_many_65 : decode b_Mod_many 65 = .ok (.isub, 1) := by decide +kernel
theorem d_Mod_many_66 : decode b_Mod_many 66 = .ok (.istore_n 2, 1) := by decide +kernel
theorem d_Mod_many_67 : decode b_Mod_many 67 = .ok (.aload_n 0, 1) := by decide +kernel
theorem d_Mod_many_68 : decode b_Mod_many 68 = .ok (.getfield 44, 3) := by decide +kernel
theorem d_Mod_many_71 : decode b_Mod_many 71 = .ok (.iload_n 2, 1) := by decide +kernel
theorem d_Mod_many_72 : decode b_Mod_many 72 = .ok (.iconst 1, 1) := by decide +kernel
theorem d_Mod_many_73 : decode b_Mod_many 73 = .ok (.isub, 1) := by decide +kernel
theorem d_Mod_many_74 : decode b_Mod_many 74 = .ok (.iaload, 1) := by decide +kernel
theorem d_Mod_many_75 : decode b_Mod_many 75 = .ok (.iconst 4, 1) := by decide +kernel
theorem d_Mod_many_76 : decode b_Mod_many 76 = .ok (.if_icmp .le 5, 3) := by decide +kernel
theorem d_Mod_many_79 : decode b_Mod_many 79 = .ok (.iconst 0, 1) := by decide +kernel
theorem d_Mod_many_80 : decode b_Mod_many 80 = .ok (.ireturn, 1) := by decide +kernel
theorem d_Mod_many_81 : decode b_Mod_many 81 = .ok (.aload_n 0, 1) := by decide +kernel
theorem d_Mod_many_82 : decode b_Mod_many 82 = .ok (.iload_n 2, 1) := by decide +kernel
theorem d_Mod_many_83 : decode b_Mod_many 83 = .ok (.iconst 1, 1) := by decide +kernel
theorem d_Mod_many_84 : decode b_Mod_many 84 = .ok (.isub, 1) := by decide +kernel
theorem d_Mod_many_85 : decode b_Mod_many 85 = .ok (.invokevirtual 81, 3) := by decide +kernel
theorem d_Mod_many_88 : decode b_Mod_many 88 = .ok (.istore_n 3, 1) := by decide +kernel
theorem d_Mod_many_89 : decode b_Mod_many 89 = .ok (.iload_n 3, 1) := by decide +kernel
theorem d_Mod_many_90 : decode b_Mod_many 90 = .ok (.ifCond .lt 15, 3) := by decide +kernel
theorem d_Mod_many_93 : decode b_Mod_many 93 = .ok (.iload_n 3, 1) := by decide +kernel
theorem d_Mod_many_94 : decode b_Mod_many 94 = .ok (.iload_n 1, 1) := by decide +kernel
theorem d_Mod_many_95 : decode b_Mod_many 95 = .ok (.if_icmp .gt 10, 3) := by decide +kernel
theorem d_Mod_many_98 : decode b_Mod_many 98 = .ok (.iload_n 2, 1) := by decide +kernel
theorem d_Mod_many_99 : decode b_Mod_many 99 = .ok (.iconst 1, 1) := by decide +kernel
theorem d_Mod_many_100 : decode b_Mod_many 100 = .ok (.isub, 1) := by decide +kernel
theorem d_Mod_many_101 : decode b_Mod_many 101 = .ok (.iload_n 3, 1) := by decide +kernel
theorem d_Mod_many_102 : decode b_Mod_many 102 = .ok (.if_icmp .ge 5, 3) := by decide +kernel
theorem d_Mod_many_105 : decode b_Mod_many 105 = .ok (.iconst 0, 1) := by decide +kernel
theorem d_Mod_many_106 : decode b_Mod_many 106 = .ok (.ireturn, 1) := by decide +kernel
theorem d_Mod_many_107 : decode b_Mod_many 107 = .ok (.iload_n 2, 1) := by decide +kernel
theorem d_Mod_many_108 : decode b_Mod_many 108 = .ok (.iconst 1, 1) := by decide +kernel
theorem d_Mod_many_109 : decode b_Mod_many 109 = .ok (.isub, 1) := by decide +kernel
theorem d_Mod_many_110 : decode b_Mod_many 110 = .ok (.iload_n 3, 1) := by decide +kernel
theorem d_Mod_many_111 : decode b_Mod_many 111 = .ok (.isub, 1) := by decide +kernel
theorem d_Mod_many_112 : decode b_Mod_many 112 = .ok (.istore 4, 2) := by decide +kernel
theorem d_Mod_many_114 : decode b_Mod_many 114 = .ok (.iconst 0, 1) := by decide +kernel
theorem d_Mod_many_115 : decode b_Mod_many 115 = .ok (.istore 5, 2) := by decide +kernel
theorem d_Mod_many_117 : decode b_Mod_many 117 = .ok (.iconst 0, 1) := by decide +kernel
theorem d_Mod_many_118 : decode b_Mod_many 118 = .ok (.istore 6, 2) := by decide +kernel
theorem d_Mod_many_120 : decode b_Mod_many 120 = .ok (.iconst 0, 1) := by decide +kernel
theorem d_Mod_many_121 : decode b_Mod_many 121 = .ok (.istore 7, 2) := by decide +kernel
theorem d_Mod_many_123 : decode b_Mod_many 123 = .ok (.iload 7, 2) := by decide +kernel
theorem d_Mod_many_125 : decode b_Mod_many 125 = .ok (.iload_n 3, 1) := by decide +kernel
theorem d_Mod_many_126 : decode b_Mod_many 126 = .ok (.if_icmp .ge 52, 3) := by decide +kernel
theorem d_Mod_many_129 : decode b_Mod_many 129 = .ok (.iconst 0, 1) := by decide +kernel
theorem d_Mod_many_130 : decode b_Mod_many 130 = .ok (.istore 8, 2) := by decide +kernel
theorem d_Mod_many_132 : decode b_Mod_many 132 = .ok (.iload 5, 2) := by decide +kernel
theorem d_Mod_many_134 : decode b_Mod_many 134 = .ok (.iload_n 1, 1) := by decide +kernel
theorem d_Mod_many_135 : decode b_Mod_many 135 = .ok (.if_icmp .ge 29, 3) := by decide +kernel
theorem d_Mod_many_138 : decode b_Mod_many 138 = .ok (.iload 8, 2) := by decide +kernel
theorem d_Mod_many_140 : decode b_Mod_many 140 = .ok (.ifCond .ne 24, 3) := by decide +kernel
theorem d_Mod_many_143 : decode b_Mod_many 143 = .ok (.aload_n 0, 1) := by decide +kernel
theorem d_Mod_many_144 : decode b_Mod_many 144 = .ok (.iload 4, 2) := by decide +kernel
theorem d_Mod_many_146 : decode b_Mod_many 146 = .ok (.iload 7, 2) := by decide +kernel
theorem d_Mod_many_148 : decode b_Mod_many 148 = .ok (.iadd, 1) := by decide +kernel
theorem d_Mod_many_149 : decode b_Mod_many 149 = .ok (.iload_n 2, 1) := by decide +kernel
theorem d_Mod_many_150 : decode b_Mod_many 150 = .ok (.iload 5, 2) := by decide +kernel
theorem d_Mod_many_152 : decode b_Mod_many 152 = .ok (.iadd, 1) := by decide +kernel
theorem d_Mod_many_153 : decode b_Mod_many 153 = .ok (.invokevirtual 85, 3) := by decide +kernel
theorem d_Mod_many_156 : decode b_Mod_many 156 = .ok (.istore 8, 2) := by decide +kernel
theorem d_Mod_many_158 : decode b_Mod_many 158 = .ok (.iinc 5 1, 3) := by decide +kernel
theorem d_Mod_many_161 : decode b_Mod_many 161 = .ok (.goto (-29), 3) := by decide +kernel
theorem d_Mod_many_164 : decode b_Mod_many 164 = .ok (.iload 8, 2) := by decide +kernel
theorem d_Mod_many_166 : decode b_Mod_many 166 = .ok (.ifCond .eq 6, 3) := by decide +kernel
theorem d_Mod_many_169 : decode b_Mod_many 169 = .ok (.iinc 6 1, 3) := by decide +kernel
theorem d_Mod_many_172 : decode b_Mod_many 172 = .ok (.iinc 7 1, 3) := by decide +kernel
theorem d_Mod_many_175 : decode b_Mod_many 175 = .ok (.goto (-52), 3) := by decide +kernel
theorem d_Mod_many_178 : decode b_Mod_many 178 = .ok (.aload_n 0, 1) := by decide +kernel
theorem d_Mod_many_179 : decode b_Mod_many 179 = .ok (.iload 4, 2) := by decide +kernel
theorem d_Mod_many_181 : decode b_Mod_many 181 = .ok (.putfield 66, 3) := by decide +kernel
theorem d_Mod_many_184 : decode b_Mod_many 184 = .ok (.aload_n 0, 1) := by decide +kernel
theorem d_Mod_many_185 : decode b_Mod_many 185 = .ok (.iload 6, 2) := by decide +kernel
theorem d_Mod_many_187 : decode b_Mod_many 187 = .ok (.iload_n 3, 1) := by decide +kernel
theorem d_Mod_many_188 : decode b_Mod_many 188 = .ok (.if_icmp .ne 7, 3) := by decide +kernel
theorem d_Mod_many_191 : decode b_Mod_many 191 = .ok (.iconst 1, 1) := by decide +kernel
theorem d_Mod_many_192 : decode b_Mod_many 192 = .ok (.goto 4, 3) := by decide +kernel
theorem d_Mod_many_195 : decode b_Mod_many 195 = .ok (.iconst 0, 1) := by decide +kernel
theorem d_Mod_many_196 : decode b_Mod_many 196 = .ok (.invokevirtual 89, 3) := by decide +kernel
theorem d_Mod_many_199 : decode b_Mod_many 199 = .ok (.ireturn, 1) := by decide +kernel
theorem d_Mod_act_0 : decode b_Mod_act 0 = .ok (.aload_n 0, 1) := by decide +kernel
theorem d_Mod_act_1 : decode b_Mod_act 1 = .ok (.getfield 66, 3) := by decide +kernel
theorem d_Mod_act_4 : decode b_Mod_act 4 = .ok (.iconst 2, 1) := by decide +kernel
theorem d_Mod_act_5 : decode b_Mod_act 5 = .ok (.isub, 1) := by decide +kernel
theorem d_Mod_act_6 : decode b_Mod_act 6 = .ok (.istore_n 3, 1) := by decide +kernel
theorem d_Mod_act_7 : decode b_Mod_act 7 = .ok (.aload_n 0, 1) := by decide +kernel
theorem d_Mod_act_8 : decode b_Mod_act 8 = .ok (.getfield 66, 3) := by decide +kernel
theorem d_Mod_act_11 : decode b_Mod_act 11 = .ok (.iconst 1, 1) := by decide +kernel
theorem d_Mod_act_12 : decode b_Mod_act 12 = .ok (.isub, 1) := by decide +kernel
theorem d_Mod_act_13 : decode b_Mod_act 13 = .ok (.istore 4, 2) := by decide +kernel
theorem d_Mod_act_15 : decode b_Mod_act 15 = .ok (.iload_n 1, 1) := by decide +kernel
theorem d_Mod_act_16 : decode b_Mod_act 16 = .ok (.bipush 82, 2) := by decide +kernel
theorem d_Mod_act_18 : decode b_Mod_act 18 = .ok (.if_icmp .eq 33, 3) := by decide +kernel
theorem d_Mod_act_21 : decode b_Mod_act 21 = .ok (.iload_n 1, 1) := by decide +kernel
theorem d_Mod_act_22 : decode b_Mod_act 22 = .ok (.bipush 83, 2) := by decide +kernel
theorem d_Mod_act_24 : decode b_Mod_act 24 = .ok (.if_icmp .eq 27, 3) := by decide +kernel
theorem d_Mod_act_27 : decode b_Mod_act 27 = .ok (.iload_n 1, 1) := by decide +kernel
theorem d_Mod_act_28 : decode b_Mod_act 28 = .ok (.bipush 86, 2) := by decide +kernel
theorem d_Mod_act_30 : decode b_Mod_act 30 = .ok (.if_icmp .eq 21, 3) := by decide +kernel
theorem d_Mod_act_33 : decode b_Mod_act 33 = .ok (.iload_n 1, 1) := by decide +kernel
theorem d_Mod_act_34 : decode b_Mod_act 34 = .ok (.bipush 89, 2) := by decide +kernel
theorem d_Mod_act_36 : decode b_Mod_act 36 = .ok (.if_icmp .lt 9, 3) := by decide +kernel
theorem d_Mod_act_39 : decode b_Mod_act 39 = .ok (.iload_n 1, 1) := by decide +kernel
theorem d_Mod_act_40 : decode b_Mod_act 40 = .ok (.bipush 92, 2) := by decide +kernel
theorem d_Mod_act_42 : decode b_Mod_act 42 = .ok (.if_icmp .le 9, 3) := by decide +kernel
theorem d_Mod_act_45 : decode b_Mod_act 45 = .ok (.iload_n 1, 1) := by decide +kernel
theorem d_Mod_act_46 : decode b_Mod_act 46 = .ok (.bipush 95, 2) := by decide +kernel
theorem d_Mod_act_48 : decode b_Mod_act 48 = .ok (.if_icmp .ne 7, 3) := by decide +kernel
theorem d_Mod_act_51 : decode b_Mod_act 51 = .ok (.iconst 1, 1) := by decide +kernel
theorem d_Mod_act_52 : decode b_Mod_act 52 = .ok (.goto 4, 3) := by decide +kernel
theorem d_Mod_act_55 : decode b_Mod_act 55 = .ok (.iconst 0, 1) := by decide +kernel
theorem d_Mod_act_56 : decode b_Mod_act 56 = .ok (.istore 5, 2) := by decide +kernel
theorem d_Mod_act_58 : decode b_Mod_act 58 = .ok (.aload_n 0, 1) := by decide +kernel
theorem d_Mod_act_59 : decode b_Mod_act 59 = .ok (.getfield 66, 3) := by decide +kernel
theorem d_Mod_act_62 : decode b_Mod_act 62 = .ok (.iload 5, 2) := by decide +kernel
theorem d_Mod_act_64 : decode b_Mod_act 64 = .ok (.ifCond .eq 7, 3) := by decide +kernel
theorem d_Mod_act_67 : decode b_Mod_act 67 = .ok (.iconst 2, 1) := by decide +kernel
theorem d_Mod_act_68 : decode b_Mod_act 68 = .ok (.goto 14, 3) := by decide +kernel
theorem d_Mod_act_71 : decode b_Mod_act 71 = .ok (.iload_n 1, 1) := by decide +kernel
theorem d_Mod_act_72 : decode b_Mod_act 72 = .ok (.bipush 102, 2) := by decide +kernel
theorem d_Mod_act_74 : decode b_Mod_act 74 = .ok (.if_icmp .ne 7, 3) := by decide +kernel
theorem d_Mod_act_77 : decode b_Mod_act 77 = .ok (.iconst 0, 1) := by decide +kernel
theorem d_Mod_act_78 : decode b_Mod_act 78 = .ok (.goto 4, 3) := by decide +kernel
theorem d_Mod_act_81 : decode b_Mod_act 81 = .ok (.iconst 1, 1) := by decide +kernel
theorem d_Mod_act_82 : decode b_Mod_act 82 = .ok (.if_icmp .ge 5, 3) := by decide +kernel
theorem d_Mod_act_85 : decode b_Mod_act 85 = .ok (.iconst 0, 1) := by decide +kernel
theorem d_Mod_act_86 : decode b_Mod_act 86 = .ok (.ireturn, 1) := by decide +kernel
theorem d_Mod_act_87 : decode b_Mod_act 87 = .ok (.iload_n 1, 1) := by decide +kernel
theorem d_Mod_act_88 : decode b_Mod_act 88 = .ok (.bipush 88, 2) := by decide +kernel
theorem d_Mod_act_90 : decode b_Mod_act 90 = .ok (.if_icmp .lt 9, 3) := by decide +kernel
theorem d_Mod_act_93 : decode b_Mod_act 93 = .ok (.iload_n 1, 1) := by decide +kernel
theorem d_Mod_act_94 : decode b_Mod_act 94 = .ok (.bipush 91, 2) := by decide +kernel
theorem d_Mod_act_96 : decode b_Mod_act 96 = .ok (.if_icmp .le 9, 3) := by decide +kernel
theorem d_Mod_act_99 : decode b_Mod_act 99 = .ok (.iload_n 1, 1) := by decide +kernel
theorem d_Mod_act_100 : decode b_Mod_act 100 = .ok (.bipush 96, 2) := by decide +kernel
theorem d_Mod_act_102 : decode b_Mod_act 102 = .ok (.if_icmp .ne 7, 3) := by decide +kernel
theorem d_Mod_act_105 : decode b_Mod_act 105 = .ok (.iconst 1, 1) := by decide +kernel
theorem d_Mod_act_106 : decode b_Mod_act 106 = .ok (.goto 4, 3) := by decide +kernel
theorem d_Mod_act_109 : decode b_Mod_act 109 = .ok (.iconst 0, 1) := by decide +kernel
theorem d_Mod_act_110 : decode b_Mod_act 110 = .ok (.istore 6, 2) := by decide +kernel
theorem d_Mod_act_112 : decode b_Mod_act 112 = .ok (.iload 6, 2) := by decide +kernel
theorem d_Mod_act_114 : decode b_Mod_act 114 = .ok (.ifCond .eq 31, 3) := by decide +kernel
theorem d_Mod_act_117 : decode b_Mod_act 117 = .ok (.aload_n 0, 1) := by decide +kernel
theorem d_Mod_act_118 : decode b_Mod_act 118 = .ok (.getfield 44, 3) := by decide +kernel
theorem d_Mod_act_121 : decode b_Mod_act 121 = .ok (.iload 4, 2) := by decide +kernel
theorem d_Mod_act_123 : decode b_Mod_act 123 = .ok (.iaload, 1) := by decide +kernel
theorem d_Mod_act_124 : decode b_Mod_act 124 = .ok (.iconst 4, 1) := by decide +kernel
theorem d_Mod_act_125 : decode b_Mod_act 125 = .ok (.if_icmp .gt 18, 3) := by decide +kernel
theorem d_Mod_act_128 : decode b_Mod_act 128 = .ok (.iload 5, 2) := by decide +kernel
theorem d_Mod_act_130 : decode b_Mod_act 130 = .ok (.ifCond .eq 15, 3) := by decide +kernel
theorem d_Mod_act_133 : decode b_Mod_act 133 = .ok (.aload_n 0, 1) := by decide +kernel
theorem d_Mod_act_134 : decode b_Mod_act 134 = .ok (.getfield 44, 3) := by decide +kernel
theorem d_Mod_act_137 : decode b_Mod_act 137 = .ok (.iload_n 3, 1) := by decide +kernel
theorem d_Mod_act_138 : decode b_Mod_act 138 = .ok (.iaload, 1) := by decide +kernel
theorem d_Mod_act_139 : decode b_Mod_act 139 = .ok (.iconst 4, 1) := by decide +kernel
theorem d_Mod_act_140 : decode b_Mod_act 140 = .ok (.if_icmp .le 5, 3) := by decide +kernel
theorem d_Mod_act_143 : decode b_Mod_act 143 = .ok (.iconst 0, 1) := by decide +kernel
theorem d_Mod_act_144 : decode b_Mod_act 144 = .ok (.ireturn, 1) := by decide +kernel
theorem d_Mod_act_145 : decode b_Mod_act 145 = .ok (.iload 5, 2) := by decide +kernel
theorem d_Mod_act_147 : decode b_Mod_act 147 = .ok (.ifCond .eq 16, 3) := by decide +kernel
theorem d_Mod_act_150 : decode b_Mod_act 150 = .ok (.iload 6, 2) := by decide +kernel
theorem d_Mod_act_152 : decode b_Mod_act 152 = .ok (.ifCond .eq 11, 3) := by decide +kernel
theorem d_Mod_act_155 : decode b_Mod_act 155 = .ok (.aload_n 0, 1) := by decide +kernel
theorem d_Mod_act_156 : decode b_Mod_act 156 = .ok (.iload_n 3, 1) := by decide +kernel
theorem d_Mod_act_157 : decode b_Mod_act 157 = .ok (.invokevirtual 81, 3) := by decide +kernel
theorem d_Mod_act_160 : decode b_Mod_act 160 = .ok (.goto 4, 3) := by decide +kernel
theorem d_Mod_act_163 : decode b_Mod_act 163 = .ok (.iconst 0, 1) := by decide +kernel
theorem d_Mod_act_164 : decode b_Mod_act 164 = .ok (.istore 7, 2) := by decide +kernel
theorem d_Mod_act_166 : decode b_Mod_act 166 = .ok (.iload 6, 2) := by decide +kernel
theorem d_Mod_act_168 : decode b_Mod_act 168 = .ok (.ifCond .eq 12, 3) := by decide +kernel
theorem d_Mod_act_171 : decode b_Mod_act 171 = .ok (.aload_n 0, 1) := by decide +kernel
theorem d_Mod_act_172 : decode b_Mod_act 172 = .ok (.iload 4, 2) := by decide +kernel
theorem d_Mod_act_174 : decode b_Mod_act 174 = .ok (.invokevirtual 81, 3) := by decide +kernel
theorem d_Mod_act_177 : decode b_Mod_act 177 = .ok (.goto 4, 3) := by decide +kernel
theorem d_Mod_act_180 : decode b_Mod_act 180 = .ok (.iconst 0, 1) := by decide +kernel
theorem d_Mod_act_181 : decode b_Mod_act 181 = .ok (.istore 8, 2) := by decide +kernel
theorem d_Mod_act_183 : decode b_Mod_act 183 = .ok (.iload_n 1, 1) := by decide +kernel
theorem d_Mod_act_184 : decode b_Mod_act 184 = .ok (.tableswitch 641 80 102 #[108, 129, 141, 243, 641, 262, 274, 339, 356, 381, 401, 421, 448, 485, 532, 579, 613, 641, 641, 641, 641, 641, 635], 108) := by decide +kernel
theorem d_Mod_act_292 : decode b_Mod_act 292 = .ok (.aload_n 0, 1) := by decide +kernel
theorem d_Mod_act_293 : decode b_Mod_act 293 = .ok (.aload_n 0, 1) := by decide +kernel
theorem d_Mod_act_294 : decode b_Mod_act 294 = .ok (.getfield 41, 3) := by decide +kernel
theorem d_Mod_act_297 : decode b_Mod_act 297 = .ok (.bipush 80, 2) := by decide +kernel
theorem d_Mod_act_299 : decode b_Mod_act 299 = .ok (.iload 4, 2) := by decide +kernel
theorem d_Mod_act_301 : decode b_Mod_act 301 = .ok (.imul, 1) := by decide +kernel
theorem d_Mod_act_302 : decode b_Mod_act 302 = .ok (.aload_n 0, 1) := by decide +kernel
theorem d_Mod_act_303 : decode b_Mod_act 303 = .ok (.getfield 44, 3) := by decide +kernel
theorem d_Mod_act_306 : decode b_Mod_act 306 = .ok (.iload 4, 2) := by decide +kernel
theorem d_Mod_act_308 : decode b_Mod_act 308 = .ok (.iaload, 1) := by decide +kernel
theorem d_Mod_act_309 : decode b_Mod_act 309 = .ok (.invokevirtual 70, 3) := by decide +kernel
theorem d_Mod_act_312 : decode b_Mod_act 312 = .ok (.ireturn, 1) := by decide +kernel
theorem d_Mod_act_313 : decode b_Mod_act 313 = .ok (.aload_n 0, 1) := by decide +kernel
theorem d_Mod_act_314 : decode b_Mod_act 314 = .ok (.dup, 1) := by decide +kernel
theorem d_Mod_act_315 : decode b_Mod_act 315 = .ok (.getfield 66, 3) := by decide +kernel
theorem d_Mod_act_318 : decode b_Mod_act 318 = .ok (.iconst 1, 1) := by decide +kernel
theorem d_Mod_act_319 : decode b_Mod_act 319 = .ok (.isub, 1) := by decide +kernel
theorem d_Mod_act_320 : decode b_Mod_act 320 = .ok (.putfield 66, 3) := by decide +kernel
theorem d_Mod_act_323 : decode b_Mod_act 323 = .ok (.iconst 1, 1) := by decide +kernel
theorem d_Mod_act_324 : decode b_Mod_act 324 = .ok (.ireturn, 1) := by decide +kernel
theorem d_Mod_act_325 : decode b_Mod_act 325 = .ok (.iconst 0, 1) := by decide +kernel
theorem d_Mod_act_326 : decode b_Mod_act 326 = .ok (.istore 9, 2) := by decide +kernel
theorem d_Mod_act_328 : decode b_Mod_act 328 = .ok (.iload 9, 2) := by decide +kernel
theorem d_Mod_act_330 : decode b_Mod_act 330 = .ok (.bipush 80, 2) := by decide +kernel
theorem d_Mod_act_332 : decode b_Mod_act 332 = .ok (.if_icmp .ge 63, 3) := by decide +kernel
theorem d_Mod_act_335 : decode b_Mod_act 335 = .ok (.aload_n 0, 1) := by decide +kernel
theorem d_Mod_act_336 : decode b_Mod_act 336 = .ok (.getfield 41, 3) := by decide +kernel
theorem d_Mod_act_339 : decode b_Mod_act 339 = .ok (.bipush 80, 2) := by decide +kernel
theorem d_Mod_act_341 : decode b_Mod_act 341 = .ok (.iload_n 3, 1) := by decide +kernel
theorem d_Mod_act_342 : decode b_Mod_act 342 = .ok (.imul, 1) := by decide +kernel
theorem d_Mod_act_343 : decode b_Mod_act 343 = .ok (.iload 9, 2) := by decide +kernel
theorem d_Mod_act_345 : decode b_Mod_act 345 = .ok (.iadd, 1) := by decide +kernel
theorem d_Mod_act_346 : decode b_Mod_act 346 = .ok (.baload, 1) := by decide +kernel
theorem d_Mod_act_347 : decode b_Mod_act 347 = .ok (.istore 10, 2) := by decide +kernel
theorem d_Mod_act_349 : decode b_Mod_act 349 = .ok (.aload_n 0, 1) := by decide +kernel
theorem d_Mod_act_350 : decode b_Mod_act 350 = .ok (.getfield 41, 3) := by decide +kernel
theorem d_Mod_act_353 : decode b_Mod_act 353 = .ok (.bipush 80, 2) := by decide +kernel
theorem d_Mod_act_355 : decode b_Mod_act 355 = .ok (.iload_n 3, 1) := by decide +kernel
theorem d_Mod_act_356 : decode b_Mod_act 356 = .ok (.imul, 1) := by decide +kernel
theorem d_Mod_act_357 : decode b_Mod_act 357 = .ok (.iload 9, 2) := by decide +kernel
theorem d_Mod_act_359 : decode b_Mod_act 359 = .ok (.iadd, 1) := by decide +kernel
theorem d_Mod_act_360 : decode b_Mod_act 360 = .ok (.aload_n 0, 1) := by decide +kernel
theorem d_Mod_act_361 : decode b_Mod_act 361 = .ok (.getfield 41, 3) := by decide +kernel
theorem d_Mod_act_364 : decode b_Mod_act 364 = .ok (.bipush 80, 2) := by decide +kernel
theorem d_Mod_act_366 : decode b_Mod_act 366 = .ok (.iload 4, 2) := by decide +kernel
theorem d_Mod_act_368 : decode b_Mod_act 368 = .ok (.imul, 1) := by decide +kernel
theorem d_Mod_act_369 : decode b_Mod_act 369 = .ok (.iload 9, 2) := by decide +kernel
theorem d_Mod_act_371 : decode b_Mod_act 371 = .ok (.iadd, 1) := by decide +kernel
theorem d_Mod_act_372 : decode b_Mod_act 372 = .ok (.baload, 1) := by decide +kernel
theorem d_Mod_act_373 : decode b_Mod_act 373 = .ok (.bastore, 1) := by decide +kernel
theorem d_Mod_act_374 : decode b_Mod_act 374 = .ok (.aload_n 0, 1) := by decide +kernel
theorem d_Mod_act_375 : decode b_Mod_act 375 = .ok (.getfield 41, 3) := by decide +kernel
theorem d_Mod_act_378 : decode b_Mod_act 378 = .ok (.bipush 80, 2) := by decide +kernel
theorem d_Mod_act_380 : decode b_Mod_act 380 = .ok (.iload 4, 2) := by decide +kernel
theorem d_Mod_act_382 : decode b_Mod_act 382 = .ok (.imul, 1) := by decide +kernel
theorem d_Mod_act_383 : decode b_Mod_act 383 = .ok (.iload 9, 2) := by decide +kernel
theorem d_Mod_act_385 : decode b_Mod_act 385 = .ok (.iadd, 1) := by decide +kernel
theorem d_Mod_act_386 : decode b_Mod_act 386 = .ok (.iload 10, 2) := by decide +kernel
theorem d_Mod_act_388 : decode b_Mod_act 388 = .ok (.bastore, 1) := by decide +kernel
theorem d_Mod_act_389 : decode b_Mod_act 389 = .ok (.iinc 9 1, 3) := by decide +kernel
theorem d_Mod_act_392 : decode b_Mod_act 392 = .ok (.goto (-64), 3) := by decide +kernel
theorem d_Mod_act_395 : decode b_Mod_act 395 = .ok (.aload_n 0, 1) := by decide +kernel
theorem d_Mod_act_396 : decode b_Mod_act 396 = .ok (.getfield 44, 3) := by decide +kernel
theorem d_Mod_act_399 : decode b_Mod_act 399 = .ok (.iload_n 3, 1) := by decide +kernel
theorem d_Mod_act_400 : decode b_Mod_act 400 = .ok (.iaload, 1) := by decide +kernel
theorem d_Mod_act_401 : decode b_Mod_act 401 = .ok (.istore 9, 2) := by decide +kernel
theorem d_Mod_act_403 : decode b_Mod_act 403 = .ok (.aload_n 0, 1) := by decide +kernel
theorem d_Mod_act_404 : decode b_Mod_act 404 = .ok (.getfield 44, 3) := by decide +kernel
theorem d_Mod_act_407 : decode b_Mod_act 407 = .ok (.iload_n 3, 1) := by decide +kernel
theorem d_Mod_act_408 : decode b_Mod_act 408 = .ok (.aload_n 0, 1) := by decide +kernel
theorem d_Mod_act_409 : decode b_Mod_act 409 = .ok (.getfield 44, 3) := by decide +kernel
theorem d_Mod_act_412 : decode b_Mod_act 412 = .ok (.iload 4, 2) := by decide +kernel
theorem d_Mod_act_414 : decode b_Mod_act 414 = .ok (.iaload, 1) := by decide +kernel
theorem d_Mod_act_415 : decode b_Mod_act 415 = .ok (.iastore, 1) := by decide +kernel
theorem d_Mod_act_416 : decode b_Mod_act 416 = .ok (.aload_n 0, 1) := by decide +kernel
theorem d_Mod_act_417 : decode b_Mod_act 417 = .ok (.getfield 44, 3) := by decide +kernel
theorem d_Mod_act_420 : decode b_Mod_act 420 = .ok (.iload 4, 2) := by decide +kernel
theorem d_Mod_act_422 : decode b_Mod_act 422 = .ok (.iload 9, 2) := by decide +kernel
theorem d_Mod_act_424 : decode b_Mod_act 424 = .ok (.iastore, 1) := by decide +kernel
theorem d_Mod_act_425 : decode b_Mod_act 425 = .ok (.iconst 1, 1) := by decide +kernel
theorem d_Mod_act_426 : decode b_Mod_act 426 = .ok (.ireturn, 1) := by decide +kernel
theorem d_Mod_act_427 : decode b_Mod_act 427 = .ok (.aload_n 0, 1) := by decide +kernel
theorem d_Mod_act_428 : decode b_Mod_act 428 = .ok (.aload_n 0, 1) := by decide +kernel
theorem d_Mod_act_429 : decode b_Mod_act 429 = .ok (.getfield 41, 3) := by decide +kernel
theorem d_Mod_act_432 : decode b_Mod_act 432 = .ok (.bipush 80, 2) := by decide +kernel
theorem d_Mod_act_434 : decode b_Mod_act 434 = .ok (.iload_n 3, 1) := by decide +kernel
theorem d_Mod_act_435 : decode b_Mod_act 435 = .ok (.imul, 1) := by decide +kernel
theorem d_Mod_act_436 : decode b_Mod_act 436 = .ok (.aload_n 0, 1) := by decide +kernel
theorem d_Mod_act_437 : decode b_Mod_act 437 = .ok (.getfield 44, 3) := by decide +kernel
theorem d_Mod_act_440 : decode b_Mod_act 440 = .ok (.iload_n 3, 1) := by decide +kernel
theorem d_Mod_act_441 : decode b_Mod_act 441 = .ok (.iaload, 1) := by decide +kernel
theorem d_Mod_act_442 : decode b_Mod_act 442 = .ok (.invokevirtual 70, 3) := by decide +kernel
theorem d_Mod_act_445 : decode b_Mod_act 445 = .ok (.ireturn, 1) := by decide +kernel
theorem d_Mod_act_446 : decode b_Mod_act 446 = .ok (.aload_n 0, 1) := by decide +kernel
theorem d_Mod_act_447 : decode b_Mod_act 447 = .ok (.aload_n 0, 1) := by decide +kernel
theorem d_Mod_act_448 : decode b_Mod_act 448 = .ok (.getfield 44, 3) := by decide +kernel
theorem d_Mod_act_451 : decode b_Mod_act 451 = .ok (.iload 4, 2) := by decide +kernel
theorem d_Mod_act_453 : decode b_Mod_act 453 = .ok (.iaload, 1) := by decide +kernel
theorem d_Mod_act_454 : decode b_Mod_act 454 = .ok (.invokevirtual 89, 3) := by decide +kernel
theorem d_Mod_act_457 : decode b_Mod_act 457 = .ok (.ireturn, 1) := by decide +kernel
theorem d_Mod_act_458 : decode b_Mod_act 458 = .ok (.aload_n 0, 1) := by decide +kernel
theorem d_Mod_act_459 : decode b_Mod_act 459 = .ok (.dup, 1) := by decide +kernel
theorem d_Mod_act_460 : decode b_Mod_act 460 = .ok (.getfield 66, 3) := by decide +kernel
theorem d_Mod_act_463 : decode b_Mod_act 463 = .ok (.iconst 2, 1) := by decide +kernel
theorem d_Mod_act_464 : decode b_Mod_act 464 = .ok (.isub, 1) := by decide +kernel
theorem d_Mod_act_465 : decode b_Mod_act 465 = .ok (.putfield 66, 3) := by decide +kernel
theorem d_Mod_act_468 : decode b_Mod_act 468 = .ok (.aload_n 0, 1) := by decide +kernel
theorem d_Mod_act_469 : decode b_Mod_act 469 = .ok (.aload_n 0, 1) := by decide +kernel
theorem d_Mod_act_470 : decode b_Mod_act 470 = .ok (.getfield 44, 3) := by decide +kernel
theorem d_Mod_act_473 : decode b_Mod_act 473 = .ok (.iload_n 3, 1) := by decide +kernel
theorem d_Mod_act_474 : decode b_Mod_act 474 = .ok (.iaload, 1) := by decide +kernel
theorem d_Mod_act_475 : decode b_Mod_act 475 = .ok (.aload_n 0, 1) := by decide +kernel
theorem d_Mod_act_476 : decode b_Mod_act 476 = .ok (.getfield 44, 3) := by decide +kernel
theorem d_Mod_act_479 : decode b_Mod_act 479 = .ok (.iload 4, 2) := by decide +kernel
theorem d_Mod_act_481 : decode b_Mod_act 481 = .ok (.iaload, 1) := by decide +kernel
theorem d_Mod_act_482 : decode b_Mod_act 482 = .ok (.if_icmp .ne 36, 3) := by decide +kernel
theorem d_Mod_act_485 : decode b_Mod_act 485 = .ok (.aload_n 0, 1) := by decide +kernel
theorem d_Mod_act_486 : decode b_Mod_act 486 = .ok (.getfield 41, 3) := by decide +kernel
theorem d_Mod_act_489 : decode b_Mod_act 489 = .ok (.bipush 80, 2) := by decide +kernel
theorem d_Mod_act_491 : decode b_Mod_act 491 = .ok (.iload_n 3, 1) := by decide +kernel
theorem d_Mod_act_492 : decode b_Mod_act 492 = .ok (.imul, 1) := by decide +kernel
theorem d_Mod_act_493 : decode b_Mod_act 493 = .ok (.aload_n 0, 1) := by decide +kernel
theorem d_Mod_act_494 : decode b_Mod_act 494 = .ok (.getfield 41, 3) := by decide +kernel
theorem d_Mod_act_497 : decode b_Mod_act 497 = .ok (.bipush 80, 2) := by decide +kernel
theorem d_Mod_act_499 : decode b_Mod_act 499 = .ok (.iload 4, 2) := by decide +kernel
theorem d_Mod_act_501 : decode b_Mod_act 501 = .ok (.imul, 1) := by decide +kernel
theorem d_Mod_act_502 : decode b_Mod_act 502 = .ok (.aload_n 0, 1) := by decide +kernel
theorem d_Mod_act_503 : decode b_Mod_act 503 = .ok (.getfield 44, 3) := by decide +kernel
theorem d_Mod_act_506 : decode b_Mod_act 506 = .ok (.iload_n 3, 1) := by decide +kernel
theorem d_Mod_act_507 : decode b_Mod_act 507 = .ok (.iaload, 1) := by decide +kernel
theorem d_Mod_act_508 : decode b_Mod_act 508 = .ok (.invokestatic 77, 3) := by decide +kernel
theorem d_Mod_act_511 : decode b_Mod_act 511 = .ok (.ifCond .eq 7, 3) := by decide +kernel
theorem d_Mod_act_514 : decode b_Mod_act 514 = .ok (.iconst 1, 1) := by decide +kernel
theorem d_Mod_act_515 : decode b_Mod_act 515 = .ok (.goto 4, 3) := by decide +kernel
theorem d_Mod_act_518 : decode b_Mod_act 518 = .ok (.iconst 0, 1) := by decide +kernel
theorem d_Mod_act_519 : decode b_Mod_act 519 = .ok (.invokevirtual 89, 3) := by decide +kernel
theorem d_Mod_act_522 : decode b_Mod_act 522 = .ok (.ireturn, 1) := by decide +kernel
theorem d_Mod_act_523 : decode b_Mod_act 523 = .ok (.aload_n 0, 1) := by decide +kernel
theorem d_Mod_act_524 : decode b_Mod_act 524 = .ok (.dup, 1) := by decide +kernel
theorem d_Mod_act_525 : decode b_Mod_act 525 = .ok (.getfield 66, 3) := by decide +kernel
theorem d_Mod_act_528 : decode b_Mod_act 528 = .ok (.iconst 1, 1) := by decide +kernel
theorem d_Mod_act_529 : decode b_Mod_act 529 = .ok (.isub, 1) := by decide +kernel
theorem d_Mod_act_530 : decode b_Mod_act 530 = .ok (.putfield 66, 3) := by decide +kernel
theorem d_Mod_act_533 : decode b_Mod_act 533 = .ok (.aload_n 0, 1) := by decide +kernel
theorem d_Mod_act_534 : decode b_Mod_act 534 = .ok (.iload 4, 2) := by decide +kernel
theorem d_Mod_act_536 : decode b_Mod_act 536 = .ok (.invokevirtual 93, 3) := by decide +kernel
theorem d_Mod_act_539 : decode b_Mod_act 539 = .ok (.ireturn, 1) := by decide +kernel
theorem d_Mod_act_540 : decode b_Mod_act 540 = .ok (.aload_n 0, 1) := by decide +kernel
theorem d_Mod_act_541 : decode b_Mod_act 541 = .ok (.dup, 1) := by decide +kernel
theorem d_Mod_act_542 : decode b_Mod_act 542 = .ok (.getfield 66, 3) := by decide +kernel
theorem d_Mod_act_545 : decode b_Mod_act 545 = .ok (.iconst 1, 1) := by decide +kernel
theorem d_Mod_act_546 : decode b_Mod_act 546 = .ok (.isub, 1) := by decide +kernel
theorem d_Mod_act_547 : decode b_Mod_act 547 = .ok (.putfield 66, 3) := by decide +kernel
theorem d_Mod_act_550 : decode b_Mod_act 550 = .ok (.aload_n 0, 1) := by decide +kernel
theorem d_Mod_act_551 : decode b_Mod_act 551 = .ok (.iload 8, 2) := by decide +kernel
theorem d_Mod_act_553 : decode b_Mod_act 553 = .ok (.ifCond .ne 7, 3) := by decide +kernel
theorem d_Mod_act_556 : decode b_Mod_act 556 = .ok (.iconst 1, 1) := by decide +kernel
theorem d_Mod_act_557 : decode b_Mod_act 557 = .ok (.goto 4, 3) := by decide +kernel
theorem d_Mod_act_560 : decode b_Mod_act 560 = .ok (.iconst 0, 1) := by decide +kernel
theorem d_Mod_act_561 : decode b_Mod_act 561 = .ok (.invokevirtual 89, 3) := by decide +kernel
theorem d_Mod_act_564 : decode b_Mod_act 564 = .ok (.ireturn, 1) := by decide +kernel
theorem d_Mod_act_565 : decode b_Mod_act 565 = .ok (.aload_n 0, 1) := by decide +kernel
theorem d_Mod_act_566 : decode b_Mod_act 566 = .ok (.dup, 1) := by decide +kernel
theorem d_Mod_act_567 : decode b_Mod_act 567 = .ok (.getfield 66, 3) := by decide +kernel
theorem d_Mod_act_570 : decode b_Mod_act 570 = .ok (.iconst 2, 1) := by decide +kernel
theorem d_Mod_act_571 : decode b_Mod_act 571 = .ok (.isub, 1) := by decide +kernel
theorem d_Mod_act_572 : decode b_Mod_act 572 = .ok (.putfield 66, 3) := by decide +kernel
theorem d_Mod_act_575 : decode b_Mod_act 575 = .ok (.aload_n 0, 1) := by decide +kernel
theorem d_Mod_act_576 : decode b_Mod_act 576 = .ok (.iload 7, 2) := by decide +kernel
theorem d_Mod_act_578 : decode b_Mod_act 578 = .ok (.iload 8, 2) := by decide +kernel
theorem d_Mod_act_580 : decode b_Mod_act 580 = .ok (.iadd, 1) := by decide +kernel
theorem d_Mod_act_581 : decode b_Mod_act 581 = .ok (.invokevirtual 89, 3) := by decide +kernel
theorem d_Mod_act_584 : decode b_Mod_act 584 = .ok (.ireturn, 1) := by decide +kernel
theorem d_Mod_act_585 : decode b_Mod_act 585 = .ok (.aload_n 0, 1) := by decide +kernel
theorem d_Mod_act_586 : decode b_Mod_act 586 = .ok (.dup, 1) := by decide +kernel
theorem d_Mod_act_587 : decode b_Mod_act 587 = .ok (.getfield 66, 3) := by decide +kernel
theorem d_Mod_act_590 : decode b_Mod_act 590 = .ok (.iconst 2, 1) := by decide +kernel
theorem d_Mod_act_591 : decode b_Mod_act 591 = .ok (.isub, 1) := by decide +kernel
theorem d_Mod_act_592 : decode b_Mod_act 592 = .ok (.putfield 66, 3) := by decide +kernel
theorem d_Mod_act_595 : decode b_Mod_act 595 = .ok (.aload_n 0, 1) := by decide +kernel
theorem d_Mod_act_596 : decode b_Mod_act 596 = .ok (.iload 7, 2) := by decide +kernel
theorem d_Mod_act_598 : decode b_Mod_act 598 = .ok (.iload 8, 2) := by decide +kernel
theorem d_Mod_act_600 : decode b_Mod_act 600 = .ok (.isub, 1) := by decide +kernel
theorem d_Mod_act_601 : decode b_Mod_act 601 = .ok (.invokevirtual 89, 3) := by decide +kernel
theorem d_Mod_act_604 : decode b_Mod_act 604 = .ok (.ireturn, 1) := by decide +kernel
theorem d_Mod_act_605 : decode b_Mod_act 605 = .ok (.aload_n 0, 1) := by decide +kernel
theorem d_Mod_act_606 : decode b_Mod_act 606 = .ok (.dup, 1) := by decide +kernel
theorem d_Mod_act_607 : decode b_Mod_act 607 = .ok (.getfield 66, 3) := by decide +kernel
theorem d_Mod_act_610 : decode b_Mod_act 610 = .ok (.iconst 2, 1) := by decide +kernel
theorem d_Mod_act_611 : decode b_Mod_act 611 = .ok (.isub, 1) := by decide +kernel
theorem d_Mod_act_612 : decode b_Mod_act 612 = .ok (.putfield 66, 3) := by decide +kernel
theorem d_Mod_act_615 : decode b_Mod_act 615 = .ok (.aload_n 0, 1) := by decide +kernel
theorem d_Mod_act_616 : decode b_Mod_act 616 = .ok (.iload 7, 2) := by decide +kernel
theorem d_Mod_act_618 : decode b_Mod_act 618 = .ok (.iload 8, 2) := by decide +kernel
theorem d_Mod_act_620 : decode b_Mod_act 620 = .ok (.if_icmp .ge 7, 3) := by decide +kernel
theorem d_Mod_act_623 : decode b_Mod_act 623 = .ok (.iconst 1, 1) := by decide +kernel
theorem d_Mod_act_624 : decode b_Mod_act 624 = .ok (.goto 4, 3) := by decide +kernel
theorem d_Mod_act_627 : decode b_Mod_act 627 = .ok (.iconst 0, 1) := by decide +kernel
theorem d_Mod_act_628 : decode b_Mod_act 628 = .ok (.invokevirtual 89, 3) := by decide +kernel
theorem d_Mod_act_631 : decode b_Mod_act 631 = .ok (.ireturn, 1) := by decide +kernel
theorem d_Mod_act_632 : decode b_Mod_act 632 = .ok (.aload_n 0, 1) := by decide +kernel
theorem d_Mod_act_633 : decode b_Mod_act 633 = .ok (.dup, 1) := by decide +kernel
theorem d_Mod_act_634 : decode b_Mod_act 634 = .ok (.getfield 66, 3) := by decide +kernel
theorem d_Mod_act_637 : decode b_Mod_act 637 = .ok (.iconst 2, 1) := by decide +kernel
theorem d_Mod_act_638 : decode b_Mod_act 638 = .ok (.isub, 1) := by decide +kernel
theorem d_Mod_act_639 : decode b_Mod_act 639 = .ok (.putfield 66, 3) := by decide +kernel
theorem d_Mod_act_642 : decode b_Mod_act 642 = .ok (.aload_n 0, 1) := by decide +kernel
theorem d_Mod_act_643 : decode b_Mod_act 643 = .ok (.aload_n 0, 1) := by decide +kernel
theorem d_Mod_act_644 : decode b_Mod_act 644 = .ok (.iload_n 3, 1) := by decide +kernel
theorem d_Mod_act_645 : decode b_Mod_act 645 = .ok (.invokevirtual 93, 3) := by decide +kernel
theorem d_Mod_act_648 : decode b_Mod_act 648 = .ok (.ifCond .eq 16, 3) := by decide +kernel
theorem d_Mod_act_651 : decode b_Mod_act 651 = .ok (.aload_n 0, 1) := by decide +kernel
theorem d_Mod_act_652 : decode b_Mod_act 652 = .ok (.iload 4, 2) := by decide +kernel
theorem d_Mod_act_654 : decode b_Mod_act 654 = .ok (.invokevirtual 93, 3) := by decide +kernel
theorem d_Mod_act_657 : decode b_Mod_act 657 = .ok (.ifCond .eq 7, 3) := by decide +kernel
theorem d_Mod_act_660 : decode b_Mod_act 660 = .ok (.iconst 1, 1) := by decide +kernel
theorem d_Mod_act_661 : decode b_Mod_act 661 = .ok (.goto 4, 3) := by decide +kernel
theorem d_Mod_act_664 : decode b_Mod_act 664 = .ok (.iconst 0, 1) := by decide +kernel
theorem d_Mod_act_665 : decode b_Mod_act 665 = .ok (.invokevirtual 89, 3) := by decide +kernel
theorem d_Mod_act_668 : decode b_Mod_act 668 = .ok (.ireturn, 1) := by decide +kernel
theorem d_Mod_act_669 : decode b_Mod_act 669 = .ok (.aload_n 0, 1) := by decide +kernel
theorem d_Mod_act_670 : decode b_Mod_act 670 = .ok (.aload_n 0, 1) := by decide +kernel
theorem d_Mod_act_671 : decode b_Mod_act 671 = .ok (.getfield 41, 3) := by decide +kernel
theorem d_Mod_act_674 : decode b_Mod_act 674 = .ok (.bipush 80, 2) := by decide +kernel
theorem d_Mod_act_676 : decode b_Mod_act 676 = .ok (.iload 4, 2) := by decide +kernel
theorem d_Mod_act_678 : decode b_Mod_act 678 = .ok (.imul, 1) := by decide +kernel
theorem d_Mod_act_679 : decode b_Mod_act 679 = .ok (.aload_n 0, 1) := by decide +kernel
theorem d_Mod_act_680 : decode b_Mod_act 680 = .ok (.getfield 44, 3) := by decide +kernel
theorem d_Mod_act_683 : decode b_Mod_act 683 = .ok (.iload 4, 2) := by decide +kernel
theorem d_Mod_act_685 : decode b_Mod_act 685 = .ok (.iaload, 1) := by decide +kernel
theorem d_Mod_act_686 : decode b_Mod_act 686 = .ok (.aload_n 0, 1) := by decide +kernel
theorem d_Mod_act_687 : decode b_Mod_act 687 = .ok (.getfield 35, 3) := by decide +kernel
theorem d_Mod_act_690 : decode b_Mod_act 690 = .ok (.iconst 0, 1) := by decide +kernel
theorem d_Mod_act_691 : decode b_Mod_act 691 = .ok (.invokevirtual 62, 3) := by decide +kernel
theorem d_Mod_act_694 : decode b_Mod_act 694 = .ok (.aload_n 0, 1) := by decide +kernel
theorem d_Mod_act_695 : decode b_Mod_act 695 = .ok (.dup, 1) := by decide +kernel
theorem d_Mod_act_696 : decode b_Mod_act 696 = .ok (.getfield 66, 3) := by decide +kernel
theorem d_Mod_act_699 : decode b_Mod_act 699 = .ok (.iconst 1, 1) := by decide +kernel
theorem d_Mod_act_700 : decode b_Mod_act 700 = .ok (.isub, 1) := by decide +kernel
theorem d_Mod_act_701 : decode b_Mod_act 701 = .ok (.putfield 66, 3) := by decide +kernel
theorem d_Mod_act_704 : decode b_Mod_act 704 = .ok (.aload_n 0, 1) := by decide +kernel
theorem d_Mod_act_705 : decode b_Mod_act 705 = .ok (.aload_n 0, 1) := by decide +kernel
theorem d_Mod_act_706 : decode b_Mod_act 706 = .ok (.getfield 35, 3) := by decide +kernel
theorem d_Mod_act_709 : decode b_Mod_act 709 = .ok (.iconst 0, 1) := by decide +kernel
theorem d_Mod_act_710 : decode b_Mod_act 710 = .ok (.bipush 32, 2) := by decide +kernel
theorem d_Mod_act_712 : decode b_Mod_act 712 = .ok (.invokevirtual 70, 3) := by decide +kernel
theorem d_Mod_act_715 : decode b_Mod_act 715 = .ok (.ireturn, 1) := by decide +kernel
theorem d_Mod_act_716 : decode b_Mod_act 716 = .ok (.aload_n 0, 1) := by decide +kernel
theorem d_Mod_act_717 : decode b_Mod_act 717 = .ok (.aload_n 0, 1) := by decide +kernel
theorem d_Mod_act_718 : decode b_Mod_act 718 = .ok (.getfield 41, 3) := by decide +kernel
theorem d_Mod_act_721 : decode b_Mod_act 721 = .ok (.bipush 80, 2) := by decide +kernel
theorem d_Mod_act_723 : decode b_Mod_act 723 = .ok (.iload 4, 2) := by decide +kernel
theorem d_Mod_act_725 : decode b_Mod_act 725 = .ok (.imul, 1) := by decide +kernel
theorem d_Mod_act_726 : decode b_Mod_act 726 = .ok (.aload_n 0, 1) := by decide +kernel
theorem d_Mod_act_727 : decode b_Mod_act 727 = .ok (.getfield 44, 3) := by decide +kernel
theorem d_Mod_act_730 : decode b_Mod_act 730 = .ok (.iload 4, 2) := by decide +kernel
theorem d_Mod_act_732 : decode b_Mod_act 732 = .ok (.iaload, 1) := by decide +kernel
theorem d_Mod_act_733 : decode b_Mod_act 733 = .ok (.aload_n 0, 1) := by decide +kernel
theorem d_Mod_act_734 : decode b_Mod_act 734 = .ok (.getfield 35, 3) := by decide +kernel
theorem d_Mod_act_737 : decode b_Mod_act 737 = .ok (.iconst 0, 1) := by decide +kernel
theorem d_Mod_act_738 : decode b_Mod_act 738 = .ok (.invokevirtual 74, 3) := by decide +kernel
theorem d_Mod_act_741 : decode b_Mod_act 741 = .ok (.aload_n 0, 1) := by decide +kernel
theorem d_Mod_act_742 : decode b_Mod_act 742 = .ok (.dup, 1) := by decide +kernel
theorem d_Mod_act_743 : decode b_Mod_act 743 = .ok (.getfield 66, 3) := by decide +kernel
theorem d_Mod_act_746 : decode b_Mod_act 746 = .ok (.iconst 1, 1) := by decide +kernel
theorem d_Mod_act_747 : decode b_Mod_act 747 = .ok (.isub, 1) := by decide +kernel
theorem d_Mod_act_748 : decode b_Mod_act 748 = .ok (.putfield 66, 3) := by decide +kernel
theorem d_Mod_act_751 : decode b_Mod_act 751 = .ok (.aload_n 0, 1) := by decide +kernel
theorem d_Mod_act_752 : decode b_Mod_act 752 = .ok (.aload_n 0, 1) := by decide +kernel
theorem d_Mod_act_753 : decode b_Mod_act 753 = .ok (.getfield 35, 3) := by decide +kernel
theorem d_Mod_act_756 : decode b_Mod_act 756 = .ok (.iconst 0, 1) := by decide +kernel
theorem d_Mod_act_757 : decode b_Mod_act 757 = .ok (.bipush 32, 2) := by decide +kernel
theorem d_Mod_act_759 : decode b_Mod_act 759 = .ok (.invokevirtual 70, 3) := by decide +kernel
theorem d_Mod_act_762 : decode b_Mod_act 762 = .ok (.ireturn, 1) := by decide +kernel
theorem d_Mod_act_763 : decode b_Mod_act 763 = .ok (.aload_n 0, 1) := by decide +kernel
theorem d_Mod_act_764 : decode b_Mod_act 764 = .ok (.iload_n 3, 1) := by decide +kernel
theorem d_Mod_act_765 : decode b_Mod_act 765 = .ok (.iload 4, 2) := by decide +kernel
theorem d_Mod_act_767 : decode b_Mod_act 767 = .ok (.invokevirtual 85, 3) := by decide +kernel
theorem d_Mod_act_770 : decode b_Mod_act 770 = .ok (.istore 10, 2) := by decide +kernel
theorem d_Mod_act_772 : decode b_Mod_act 772 = .ok (.aload_n 0, 1) := by decide +kernel
theorem d_Mod_act_773 : decode b_Mod_act 773 = .ok (.dup, 1) := by decide +kernel
theorem d_Mod_act_774 : decode b_Mod_act 774 = .ok (.getfield 66, 3) := by decide +kernel
theorem d_Mod_act_777 : decode b_Mod_act 777 = .ok (.iconst 2, 1) := by decide +kernel
theorem d_Mod_act_778 : decode b_Mod_act 778 = .ok (.isub, 1) := by decide +kernel
theorem d_Mod_act_779 : decode b_Mod_act 779 = .ok (.putfield 66, 3) := by decide +kernel
theorem d_Mod_act_782 : decode b_Mod_act 782 = .ok (.aload_n 0, 1) := by decide +kernel
theorem d_Mod_act_783 : decode b_Mod_act 783 = .ok (.iload 10, 2) := by decide +kernel
theorem d_Mod_act_785 : decode b_Mod_act 785 = .ok (.ifCond .eq 7, 3) := by decide +kernel
theorem d_Mod_act_788 : decode b_Mod_act 788 = .ok (.iconst 1, 1) := by decide +kernel
theorem d_Mod_act_789 : decode b_Mod_act 789 = .ok (.goto 4, 3) := by decide +kernel
theorem d_Mod_act_792 : decode b_Mod_act 792 = .ok (.iconst 0, 1) := by decide +kernel
theorem d_Mod_act_793 : decode b_Mod_act 793 = .ok (.invokevirtual 89, 3) := by decide +kernel
theorem d_Mod_act_796 : decode b_Mod_act 796 = .ok (.ireturn, 1) := by decide +kernel
theorem d_Mod_act_797 : decode b_Mod_act 797 = .ok (.aload_n 0, 1) := by decide +kernel
theorem d_Mod_act_798 : decode b_Mod_act 798 = .ok (.dup, 1) := by decide +kernel
theorem d_Mod_act_799 : decode b_Mod_act 799 = .ok (.getfield 66, 3) := by decide +kernel
theorem d_Mod_act_802 : decode b_Mod_act 802 = .ok (.iconst 1, 1) := by decide +kernel
theorem d_Mod_act_803 : decode b_Mod_act 803 = .ok (.isub, 1) := by decide +kernel
theorem d_Mod_act_804 : decode b_Mod_act 804 = .ok (.putfield 66, 3) := by decide +kernel
theorem d_Mod_act_807 : decode b_Mod_act 807 = .ok (.iload_n 2, 1) := by decide +kernel
theorem d_Mod_act_808 : decode b_Mod_act 808 = .ok (.iload 8, 2) := by decide +kernel
theorem d_Mod_act_810 : decode b_Mod_act 810 = .ok (.if_icmp .lt 7, 3) := by decide +kernel
theorem d_Mod_act_813 : decode b_Mod_act 813 = .ok (.iconst 1, 1) := by decide +kernel
theorem d_Mod_act_814 : decode b_Mod_act 814 = .ok (.goto 4, 3) := by decide +kernel
theorem d_Mod_act_817 : decode b_Mod_act 817 = .ok (.iconst 0, 1) := by decide +kernel
theorem d_Mod_act_818 : decode b_Mod_act 818 = .ok (.ireturn, 1) := by decide +kernel
theorem d_Mod_act_819 : decode b_Mod_act 819 = .ok (.aload_n 0, 1) := by decide +kernel
theorem d_Mod_act_820 : decode b_Mod_act 820 = .ok (.iconst 1, 1) := by decide +kernel
theorem d_Mod_act_821 : decode b_Mod_act 821 = .ok (.invokevirtual 89, 3) := by decide +kernel
theorem d_Mod_act_824 : decode b_Mod_act 824 = .ok (.ireturn, 1) := by decide +kernel
theorem d_Mod_act_825 : decode b_Mod_act 825 = .ok (.iconst 0, 1) := by decide +kernel
theorem d_Mod_act_826 : decode b_Mod_act 826 = .ok (.ireturn, 1) := by decide +kernel
