theorem d_Mo_unwave_26 : decode M_Mo_unwave.2.1 26 = .ok (.imul, 1) := by decide +kernel
theorem d_Mo_unwave_27 : decode M_Mo_unwave.2.1 27 = .ok (.iload 5, 2) := by decide +kernel
theorem d_Mo_unwave_29 : decode M_Mo_unwave.2.1 29 = .ok (.iadd, 1) := by decide +kernel
theorem d_Mo_unwave_30 : decode M_Mo_unwave.2.1 30 = .ok (.istore 6, 2) := by decide +kernel
theorem d_Mo_unwave_32 : decode M_Mo_unwave.2.1 32 = .ok (.iload 6, 2) := by decide +kernel
theorem d_Mo_unwave_34 : decode M_Mo_unwave.2.1 34 = .ok (.bipush 8, 2) := by decide +kernel
theorem d_Mo_unwave_36 : decode M_Mo_unwave.2.1 36 = .ok (.iload_n 3, 1) := by decide +kernel
theorem d_Mo_unwave_37 : decode M_Mo_unwave.2.1 37 = .ok (.imul, 1) := by decide +kernel
theorem d_Mo_unwave_38 : decode M_Mo_unwave.2.1 38 = .ok (.iadd, 1) := by decide +kernel
theorem d_Mo_unwave_39 : decode M_Mo_unwave.2.1 39 = .ok (.istore 7, 2) := by decide +kernel
theorem d_Mo_unwave_41 : decode M_Mo_unwave.2.1 41 = .ok (.aload_n 0, 1) := by decide +kernel
theorem d_Mo_unwave_42 : decode M_Mo_unwave.2.1 42 = .ok (.getfield 56, 3) := by decide +kernel
theorem d_Mo_unwave_45 : decode M_Mo_unwave.2.1 45 = .ok (.iload 6, 2) := by decide +kernel
theorem d_Mo_unwave_47 : decode M_Mo_unwave.2.1 47 = .ok (.iaload, 1) := by decide +kernel
theorem d_Mo_unwave_48 : decode M_Mo_unwave.2.1 48 = .ok (.aload_n 0, 1) := by decide +kernel
theorem d_Mo_unwave_49 : decode M_Mo_unwave.2.1 49 = .ok (.getfield 56, 3) := by decide +kernel
theorem d_Mo_unwave_52 : decode M_Mo_unwave.2.1 52 = .ok (.iload 7, 2) := by decide +kernel
theorem d_Mo_unwave_54 : decode M_Mo_unwave.2.1 54 = .ok (.iaload, 1) := by decide +kernel
theorem d_Mo_unwave_55 : decode M_Mo_unwave.2.1 55 = .ok (.iconst 1, 1) := by decide +kernel
theorem d_Mo_unwave_56 : decode M_Mo_unwave.2.1 56 = .ok (.invokestatic 128, 3) := by decide +kernel
theorem d_Mo_unwave_59 : decode M_Mo_unwave.2.1 59 = .ok (.istore 8, 2) := by decide +kernel
theorem d_Mo_unwave_61 : decode M_Mo_unwave.2.1 61 = .ok (.aload_n 0, 1) := by decide +kernel
theorem d_Mo_unwave_62 : decode M_Mo_unwave.2.1 62 = .ok (.getfield 56, 3) := by decide +kernel
theorem d_Mo_unwave_65 : decode M_Mo_unwave.2.1 65 = .ok (.iload 6, 2) := by decide +kernel
theorem d_Mo_unwave_67 : decode M_Mo_unwave.2.1 67 = .ok (.iaload, 1) := by decide +kernel
theorem d_Mo_unwave_68 : decode M_Mo_unwave.2.1 68 = .ok (.aload_n 0, 1) := by decide +kernel
theorem d_Mo_unwave_69 : decode M_Mo_unwave.2.1 69 = .ok (.getfield 56, 3) := by decide +kernel
theorem d_Mo_unwave_72 : decode M_Mo_unwave.2.1 72 = .ok (.iload 7, 2) := by decide +kernel
theorem d_Mo_unwave_74 : decode M_Mo_unwave.2.1 74 = .ok (.iaload, 1) := by decide +kernel
theorem d_Mo_unwave_75 : decode M_Mo_unwave.2.1 75 = .ok (.iconst 0, 1) := by decide +kernel
theorem d_Mo_unwave_76 : decode M_Mo_unwave.2.1 76 = .ok (.invokestatic 128, 3) := by decide +kernel
theorem d_Mo_unwave_79 : decode M_Mo_unwave.2.1 79 = .ok (.istore 9, 2) := by decide +kernel
theorem d_Mo_unwave_81 : decode M_Mo_unwave.2.1 81 = .ok (.aload_n 0, 1) := by decide +kernel
theorem d_Mo_unwave_82 : decode M_Mo_unwave.2.1 82 = .ok (.getfield 56, 3) := by decide +kernel
theorem d_Mo_unwave_85 : decode M_Mo_unwave.2.1 85 = .ok (.iload 6, 2) := by decide +kernel
theorem d_Mo_unwave_87 : decode M_Mo_unwave.2.1 87 = .ok (.iload_n 3, 1) := by decide +kernel
theorem d_Mo_unwave_88 : decode M_Mo_unwave.2.1 88 = .ok (.iadd, 1) := by decide +kernel
theorem d_Mo_unwave_89 : decode M_Mo_unwave.2.1 89 = .ok (.iaload, 1) := by decide +kernel
theorem d_Mo_unwave_90 : decode M_Mo_unwave.2.1 90 = .ok (.aload_n 0, 1) := by decide +kernel
theorem d_Mo_unwave_91 : decode M_Mo_unwave.2.1 91 = .ok (.getfield 56, 3) := by decide +kernel
theorem d_Mo_unwave_94 : decode M_Mo_unwave.2.1 94 = .ok (.iload 7, 2) := by decide +kernel
theorem d_Mo_unwave_96 : decode M_Mo_unwave.2.1 96 = .ok (.iload_n 3, 1) := by decide +kernel
theorem d_Mo_unwave_97 : decode M_Mo_unwave.2.1 97 = .ok (.iadd, 1) := by decide +kernel
theorem d_Mo_unwave_98 : decode M_Mo_unwave.2.1 98 = .ok (.iaload, 1) := by decide +kernel
theorem d_Mo_unwave_99 : decode M_Mo_unwave.2.1 99 = .ok (.iconst 1, 1) := by decide +kernel
theorem d_Mo_unwave_100 : decode M_Mo_unwave.2.1 100 = .ok (.invokestatic 128, 3) := by decide +kernel
theorem d_Mo_unwave_103 : decode M_Mo_unwave.2.1 103 = .ok (.istore 10, 2) := by decide +kernel
theorem d_Mo_unwave_105 : decode M_Mo_unwave.2.1 105 = .ok (.aload_n 0, 1) := by decide +kernel
theorem d_Mo_unwave_106 : decode M_Mo_unwave.2.1 106 = .ok (.getfield 56, 3) := by decide +kernel
theorem d_Mo_unwave_109 : decode M_Mo_unwave.2.1 109 = .ok (.iload 6, 2) := by decide +kernel
theorem d_Mo_unwave_111 : decode M_Mo_unwave.2.1 111 = .ok (.iload_n 3, 1) := by decide +kernel
theorem d_Mo_unwave_112 : decode M_Mo_unwave.2.1 112 = .ok (.iadd, 1) := by decide +kernel
theorem d_Mo_unwave_113 : decode M_Mo_unwave.2.1 113 = .ok (.iaload, 1) := by decide +kernel
theorem d_Mo_unwave_114 : decode M_Mo_unwave.2.1 114 = .ok (.aload_n 0, 1) := by decide +kernel
theorem d_Mo_unwave_115 : decode M_Mo_unwave.2.1 115 = .ok (.getfield 56, 3) := by decide +kernel
theorem d_Mo_unwave_118 : decode M_Mo_unwave.2.1 118 = .ok (.iload 7, 2) := by decide +kernel
theorem d_Mo_unwave_120 : decode M_Mo_unwave.2.1 120 = .ok (.iload_n 3, 1) := by decide +kernel
theorem d_Mo_unwave_121 : decode M_Mo_unwave.2.1 121 = .ok (.iadd, 1) := by decide +kernel
theorem d_Mo_unwave_122 : decode M_Mo_unwave.2.1 122 = .ok (.iaload, 1) := by decide +kernel
theorem d_Mo_unwave_123 : decode M_Mo_unwave.2.1 123 = .ok (.iconst 0, 1) := by decide +kernel
theorem d_Mo_unwave_124 : decode M_Mo_unwave.2.1 124 = .ok (.invokestatic 128, 3) := by decide +kernel
theorem d_Mo_unwave_127 : decode M_Mo_unwave.2.1 127 = .ok (.istore 11, 2) := by decide +kernel
theorem d_Mo_unwave_129 : decode M_Mo_unwave.2.1 129 = .ok (.aload_n 0, 1) := by decide +kernel
theorem d_Mo_unwave_130 : decode M_Mo_unwave.2.1 130 = .ok (.getfield 56, 3) := by decide +kernel
theorem d_Mo_unwave_133 : decode M_Mo_unwave.2.1 133 = .ok (.iload 6, 2) := by decide +kernel
theorem d_Mo_unwave_135 : decode M_Mo_unwave.2.1 135 = .ok (.iload 8, 2) := by decide +kernel
theorem d_Mo_unwave_137 : decode M_Mo_unwave.2.1 137 = .ok (.iload 10, 2) := by decide +kernel
theorem d_Mo_unwave_139 : decode M_Mo_unwave.2.1 139 = .ok (.iconst 1, 1) := by decide +kernel
theorem d_Mo_unwave_140 : decode M_Mo_unwave.2.1 140 = .ok (.invokestatic 128, 3) := by decide +kernel
theorem d_Mo_unwave_143 : decode M_Mo_unwave.2.1 143 = .ok (.iastore, 1) := by decide +kernel
theorem d_Mo_unwave_144 : decode M_Mo_unwave.2.1 144 = .ok (.aload_n 0, 1) := by decide +kernel
theorem d_Mo_unwave_145 : decode M_Mo_unwave.2.1 145 = .ok (.getfield 56, 3) := by decide +kernel
theorem d_Mo_unwave_148 : decode M_Mo_unwave.2.1 148 = .ok (.iload 6, 2) := by decide +kernel
theorem d_Mo_unwave_150 : decode M_Mo_unwave.2.1 150 = .ok (.iload_n 3, 1) := by decide +kernel
theorem d_Mo_unwave_151 : decode M_Mo_unwave.2.1 151 = .ok (.iadd, 1) := by decide +kernel
theorem d_Mo_unwave_152 : decode M_Mo_unwave.2.1 152 = .ok (.iload 8, 2) := by decide +kernel
theorem d_Mo_unwave_154 : decode M_Mo_unwave.2.1 154 = .ok (.iload 10, 2) := by decide +kernel
theorem d_Mo_unwave_156 : decode M_Mo_unwave.2.1 156 = .ok (.iconst 0, 1) := by decide +kernel
theorem d_Mo_unwave_157 : decode M_Mo_unwave.2.1 157 = .ok (.invokestatic 128, 3) := by decide +kernel
theorem d_Mo_unwave_160 : decode M_Mo_unwave.2.1 160 = .ok (.iastore, 1) := by decide +kernel
theorem d_Mo_unwave_161 : decode M_Mo_unwave.2.1 161 = .ok (.aload_n 0, 1) := by decide +kernel
theorem d_Mo_unwave_162 : decode M_Mo_unwave.2.1 162 = .ok (.getfield 56, 3) := by decide +kernel
theorem d_Mo_unwave_165 : decode M_Mo_unwave.2.1 165 = .ok (.iload 7, 2) := by decide +kernel
theorem d_Mo_unwave_167 : decode M_Mo_unwave.2.1 167 = .ok (.iload 9, 2) := by decide +kernel
theorem d_Mo_unwave_169 : decode M_Mo_unwave.2.1 169 = .ok (.iload 11, 2) := by decide +kernel
theorem d_Mo_unwave_171 : decode M_Mo_unwave.2.1 171 = .ok (.iconst 1, 1) := by decide +kernel
theorem d_Mo_unwave_172 : decode M_Mo_unwave.2.1 172 = .ok (.invokestatic 128, 3) := by decide +kernel
theorem d_Mo_unwave_175 : decode M_Mo_unwave.2.1 175 = .ok (.iastore, 1) := by decide +kernel
theorem d_Mo_unwave_176 : decode M_Mo_unwave.2.1 176 = .ok (.aload_n 0, 1) := by decide +kernel
theorem d_Mo_unwave_177 : decode M_Mo_unwave.2.1 177 = .ok (.getfield 56, 3) := by decide +kernel
theorem d_Mo_unwave_180 : decode M_Mo_unwave.2.1 180 = .ok (.iload 7, 2) := by decide +kernel
theorem d_Mo_unwave_182 : decode M_Mo_unwave.2.1 182 = .ok (.iload_n 3, 1) := by decide +kernel
theorem d_Mo_unwave_183 : decode M_Mo_unwave.2.1 183 = .ok (.iadd, 1) := by decide +kernel
theorem d_Mo_unwave_184 : decode M_Mo_unwave.2.1 184 = .ok (.iload 9, 2) := by decide +kernel
theorem d_Mo_unwave_186 : decode M_Mo_unwave.2.1 186 = .ok (.iload 11, 2) := by decide +kernel
theorem d_Mo_unwave_188 : decode M_Mo_unwave.2.1 188 = .ok (.iconst 0, 1) := by decide +kernel
theorem d_Mo_unwave_189 : decode M_Mo_unwave.2.1 189 = .ok (.invokestatic 128, 3) := by decide +kernel
theorem d_Mo_unwave_192 : decode M_Mo_unwave.2.1 192 = .ok (.iastore, 1) := by decide +kernel
theorem d_Mo_unwave_193 : decode M_Mo_unwave.2.1 193 = .ok (.iload 5, 2) := by decide +kernel
theorem d_Mo_unwave_195 : decode M_Mo_unwave.2.1 195 = .ok (.iconst 2, 1) := by decide +kernel
theorem d_Mo_unwave_196 : decode M_Mo_unwave.2.1 196 = .ok (.iload_n 3, 1) := by decide +kernel
theorem d_Mo_unwave_197 : decode M_Mo_unwave.2.1 197 = .ok (.imul, 1) := by decide +kernel
theorem d_Mo_unwave_198 : decode M_Mo_unwave.2.1 198 = .ok (.iadd, 1) := by decide +kernel
theorem d_Mo_unwave_199 : decode M_Mo_unwave.2.1 199 = .ok (.istore 5, 2) := by decide +kernel
theorem d_Mo_unwave_201 : decode M_Mo_unwave.2.1 201 = .ok (.goto (-187), 3) := by decide +kernel
theorem d_Mo_unwave_204 : decode M_Mo_unwave.2.1 204 = .ok (.iload 4, 2) := by decide +kernel
theorem d_Mo_unwave_206 : decode M_Mo_unwave.2.1 206 = .ok (.iconst 2, 1) := by decide +kernel
theorem d_Mo_unwave_207 : decode M_Mo_unwave.2.1 207 = .ok (.iload_n 3, 1) := by decide +kernel
theorem d_Mo_unwave_208 : decode M_Mo_unwave.2.1 208 = .ok (.imul, 1) := by decide +kernel
theorem d_Mo_unwave_209 : decode M_Mo_unwave.2.1 209 = .ok (.iadd, 1) := by decide +kernel
theorem d_Mo_unwave_210 : decode M_Mo_unwave.2.1 210 = .ok (.istore 4, 2) := by decide +kernel
theorem d_Mo_unwave_212 : decode M_Mo_unwave.2.1 212 = .ok (.goto (-209), 3) := by decide +kernel
theorem d_Mo_unwave_215 : decode M_Mo_unwave.2.1 215 = .ok (.return_, 1) := by decide +kernel
theorem d_Mo_outOf_0 : decode M_Mo_outOf.2.1 0 = .ok (.iload_n 0, 1) := by decide +kernel
theorem d_Mo_outOf_1 : decode M_Mo_outOf.2.1 1 = .ok (.iload_n 1, 1) := by decide +kernel
theorem d_Mo_outOf_2 : decode M_Mo_outOf.2.1 2 = .ok (.iconst 2, 1) := by decide +kernel
theorem d_Mo_outOf_3 : decode M_Mo_outOf.2.1 3 = .ok (.idiv, 1) := by decide +kernel
theorem d_Mo_outOf_4 : decode M_Mo_outOf.2.1 4 = .ok (.isub, 1) := by decide +kernel
theorem d_Mo_outOf_5 : decode M_Mo_outOf.2.1 5 = .ok (.ldc 72, 2) := by decide +kernel
theorem d_Mo_outOf_7 : decode M_Mo_outOf.2.1 7 = .ok (.iand, 1) := by decide +kernel
theorem d_Mo_outOf_8 : decode M_Mo_outOf.2.1 8 = .ok (.istore_n 3, 1) := by decide +kernel
theorem d_Mo_outOf_9 : decode M_Mo_outOf.2.1 9 = .ok (.iload_n 2, 1) := by decide +kernel
theorem d_Mo_outOf_10 : decode M_Mo_outOf.2.1 10 = .ok (.ifCond .eq 15, 3) := by decide +kernel
theorem d_Mo_outOf_13 : decode M_Mo_outOf.2.1 13 = .ok (.iload_n 1, 1) := by decide +kernel
theorem d_Mo_outOf_14 : decode M_Mo_outOf.2.1 14 = .ok (.iload_n 3, 1) := by decide +kernel
theorem d_Mo_outOf_15 : decode M_Mo_outOf.2.1 15 = .ok (.iadd, 1) := by decide +kernel
theorem d_Mo_outOf_16 : decode M_Mo_outOf.2.1 16 = .ok (.ldc 81, 2) := by decide +kernel
theorem d_Mo_outOf_18 : decode M_Mo_outOf.2.1 18 = .ok (.isub, 1) := by decide +kernel
theorem d_Mo_outOf_19 : decode M_Mo_outOf.2.1 19 = .ok (.ldc 72, 2) := by decide +kernel
theorem d_Mo_outOf_21 : decode M_Mo_outOf.2.1 21 = .ok (.iand, 1) := by decide +kernel
theorem d_Mo_outOf_22 : decode M_Mo_outOf.2.1 22 = .ok (.goto 4, 3) := by decide +kernel
theorem d_Mo_outOf_25 : decode M_Mo_outOf.2.1 25 = .ok (.iload_n 3, 1) := by decide +kernel
theorem d_Mo_outOf_26 : decode M_Mo_outOf.2.1 26 = .ok (.ireturn, 1) := by decide +kernel
theorem d_Mo_isSound_0 : decode M_Mo_isSound.2.1 0 = .ok (.iconst 0, 1) := by decide +kernel
theorem d_Mo_isSound_1 : decode M_Mo_isSound.2.1 1 = .ok (.istore_n 3, 1) := by decide +kernel
theorem d_Mo_isSound_2 : decode M_Mo_isSound.2.1 2 = .ok (.iload_n 3, 1) := by decide +kernel
theorem d_Mo_isSound_3 : decode M_Mo_isSound.2.1 3 = .ok (.aload_n 0, 1) := by decide +kernel
theorem d_Mo_isSound_4 : decode M_Mo_isSound.2.1 4 = .ok (.getfield 200, 3) := by decide +kernel
theorem d_Mo_isSound_7 : decode M_Mo_isSound.2.1 7 = .ok (.if_icmp .ge 76, 3) := by decide +kernel
theorem d_Mo_isSound_10 : decode M_Mo_isSound.2.1 10 = .ok (.iload_n 1, 1) := by decide +kernel
theorem d_Mo_isSound_11 : decode M_Mo_isSound.2.1 11 = .ok (.istore 4, 2) := by decide +kernel
theorem d_Mo_isSound_13 : decode M_Mo_isSound.2.1 13 = .ok (.iload 4, 2) := by decide +kernel
theorem d_Mo_isSound_15 : decode M_Mo_isSound.2.1 15 = .ok (.iload_n 1, 1) := by decide +kernel
theorem d_Mo_isSound_16 : decode M_Mo_isSound.2.1 16 = .ok (.iload_n 2, 1) := by decide +kernel
theorem d_Mo_isSound_17 : decode M_Mo_isSound.2.1 17 = .ok (.iadd, 1) := by decide +kernel
theorem d_Mo_isSound_18 : decode M_Mo_isSound.2.1 18 = .ok (.if_icmp .ge 59, 3) := by decide +kernel
theorem d_Mo_isSound_21 : decode M_Mo_isSound.2.1 21 = .ok (.iconst 0, 1) := by decide +kernel
theorem d_Mo_isSound_22 : decode M_Mo_isSound.2.1 22 = .ok (.istore 5, 2) := by decide +kernel
theorem d_Mo_isSound_24 : decode M_Mo_isSound.2.1 24 = .ok (.iload 5, 2) := by decide +kernel
theorem d_Mo_isSound_26 : decode M_Mo_isSound.2.1 26 = .ok (.aload_n 0, 1) := by decide +kernel
theorem d_Mo_isSound_27 : decode M_Mo_isSound.2.1 27 = .ok (.getfield 191, 3) := by decide +kernel
theorem d_Mo_isSound_30 : decode M_Mo_isSound.2.1 30 = .ok (.if_icmp .ge 41, 3) := by decide +kernel
theorem d_Mo_isSound_33 : decode M_Mo_isSound.2.1 33 = .ok (.aload_n 0, 1) := by decide +kernel
theorem d_Mo_isSound_34 : decode M_Mo_isSound.2.1 34 = .ok (.getfield 41, 3) := by decide +kernel
theorem d_Mo_isSound_37 : decode M_Mo_isSound.2.1 37 = .ok (.iload_n 3, 1) := by decide +kernel
theorem d_Mo_isSound_38 : decode M_Mo_isSound.2.1 38 = .ok (.iaload, 1) := by decide +kernel
theorem d_Mo_isSound_39 : decode M_Mo_isSound.2.1 39 = .ok (.aload_n 0, 1) := by decide +kernel
theorem d_Mo_isSound_40 : decode M_Mo_isSound.2.1 40 = .ok (.getfield 47, 3) := by decide +kernel
theorem d_Mo_isSound_43 : decode M_Mo_isSound.2.1 43 = .ok (.bipush 64, 2) := by decide +kernel
theorem d_Mo_isSound_45 : decode M_Mo_isSound.2.1 45 = .ok (.iload_n 3, 1) := by decide +kernel
theorem d_Mo_isSound_46 : decode M_Mo_isSound.2.1 46 = .ok (.imul, 1) := by decide +kernel
theorem d_Mo_isSound_47 : decode M_Mo_isSound.2.1 47 = .ok (.bipush 8, 2) := by decide +kernel
theorem d_Mo_isSound_49 : decode M_Mo_isSound.2.1 49 = .ok (.iload 4, 2) := by decide +kernel
theorem d_Mo_isSound_51 : decode M_Mo_isSound.2.1 51 = .ok (.imul, 1) := by decide +kernel
theorem d_Mo_isSound_52 : decode M_Mo_isSound.2.1 52 = .ok (.iadd, 1) := by decide +kernel
theorem d_Mo_isSound_53 : decode M_Mo_isSound.2.1 53 = .ok (.iload 5, 2) := by decide +kernel
theorem d_Mo_isSound_55 : decode M_Mo_isSound.2.1 55 = .ok (.iadd, 1) := by decide +kernel
theorem d_Mo_isSound_56 : decode M_Mo_isSound.2.1 56 = .ok (.iaload, 1) := by decide +kernel
theorem d_Mo_isSound_57 : decode M_Mo_isSound.2.1 57 = .ok (.invokestatic 217, 3) := by decide +kernel
theorem d_Mo_isSound_60 : decode M_Mo_isSound.2.1 60 = .ok (.ifCond .eq 5, 3) := by decide +kernel
theorem d_Mo_isSound_63 : decode M_Mo_isSound.2.1 63 = .ok (.iconst 0, 1) := by decide +kernel
theorem d_Mo_isSound_64 : decode M_Mo_isSound.2.1 64 = .ok (.ireturn, 1) := by decide +kernel
theorem d_Mo_isSound_65 : decode M_Mo_isSound.2.1 65 = .ok (.iinc 5 1, 3) := by decide +kernel
theorem d_Mo_isSound_68 : decode M_Mo_isSound.2.1 68 = .ok (.goto (-44), 3) := by decide +kernel
theorem d_Mo_isSound_71 : decode M_Mo_isSound.2.1 71 = .ok (.iinc 4 1, 3) := by decide +kernel
theorem d_Mo_isSound_74 : decode M_Mo_isSound.2.1 74 = .ok (.goto (-61), 3) := by decide +kernel
theorem d_Mo_isSound_77 : decode M_Mo_isSound.2.1 77 = .ok (.iinc 3 1, 3) := by decide +kernel
theorem d_Mo_isSound_80 : decode M_Mo_isSound.2.1 80 = .ok (.goto (-78), 3) := by decide +kernel
theorem d_Mo_isSound_83 : decode M_Mo_isSound.2.1 83 = .ok (.iconst 1, 1) := by decide +kernel
theorem d_Mo_isSound_84 : decode M_Mo_isSound.2.1 84 = .ok (.ireturn, 1) := by decide +kernel
theorem d_Mo_isNone_0 : decode M_Mo_isNone.2.1 0 = .ok (.iload_n 0, 1) := by decide +kernel
theorem d_Mo_isNone_1 : decode M_Mo_isNone.2.1 1 = .ok (.ifCond .ne 23, 3) := by decide +kernel
theorem d_Mo_isNone_4 : decode M_Mo_isNone.2.1 4 = .ok (.iload_n 1, 1) := by decide +kernel
theorem d_Mo_isNone_5 : decode M_Mo_isNone.2.1 5 = .ok (.bipush 10, 2) := by decide +kernel
theorem d_Mo_isNone_7 : decode M_Mo_isNone.2.1 7 = .ok (.ishr, 1) := by decide +kernel
theorem d_Mo_isNone_8 : decode M_Mo_isNone.2.1 8 = .ok (.bipush 31, 2) := by decide +kernel
theorem d_Mo_isNone_10 : decode M_Mo_isNone.2.1 10 = .ok (.iand, 1) := by decide +kernel
theorem d_Mo_isNone_11 : decode M_Mo_isNone.2.1 11 = .ok (.bipush 31, 2) := by decide +kernel
theorem d_Mo_isNone_13 : decode M_Mo_isNone.2.1 13 = .ok (.if_icmp .ne 7, 3) := by decide +kernel
theorem d_Mo_isNone_16 : decode M_Mo_isNone.2.1 16 = .ok (.iconst 1, 1) := by decide +kernel
theorem d_Mo_isNone_17 : decode M_Mo_isNone.2.1 17 = .ok (.goto 31, 3) := by decide +kernel
theorem d_Mo_isNone_20 : decode M_Mo_isNone.2.1 20 = .ok (.iconst 0, 1) := by decide +kernel
theorem d_Mo_isNone_21 : decode M_Mo_isNone.2.1 21 = .ok (.goto 27, 3) := by decide +kernel
theorem d_Mo_isNone_24 : decode M_Mo_isNone.2.1 24 = .ok (.iload_n 0, 1) := by decide +kernel
theorem d_Mo_isNone_25 : decode M_Mo_isNone.2.1 25 = .ok (.iconst 1, 1) := by decide +kernel
theorem d_Mo_isNone_26 : decode M_Mo_isNone.2.1 26 = .ok (.if_icmp .ne 21, 3) := by decide +kernel
theorem d_Mo_isNone_29 : decode M_Mo_isNone.2.1 29 = .ok (.iload_n 1, 1) := by decide +kernel
theorem d_Mo_isNone_30 : decode M_Mo_isNone.2.1 30 = .ok (.bipush 23, 2) := by decide +kernel
theorem d_Mo_isNone_32 : decode M_Mo_isNone.2.1 32 = .ok (.ishr, 1) := by decide +kernel
theorem d_Mo_isNone_33 : decode M_Mo_isNone.2.1 33 = .ok (.sipush 255, 3) := by decide +kernel
theorem d_Mo_isNone_36 : decode M_Mo_isNone.2.1 36 = .ok (.iand, 1) := by decide +kernel
theorem d_Mo_isNone_37 : decode M_Mo_isNone.2.1 37 = .ok (.sipush 255, 3) := by decide +kernel
theorem d_Mo_isNone_40 : decode M_Mo_isNone.2.1 40 = .ok (.if_icmp .ne 7, 3) := by decide +kernel
theorem d_Mo_isNone_43 : decode M_Mo_isNone.2.1 43 = .ok (.iconst 1, 1) := by decide +kernel
theorem d_Mo_isNone_44 : decode M_Mo_isNone.2.1 44 = .ok (.goto 4, 3) := by decide +kernel
theorem d_Mo_isNone_47 : decode M_Mo_isNone.2.1 47 = .ok (.iconst 0, 1) := by decide +kernel
theorem d_Mo_isNone_48 : decode M_Mo_isNone.2.1 48 = .ok (.ireturn, 1) := by decide +kernel
theorem d_Mo_where_0 : decode M_Mo_where.2.1 0 = .ok (.aload_n 0, 1) := by decide +kernel
theorem d_Mo_where_1 : decode M_Mo_where.2.1 1 = .ok (.iconst 0, 1) := by decide +kernel
theorem d_Mo_where_2 : decode M_Mo_where.2.1 2 = .ok (.putfield 59, 3) := by decide +kernel
theorem d_Mo_where_5 : decode M_Mo_where.2.1 5 = .ok (.aload_n 0, 1) := by decide +kernel
theorem d_Mo_where_6 : decode M_Mo_where.2.1 6 = .ok (.getfield 19, 3) := by decide +kernel
theorem d_Mo_where_9 : decode M_Mo_where.2.1 9 = .ok (.ireturn, 1) := by decide +kernel
theorem d_Mo_file_0 : decode M_Mo_file.2.1 0 = .ok (.aload_n 0, 1) := by decide +kernel
theorem d_Mo_file_1 : decode M_Mo_file.2.1 1 = .ok (.iload_n 1, 1) := by decide +kernel
theorem d_Mo_file_2 : decode M_Mo_file.2.1 2 = .ok (.iconst (-1), 1) := by decide +kernel
theorem d_Mo_file_3 : decode M_Mo_file.2.1 3 = .ok (.aload_n 0, 1) := by decide +kernel
theorem d_Mo_file_4 : decode M_Mo_file.2.1 4 = .ok (.getfield 158, 3) := by decide +kernel
theorem d_Mo_file_7 : decode M_Mo_file.2.1 7 = .ok (.iconst 1, 1) := by decide +kernel
theorem d_Mo_file_8 : decode M_Mo_file.2.1 8 = .ok (.isub, 1) := by decide +kernel
theorem d_Mo_file_9 : decode M_Mo_file.2.1 9 = .ok (.invokestatic 87, 3) := by decide +kernel
theorem d_Mo_file_12 : decode M_Mo_file.2.1 12 = .ok (.ifCond .eq 7, 3) := by decide +kernel
theorem d_Mo_file_15 : decode M_Mo_file.2.1 15 = .ok (.iconst 0, 1) := by decide +kernel
theorem d_Mo_file_16 : decode M_Mo_file.2.1 16 = .ok (.goto 4, 3) := by decide +kernel
theorem d_Mo_file_19 : decode M_Mo_file.2.1 19 = .ok (.iconst 1, 1) := by decide +kernel
theorem d_Mo_file_20 : decode M_Mo_file.2.1 20 = .ok (.putfield 59, 3) := by decide +kernel
theorem d_Mo_file_23 : decode M_Mo_file.2.1 23 = .ok (.aload_n 0, 1) := by decide +kernel
theorem d_Mo_file_24 : decode M_Mo_file.2.1 24 = .ok (.getfield 59, 3) := by decide +kernel
theorem d_Mo_file_27 : decode M_Mo_file.2.1 27 = .ok (.ifCond .le 7, 3) := by decide +kernel
theorem d_Mo_file_30 : decode M_Mo_file.2.1 30 = .ok (.iconst 0, 1) := by decide +kernel
theorem d_Mo_file_31 : decode M_Mo_file.2.1 31 = .ok (.goto 20, 3) := by decide +kernel
theorem d_Mo_file_34 : decode M_Mo_file.2.1 34 = .ok (.iload_n 1, 1) := by decide +kernel
theorem d_Mo_file_35 : decode M_Mo_file.2.1 35 = .ok (.ifCond .ge 10, 3) := by decide +kernel
theorem d_Mo_file_38 : decode M_Mo_file.2.1 38 = .ok (.aload_n 0, 1) := by decide +kernel
theorem d_Mo_file_39 : decode M_Mo_file.2.1 39 = .ok (.getfield 158, 3) := by decide +kernel
theorem d_Mo_file_42 : decode M_Mo_file.2.1 42 = .ok (.goto 9, 3) := by decide +kernel
theorem d_Mo_file_45 : decode M_Mo_file.2.1 45 = .ok (.aload_n 0, 1) := by decide +kernel
theorem d_Mo_file_46 : decode M_Mo_file.2.1 46 = .ok (.getfield 35, 3) := by decide +kernel
theorem d_Mo_file_49 : decode M_Mo_file.2.1 49 = .ok (.iload_n 1, 1) := by decide +kernel
theorem d_Mo_file_50 : decode M_Mo_file.2.1 50 = .ok (.iaload, 1) := by decide +kernel
theorem d_Mo_file_51 : decode M_Mo_file.2.1 51 = .ok (.ireturn, 1) := by decide +kernel
theorem d_Mo_patch_0 : decode M_Mo_patch.2.1 0 = .ok (.iload_n 2, 1) := by decide +kernel
theorem d_Mo_patch_1 : decode M_Mo_patch.2.1 1 = .ok (.iconst 0, 1) := by decide +kernel
theorem d_Mo_patch_2 : decode M_Mo_patch.2.1 2 = .ok (.sipush 255, 3) := by decide +kernel
theorem d_Mo_patch_5 : decode M_Mo_patch.2.1 5 = .ok (.invokestatic 87, 3) := by decide +kernel
theorem d_Mo_patch_8 : decode M_Mo_patch.2.1 8 = .ok (.ifCond .ne 9, 3) := by decide +kernel
theorem d_Mo_patch_11 : decode M_Mo_patch.2.1 11 = .ok (.aload_n 0, 1) := by decide +kernel
theorem d_Mo_patch_12 : decode M_Mo_patch.2.1 12 = .ok (.iconst 1, 1) := by decide +kernel
theorem d_Mo_patch_13 : decode M_Mo_patch.2.1 13 = .ok (.invokevirtual 91, 3) := by decide +kernel
theorem d_Mo_patch_16 : decode M_Mo_patch.2.1 16 = .ok (.ireturn, 1) := by decide +kernel
theorem d_Mo_patch_17 : decode M_Mo_patch.2.1 17 = .ok (.iload_n 1, 1) := by decide +kernel
theorem d_Mo_patch_18 : decode M_Mo_patch.2.1 18 = .ok (.iconst 0, 1) := by decide +kernel
theorem d_Mo_patch_19 : decode M_Mo_patch.2.1 19 = .ok (.aload_n 0, 1) := by decide +kernel
theorem d_Mo_patch_20 : decode M_Mo_patch.2.1 20 = .ok (.getfield 158, 3) := by decide +kernel
theorem d_Mo_patch_23 : decode M_Mo_patch.2.1 23 = .ok (.invokestatic 87, 3) := by decide +kernel
theorem d_Mo_patch_26 : decode M_Mo_patch.2.1 26 = .ok (.ifCond .eq 10, 3) := by decide +kernel
theorem d_Mo_patch_29 : decode M_Mo_patch.2.1 29 = .ok (.iload_n 1, 1) := by decide +kernel
theorem d_Mo_patch_30 : decode M_Mo_patch.2.1 30 = .ok (.sipush 1500, 3) := by decide +kernel
theorem d_Mo_patch_33 : decode M_Mo_patch.2.1 33 = .ok (.if_icmp .ne 9, 3) := by decide +kernel
theorem d_Mo_patch_36 : decode M_Mo_patch.2.1 36 = .ok (.aload_n 0, 1) := by decide +kernel
theorem d_Mo_patch_37 : decode M_Mo_patch.2.1 37 = .ok (.iconst 2, 1) := by decide +kernel
theorem d_Mo_patch_38 : decode M_Mo_patch.2.1 38 = .ok (.invokevirtual 91, 3) := by decide +kernel
theorem d_Mo_patch_41 : decode M_Mo_patch.2.1 41 = .ok (.ireturn, 1) := by decide +kernel
theorem d_Mo_patch_42 : decode M_Mo_patch.2.1 42 = .ok (.aload_n 0, 1) := by decide +kernel
theorem d_Mo_patch_43 : decode M_Mo_patch.2.1 43 = .ok (.iconst 0, 1) := by decide +kernel
theorem d_Mo_patch_44 : decode M_Mo_patch.2.1 44 = .ok (.putfield 59, 3) := by decide +kernel
theorem d_Mo_patch_47 : decode M_Mo_patch.2.1 47 = .ok (.iload_n 1, 1) := by decide +kernel
theorem d_Mo_patch_48 : decode M_Mo_patch.2.1 48 = .ok (.aload_n 0, 1) := by decide +kernel
theorem d_Mo_patch_49 : decode M_Mo_patch.2.1 49 = .ok (.getfield 158, 3) := by decide +kernel
theorem d_Mo_patch_52 : decode M_Mo_patch.2.1 52 = .ok (.if_icmp .ge 12, 3) := by decide +kernel
theorem d_Mo_patch_55 : decode M_Mo_patch.2.1 55 = .ok (.aload_n 0, 1) := by decide +kernel
theorem d_Mo_patch_56 : decode M_Mo_patch.2.1 56 = .ok (.getfield 35, 3) := by decide +kernel
theorem d_Mo_patch_59 : decode M_Mo_patch.2.1 59 = .ok (.iload_n 1, 1) := by decide +kernel
theorem d_Mo_patch_60 : decode M_Mo_patch.2.1 60 = .ok (.iaload, 1) := by decide +kernel
theorem d_Mo_patch_61 : decode M_Mo_patch.2.1 61 = .ok (.goto 4, 3) := by decide +kernel
theorem d_Mo_patch_64 : decode M_Mo_patch.2.1 64 = .ok (.iconst (-1), 1) := by decide +kernel
theorem d_Mo_patch_65 : decode M_Mo_patch.2.1 65 = .ok (.istore_n 3, 1) := by decide +kernel
theorem d_Mo_patch_66 : decode M_Mo_patch.2.1 66 = .ok (.aload_n 0, 1) := by decide +kernel
theorem d_Mo_patch_67 : decode M_Mo_patch.2.1 67 = .ok (.getfield 35, 3) := by decide +kernel
theorem d_Mo_patch_70 : decode M_Mo_patch.2.1 70 = .ok (.iload_n 1, 1) := by decide +kernel
theorem d_Mo_patch_71 : decode M_Mo_patch.2.1 71 = .ok (.iload_n 2, 1) := by decide +kernel
theorem d_Mo_patch_72 : decode M_Mo_patch.2.1 72 = .ok (.iastore, 1) := by decide +kernel
theorem d_Mo_patch_73 : decode M_Mo_patch.2.1 73 = .ok (.iload_n 1, 1) := by decide +kernel
theorem d_Mo_patch_74 : decode M_Mo_patch.2.1 74 = .ok (.aload_n 0, 1) := by decide +kernel
theorem d_Mo_patch_75 : decode M_Mo_patch.2.1 75 = .ok (.getfield 158, 3) := by decide +kernel
theorem d_Mo_patch_78 : decode M_Mo_patch.2.1 78 = .ok (.if_icmp .ne 13, 3) := by decide +kernel
theorem d_Mo_patch_81 : decode M_Mo_patch.2.1 81 = .ok (.aload_n 0, 1) := by decide +kernel
theorem d_Mo_patch_82 : decode M_Mo_patch.2.1 82 = .ok (.dup, 1) := by decide +kernel
theorem d_Mo_patch_83 : decode M_Mo_patch.2.1 83 = .ok (.getfield 158, 3) := by decide +kernel
theorem d_Mo_patch_86 : decode M_Mo_patch.2.1 86 = .ok (.iconst 1, 1) := by decide +kernel
theorem d_Mo_patch_87 : decode M_Mo_patch.2.1 87 = .ok (.iadd, 1) := by decide +kernel
theorem d_Mo_patch_88 : decode M_Mo_patch.2.1 88 = .ok (.putfield 158, 3) := by decide +kernel
theorem d_Mo_patch_91 : decode M_Mo_patch.2.1 91 = .ok (.iload_n 3, 1) := by decide +kernel
theorem d_Mo_patch_92 : decode M_Mo_patch.2.1 92 = .ok (.ireturn, 1) := by decide +kernel
theorem d_Mo_cut_0 : decode M_Mo_cut.2.1 0 = .ok (.iload_n 1, 1) := by decide +kernel
theorem d_Mo_cut_1 : decode M_Mo_cut.2.1 1 = .ok (.iconst 0, 1) := by decide +kernel
theorem d_Mo_cut_2 : decode M_Mo_cut.2.1 2 = .ok (.aload_n 0, 1) := by decide +kernel
theorem d_Mo_cut_3 : decode M_Mo_cut.2.1 3 = .ok (.getfield 158, 3) := by decide +kernel
theorem d_Mo_cut_6 : decode M_Mo_cut.2.1 6 = .ok (.invokestatic 87, 3) := by decide +kernel
theorem d_Mo_cut_9 : decode M_Mo_cut.2.1 9 = .ok (.ifCond .ne 9, 3) := by decide +kernel
theorem d_Mo_cut_12 : decode M_Mo_cut.2.1 12 = .ok (.aload_n 0, 1) := by decide +kernel
theorem d_Mo_cut_13 : decode M_Mo_cut.2.1 13 = .ok (.iconst 1, 1) := by decide +kernel
theorem d_Mo_cut_14 : decode M_Mo_cut.2.1 14 = .ok (.invokevirtual 91, 3) := by decide +kernel
theorem d_Mo_cut_17 : decode M_Mo_cut.2.1 17 = .ok (.ireturn, 1) := by decide +kernel
theorem d_Mo_cut_18 : decode M_Mo_cut.2.1 18 = .ok (.aload_n 0, 1) := by decide +kernel
theorem d_Mo_cut_19 : decode M_Mo_cut.2.1 19 = .ok (.iconst 0, 1) := by decide +kernel
theorem d_Mo_cut_20 : decode M_Mo_cut.2.1 20 = .ok (.putfield 59, 3) := by decide +kernel
theorem d_Mo_cut_23 : decode M_Mo_cut.2.1 23 = .ok (.aload_n 0, 1) := by decide +kernel
theorem d_Mo_cut_24 : decode M_Mo_cut.2.1 24 = .ok (.getfield 158, 3) := by decide +kernel
theorem d_Mo_cut_27 : decode M_Mo_cut.2.1 27 = .ok (.iload_n 1, 1) := by decide +kernel
theorem d_Mo_cut_28 : decode M_Mo_cut.2.1 28 = .ok (.isub, 1) := by decide +kernel
theorem d_Mo_cut_29 : decode M_Mo_cut.2.1 29 = .ok (.istore_n 2, 1) := by decide +kernel
theorem d_Mo_cut_30 : decode M_Mo_cut.2.1 30 = .ok (.aload_n 0, 1) := by decide +kernel
theorem d_Mo_cut_31 : decode M_Mo_cut.2.1 31 = .ok (.iload_n 1, 1) := by decide +kernel
theorem d_Mo_cut_32 : decode M_Mo_cut.2.1 32 = .ok (.putfield 158, 3) := by decide +kernel
theorem d_Mo_cut_35 : decode M_Mo_cut.2.1 35 = .ok (.iload_n 2, 1) := by decide +kernel
theorem d_Mo_cut_36 : decode M_Mo_cut.2.1 36 = .ok (.ireturn, 1) := by decide +kernel
theorem d_Mo_count_0 : decode M_Mo_count.2.1 0 = .ok (.iload_n 1, 1) := by decide +kernel
theorem d_Mo_count_1 : decode M_Mo_count.2.1 1 = .ok (.bipush 10, 2) := by decide +kernel
theorem d_Mo_count_3 : decode M_Mo_count.2.1 3 = .ok (.bipush 12, 2) := by decide +kernel
theorem d_Mo_count_5 : decode M_Mo_count.2.1 5 = .ok (.invokestatic 87, 3) := by decide +kernel
theorem d_Mo_count_8 : decode M_Mo_count.2.1 8 = .ok (.ifCond .ne 36, 3) := by decide +kernel
theorem d_Mo_count_11 : decode M_Mo_count.2.1 11 = .ok (.iload_n 1, 1) := by decide +kernel
theorem d_Mo_count_12 : decode M_Mo_count.2.1 12 = .ok (.bipush 20, 2) := by decide +kernel
theorem d_Mo_count_14 : decode M_Mo_count.2.1 14 = .ok (.bipush 22, 2) := by decide +kernel
theorem d_Mo_count_16 : decode M_Mo_count.2.1 16 = .ok (.invokestatic 87, 3) := by decide +kernel
theorem d_Mo_count_19 : decode M_Mo_count.2.1 19 = .ok (.ifCond .ne 25, 3) := by decide +kernel
theorem d_Mo_count_22 : decode M_Mo_count.2.1 22 = .ok (.iload_n 1, 1) := by decide +kernel
theorem d_Mo_count_23 : decode M_Mo_count.2.1 23 = .ok (.bipush 30, 2) := by decide +kernel
theorem d_Mo_count_25 : decode M_Mo_count.2.1 25 = .ok (.bipush 32, 2) := by decide +kernel
theorem d_Mo_count_27 : decode M_Mo_count.2.1 27 = .ok (.invokestatic 87, 3) := by decide +kernel
theorem d_Mo_count_30 : decode M_Mo_count.2.1 30 = .ok (.ifCond .ne 14, 3) := by decide +kernel
theorem d_Mo_count_33 : decode M_Mo_count.2.1 33 = .ok (.iload_n 1, 1) := by decide +kernel
theorem d_Mo_count_34 : decode M_Mo_count.2.1 34 = .ok (.bipush 40, 2) := by decide +kernel
theorem d_Mo_count_36 : decode M_Mo_count.2.1 36 = .ok (.bipush 42, 2) := by decide +kernel
theorem d_Mo_count_38 : decode M_Mo_count.2.1 38 = .ok (.invokestatic 87, 3) := by decide +kernel
theorem d_Mo_count_41 : decode M_Mo_count.2.1 41 = .ok (.ifCond .eq 7, 3) := by decide +kernel
theorem d_Mo_count_44 : decode M_Mo_count.2.1 44 = .ok (.iconst 1, 1) := by decide +kernel
theorem d_Mo_count_45 : decode M_Mo_count.2.1 45 = .ok (.goto 4, 3) := by decide +kernel
theorem d_Mo_count_48 : decode M_Mo_count.2.1 48 = .ok (.iconst 0, 1) := by decide +kernel
theorem d_Mo_count_49 : decode M_Mo_count.2.1 49 = .ok (.istore_n 2, 1) := by decide +kernel
theorem d_Mo_count_50 : decode M_Mo_count.2.1 50 = .ok (.iload_n 1, 1) := by decide +kernel
theorem d_Mo_count_51 : decode M_Mo_count.2.1 51 = .ok (.iconst 0, 1) := by decide +kernel
theorem d_Mo_count_52 : decode M_Mo_count.2.1 52 = .ok (.iconst 2, 1) := by decide +kernel
theorem d_Mo_count_53 : decode M_Mo_count.2.1 53 = .ok (.invokestatic 87, 3) := by decide +kernel
theorem d_Mo_count_56 : decode M_Mo_count.2.1 56 = .ok (.ifCond .ne 13, 3) := by decide +kernel
theorem d_Mo_count_59 : decode M_Mo_count.2.1 59 = .ok (.iload_n 2, 1) := by decide +kernel
theorem d_Mo_count_60 : decode M_Mo_count.2.1 60 = .ok (.ifCond .ne 9, 3) := by decide +kernel
theorem d_Mo_count_63 : decode M_Mo_count.2.1 63 = .ok (.aload_n 0, 1) := by decide +kernel
theorem d_Mo_count_64 : decode M_Mo_count.2.1 64 = .ok (.iconst 1, 1) := by decide +kernel
theorem d_Mo_count_65 : decode M_Mo_count.2.1 65 = .ok (.invokevirtual 91, 3) := by decide +kernel
theorem d_Mo_count_68 : decode M_Mo_count.2.1 68 = .ok (.ireturn, 1) := by decide +kernel
theorem d_Mo_count_69 : decode M_Mo_count.2.1 69 = .ok (.aload_n 0, 1) := by decide +kernel
theorem d_Mo_count_70 : decode M_Mo_count.2.1 70 = .ok (.iconst 0, 1) := by decide +kernel
theorem d_Mo_count_71 : decode M_Mo_count.2.1 71 = .ok (.putfield 59, 3) := by decide +kernel
theorem d_Mo_count_74 : decode M_Mo_count.2.1 74 = .ok (.iload_n 1, 1) := by decide +kernel
theorem d_Mo_count_75 : decode M_Mo_count.2.1 75 = .ok (.iconst 3, 1) := by decide +kernel
theorem d_Mo_count_76 : decode M_Mo_count.2.1 76 = .ok (.if_icmp .ge 31, 3) := by decide +kernel
theorem d_Mo_count_79 : decode M_Mo_count.2.1 79 = .ok (.iload_n 1, 1) := by decide +kernel
theorem d_Mo_count_80 : decode M_Mo_count.2.1 80 = .ok (.ifCond .ne 10, 3) := by decide +kernel
theorem d_Mo_count_83 : decode M_Mo_count.2.1 83 = .ok (.aload_n 0, 1) := by decide +kernel
theorem d_Mo_count_84 : decode M_Mo_count.2.1 84 = .ok (.getfield 7, 3) := by decide +kernel
theorem d_Mo_count_87 : decode M_Mo_count.2.1 87 = .ok (.goto 19, 3) := by decide +kernel
theorem d_Mo_count_90 : decode M_Mo_count.2.1 90 = .ok (.iload_n 1, 1) := by decide +kernel
theorem d_Mo_count_91 : decode M_Mo_count.2.1 91 = .ok (.iconst 1, 1) := by decide +kernel
theorem d_Mo_count_92 : decode M_Mo_count.2.1 92 = .ok (.if_icmp .ne 10, 3) := by decide +kernel
theorem d_Mo_count_95 : decode M_Mo_count.2.1 95 = .ok (.aload_n 0, 1) := by decide +kernel
theorem d_Mo_count_96 : decode M_Mo_count.2.1 96 = .ok (.getfield 13, 3) := by decide +kernel
theorem d_Mo_count_99 : decode M_Mo_count.2.1 99 = .ok (.goto 7, 3) := by decide +kernel
theorem d_Mo_count_102 : decode M_Mo_count.2.1 102 = .ok (.aload_n 0, 1) := by decide +kernel
theorem d_Mo_count_103 : decode M_Mo_count.2.1 103 = .ok (.getfield 16, 3) := by decide +kernel
theorem d_Mo_count_106 : decode M_Mo_count.2.1 106 = .ok (.ireturn, 1) := by decide +kernel
theorem d_Mo_count_107 : decode M_Mo_count.2.1 107 = .ok (.iload_n 1, 1) := by decide +kernel
theorem d_Mo_count_108 : decode M_Mo_count.2.1 108 = .ok (.bipush 10, 2) := by decide +kernel
theorem d_Mo_count_110 : decode M_Mo_count.2.1 110 = .ok (.irem, 1) := by decide +kernel
theorem d_Mo_count_111 : decode M_Mo_count.2.1 111 = .ok (.istore_n 3, 1) := by decide +kernel
theorem d_Mo_count_112 : decode M_Mo_count.2.1 112 = .ok (.iload_n 3, 1) := by decide +kernel
theorem d_Mo_count_113 : decode M_Mo_count.2.1 113 = .ok (.aload_n 0, 1) := by decide +kernel
theorem d_Mo_count_114 : decode M_Mo_count.2.1 114 = .ok (.getfield 16, 3) := by decide +kernel
theorem d_Mo_count_117 : decode M_Mo_count.2.1 117 = .ok (.if_icmp .lt 5, 3) := by decide +kernel
theorem d_Mo_count_120 : decode M_Mo_count.2.1 120 = .ok (.iconst 0, 1) := by decide +kernel
theorem d_Mo_count_121 : decode M_Mo_count.2.1 121 = .ok (.ireturn, 1) := by decide +kernel
theorem d_Mo_count_122 : decode M_Mo_count.2.1 122 = .ok (.iload_n 1, 1) := by decide +kernel
theorem d_Mo_count_123 : decode M_Mo_count.2.1 123 = .ok (.bipush 20, 2) := by decide +kernel
theorem d_Mo_count_125 : decode M_Mo_count.2.1 125 = .ok (.if_icmp .ge 12, 3) := by decide +kernel
theorem d_Mo_count_128 : decode M_Mo_count.2.1 128 = .ok (.aload_n 0, 1) := by decide +kernel
theorem d_Mo_count_129 : decode M_Mo_count.2.1 129 = .ok (.getfield 22, 3) := by decide +kernel
theorem d_Mo_count_132 : decode M_Mo_count.2.1 132 = .ok (.iload_n 3, 1) := by decide +kernel
theorem d_Mo_count_133 : decode M_Mo_count.2.1 133 = .ok (.iaload, 1) := by decide +kernel
theorem d_Mo_count_134 : decode M_Mo_count.2.1 134 = .ok (.goto 60, 3) := by decide +kernel
theorem d_Mo_count_137 : decode M_Mo_count.2.1 137 = .ok (.iload_n 1, 1) := by decide +kernel
theorem d_Mo_count_138 : decode M_Mo_count.2.1 138 = .ok (.bipush 30, 2) := by decide +kernel
theorem d_Mo_count_140 : decode M_Mo_count.2.1 140 = .ok (.if_icmp .ge 12, 3) := by decide +kernel
theorem d_Mo_count_143 : decode M_Mo_count.2.1 143 = .ok (.aload_n 0, 1) := by decide +kernel
theorem d_Mo_count_144 : decode M_Mo_count.2.1 144 = .ok (.getfield 26, 3) := by decide +kernel
theorem d_Mo_count_147 : decode M_Mo_count.2.1 147 = .ok (.iload_n 3, 1) := by decide +kernel
theorem d_Mo_count_148 : decode M_Mo_count.2.1 148 = .ok (.iaload, 1) := by decide +kernel
theorem d_Mo_count_149 : decode M_Mo_count.2.1 149 = .ok (.goto 45, 3) := by decide +kernel
theorem d_Mo_count_152 : decode M_Mo_count.2.1 152 = .ok (.iload_n 1, 1) := by decide +kernel
theorem d_Mo_count_153 : decode M_Mo_count.2.1 153 = .ok (.bipush 40, 2) := by decide +kernel
theorem d_Mo_count_155 : decode M_Mo_count.2.1 155 = .ok (.if_icmp .ge 12, 3) := by decide +kernel
theorem d_Mo_count_158 : decode M_Mo_count.2.1 158 = .ok (.aload_n 0, 1) := by decide +kernel
theorem d_Mo_count_159 : decode M_Mo_count.2.1 159 = .ok (.getfield 29, 3) := by decide +kernel
theorem d_Mo_count_162 : decode M_Mo_count.2.1 162 = .ok (.iload_n 3, 1) := by decide +kernel
theorem d_Mo_count_163 : decode M_Mo_count.2.1 163 = .ok (.iaload, 1) := by decide +kernel
theorem d_Mo_count_164 : decode M_Mo_count.2.1 164 = .ok (.goto 30, 3) := by decide +kernel
theorem d_Mo_count_167 : decode M_Mo_count.2.1 167 = .ok (.aload_n 0, 1) := by decide +kernel
theorem d_Mo_count_168 : decode M_Mo_count.2.1 168 = .ok (.getfield 7, 3) := by decide +kernel
theorem d_Mo_count_171 : decode M_Mo_count.2.1 171 = .ok (.aload_n 0, 1) := by decide +kernel
theorem d_Mo_count_172 : decode M_Mo_count.2.1 172 = .ok (.getfield 29, 3) := by decide +kernel
theorem d_Mo_count_175 : decode M_Mo_count.2.1 175 = .ok (.iload_n 3, 1) := by decide +kernel
theorem d_Mo_count_176 : decode M_Mo_count.2.1 176 = .ok (.iaload, 1) := by decide +kernel
theorem d_Mo_count_177 : decode M_Mo_count.2.1 177 = .ok (.invokestatic 131, 3) := by decide +kernel
theorem d_Mo_count_180 : decode M_Mo_count.2.1 180 = .ok (.aload_n 0, 1) := by decide +kernel
theorem d_Mo_count_181 : decode M_Mo_count.2.1 181 = .ok (.getfield 13, 3) := by decide +kernel
theorem d_Mo_count_184 : decode M_Mo_count.2.1 184 = .ok (.aload_n 0, 1) := by decide +kernel
theorem d_Mo_count_185 : decode M_Mo_count.2.1 185 = .ok (.getfield 29, 3) := by decide +kernel
theorem d_Mo_count_188 : decode M_Mo_count.2.1 188 = .ok (.iload_n 3, 1) := by decide +kernel
theorem d_Mo_count_189 : decode M_Mo_count.2.1 189 = .ok (.iaload, 1) := by decide +kernel
theorem d_Mo_count_190 : decode M_Mo_count.2.1 190 = .ok (.invokestatic 131, 3) := by decide +kernel
theorem d_Mo_count_193 : decode M_Mo_count.2.1 193 = .ok (.imul, 1) := by decide +kernel
theorem d_Mo_count_194 : decode M_Mo_count.2.1 194 = .ok (.ireturn, 1) := by decide +kernel
