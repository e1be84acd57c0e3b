theorem d_Mo_chunk_54 : decode M_Mo_chunk.2.1 54 = .ok (.ifCond .eq 12, 3) := by decide +kernel
theorem d_Mo_chunk_57 : decode M_Mo_chunk.2.1 57 = .ok (.aload_n 0, 1) := by decide +kernel
theorem d_Mo_chunk_58 : decode M_Mo_chunk.2.1 58 = .ok (.getfield 152, 3) := by decide +kernel
theorem d_Mo_chunk_61 : decode M_Mo_chunk.2.1 61 = .ok (.iload 5, 2) := by decide +kernel
theorem d_Mo_chunk_63 : decode M_Mo_chunk.2.1 63 = .ok (.if_icmp .lt 7, 3) := by decide +kernel
theorem d_Mo_chunk_66 : decode M_Mo_chunk.2.1 66 = .ok (.iconst 1, 1) := by decide +kernel
theorem d_Mo_chunk_67 : decode M_Mo_chunk.2.1 67 = .ok (.goto 4, 3) := by decide +kernel
theorem d_Mo_chunk_70 : decode M_Mo_chunk.2.1 70 = .ok (.iconst 0, 1) := by decide +kernel
theorem d_Mo_chunk_71 : decode M_Mo_chunk.2.1 71 = .ok (.istore 6, 2) := by decide +kernel
theorem d_Mo_chunk_73 : decode M_Mo_chunk.2.1 73 = .ok (.iload 6, 2) := by decide +kernel
theorem d_Mo_chunk_75 : decode M_Mo_chunk.2.1 75 = .ok (.ifCond .eq 11, 3) := by decide +kernel
theorem d_Mo_chunk_78 : decode M_Mo_chunk.2.1 78 = .ok (.aload_n 0, 1) := by decide +kernel
theorem d_Mo_chunk_79 : decode M_Mo_chunk.2.1 79 = .ok (.iload_n 2, 1) := by decide +kernel
theorem d_Mo_chunk_80 : decode M_Mo_chunk.2.1 80 = .ok (.iload_n 3, 1) := by decide +kernel
theorem d_Mo_chunk_81 : decode M_Mo_chunk.2.1 81 = .ok (.iload 4, 2) := by decide +kernel
theorem d_Mo_chunk_83 : decode M_Mo_chunk.2.1 83 = .ok (.invokevirtual 161, 3) := by decide +kernel
theorem d_Mo_chunk_86 : decode M_Mo_chunk.2.1 86 = .ok (.iload 6, 2) := by decide +kernel
theorem d_Mo_chunk_88 : decode M_Mo_chunk.2.1 88 = .ok (.ifCond .eq 8, 3) := by decide +kernel
theorem d_Mo_chunk_91 : decode M_Mo_chunk.2.1 91 = .ok (.iload 5, 2) := by decide +kernel
theorem d_Mo_chunk_93 : decode M_Mo_chunk.2.1 93 = .ok (.goto 7, 3) := by decide +kernel
theorem d_Mo_chunk_96 : decode M_Mo_chunk.2.1 96 = .ok (.aload_n 0, 1) := by decide +kernel
theorem d_Mo_chunk_97 : decode M_Mo_chunk.2.1 97 = .ok (.getfield 152, 3) := by decide +kernel
theorem d_Mo_chunk_100 : decode M_Mo_chunk.2.1 100 = .ok (.istore 7, 2) := by decide +kernel
theorem d_Mo_chunk_102 : decode M_Mo_chunk.2.1 102 = .ok (.aload_n 0, 1) := by decide +kernel
theorem d_Mo_chunk_103 : decode M_Mo_chunk.2.1 103 = .ok (.iload_n 2, 1) := by decide +kernel
theorem d_Mo_chunk_104 : decode M_Mo_chunk.2.1 104 = .ok (.invokevirtual 170, 3) := by decide +kernel
theorem d_Mo_chunk_107 : decode M_Mo_chunk.2.1 107 = .ok (.aload_n 0, 1) := by decide +kernel
theorem d_Mo_chunk_108 : decode M_Mo_chunk.2.1 108 = .ok (.iload 7, 2) := by decide +kernel
theorem d_Mo_chunk_110 : decode M_Mo_chunk.2.1 110 = .ok (.sipush 255, 3) := by decide +kernel
theorem d_Mo_chunk_113 : decode M_Mo_chunk.2.1 113 = .ok (.iand, 1) := by decide +kernel
theorem d_Mo_chunk_114 : decode M_Mo_chunk.2.1 114 = .ok (.invokevirtual 170, 3) := by decide +kernel
theorem d_Mo_chunk_117 : decode M_Mo_chunk.2.1 117 = .ok (.aload_n 0, 1) := by decide +kernel
theorem d_Mo_chunk_118 : decode M_Mo_chunk.2.1 118 = .ok (.iload 7, 2) := by decide +kernel
theorem d_Mo_chunk_120 : decode M_Mo_chunk.2.1 120 = .ok (.bipush 8, 2) := by decide +kernel
theorem d_Mo_chunk_122 : decode M_Mo_chunk.2.1 122 = .ok (.ishr, 1) := by decide +kernel
theorem d_Mo_chunk_123 : decode M_Mo_chunk.2.1 123 = .ok (.invokevirtual 170, 3) := by decide +kernel
theorem d_Mo_chunk_126 : decode M_Mo_chunk.2.1 126 = .ok (.iconst 0, 1) := by decide +kernel
theorem d_Mo_chunk_127 : decode M_Mo_chunk.2.1 127 = .ok (.istore 8, 2) := by decide +kernel
theorem d_Mo_chunk_129 : decode M_Mo_chunk.2.1 129 = .ok (.iload 8, 2) := by decide +kernel
theorem d_Mo_chunk_131 : decode M_Mo_chunk.2.1 131 = .ok (.iload 7, 2) := by decide +kernel
theorem d_Mo_chunk_133 : decode M_Mo_chunk.2.1 133 = .ok (.if_icmp .ge 35, 3) := by decide +kernel
theorem d_Mo_chunk_136 : decode M_Mo_chunk.2.1 136 = .ok (.aload_n 0, 1) := by decide +kernel
theorem d_Mo_chunk_137 : decode M_Mo_chunk.2.1 137 = .ok (.iload 6, 2) := by decide +kernel
theorem d_Mo_chunk_139 : decode M_Mo_chunk.2.1 139 = .ok (.ifCond .eq 13, 3) := by decide +kernel
theorem d_Mo_chunk_142 : decode M_Mo_chunk.2.1 142 = .ok (.aload_n 0, 1) := by decide +kernel
theorem d_Mo_chunk_143 : decode M_Mo_chunk.2.1 143 = .ok (.getfield 50, 3) := by decide +kernel
theorem d_Mo_chunk_146 : decode M_Mo_chunk.2.1 146 = .ok (.iload 8, 2) := by decide +kernel
theorem d_Mo_chunk_148 : decode M_Mo_chunk.2.1 148 = .ok (.iaload, 1) := by decide +kernel
theorem d_Mo_chunk_149 : decode M_Mo_chunk.2.1 149 = .ok (.goto 10, 3) := by decide +kernel
theorem d_Mo_chunk_152 : decode M_Mo_chunk.2.1 152 = .ok (.aload_n 0, 1) := by decide +kernel
theorem d_Mo_chunk_153 : decode M_Mo_chunk.2.1 153 = .ok (.getfield 53, 3) := by decide +kernel
theorem d_Mo_chunk_156 : decode M_Mo_chunk.2.1 156 = .ok (.iload 8, 2) := by decide +kernel
theorem d_Mo_chunk_158 : decode M_Mo_chunk.2.1 158 = .ok (.iaload, 1) := by decide +kernel
theorem d_Mo_chunk_159 : decode M_Mo_chunk.2.1 159 = .ok (.invokevirtual 170, 3) := by decide +kernel
theorem d_Mo_chunk_162 : decode M_Mo_chunk.2.1 162 = .ok (.iinc 8 1, 3) := by decide +kernel
theorem d_Mo_chunk_165 : decode M_Mo_chunk.2.1 165 = .ok (.goto (-36), 3) := by decide +kernel
theorem d_Mo_chunk_168 : decode M_Mo_chunk.2.1 168 = .ok (.return_, 1) := by decide +kernel
theorem d_Mo_gather_0 : decode M_Mo_gather.2.1 0 = .ok (.aload_n 0, 1) := by decide +kernel
theorem d_Mo_gather_1 : decode M_Mo_gather.2.1 1 = .ok (.iconst 0, 1) := by decide +kernel
theorem d_Mo_gather_2 : decode M_Mo_gather.2.1 2 = .ok (.putfield 110, 3) := by decide +kernel
theorem d_Mo_gather_5 : decode M_Mo_gather.2.1 5 = .ok (.iload_n 1, 1) := by decide +kernel
theorem d_Mo_gather_6 : decode M_Mo_gather.2.1 6 = .ok (.istore 4, 2) := by decide +kernel
theorem d_Mo_gather_8 : decode M_Mo_gather.2.1 8 = .ok (.iload 4, 2) := by decide +kernel
theorem d_Mo_gather_10 : decode M_Mo_gather.2.1 10 = .ok (.iload_n 1, 1) := by decide +kernel
theorem d_Mo_gather_11 : decode M_Mo_gather.2.1 11 = .ok (.iload_n 2, 1) := by decide +kernel
theorem d_Mo_gather_12 : decode M_Mo_gather.2.1 12 = .ok (.iadd, 1) := by decide +kernel
theorem d_Mo_gather_13 : decode M_Mo_gather.2.1 13 = .ok (.if_icmp .ge 173, 3) := by decide +kernel
theorem d_Mo_gather_16 : decode M_Mo_gather.2.1 16 = .ok (.iconst 0, 1) := by decide +kernel
theorem d_Mo_gather_17 : decode M_Mo_gather.2.1 17 = .ok (.istore 5, 2) := by decide +kernel
theorem d_Mo_gather_19 : decode M_Mo_gather.2.1 19 = .ok (.iload 5, 2) := by decide +kernel
theorem d_Mo_gather_21 : decode M_Mo_gather.2.1 21 = .ok (.aload_n 0, 1) := by decide +kernel
theorem d_Mo_gather_22 : decode M_Mo_gather.2.1 22 = .ok (.getfield 16, 3) := by decide +kernel
theorem d_Mo_gather_25 : decode M_Mo_gather.2.1 25 = .ok (.if_icmp .ge 155, 3) := by decide +kernel
theorem d_Mo_gather_28 : decode M_Mo_gather.2.1 28 = .ok (.iload 4, 2) := by decide +kernel
theorem d_Mo_gather_30 : decode M_Mo_gather.2.1 30 = .ok (.aload_n 0, 1) := by decide +kernel
theorem d_Mo_gather_31 : decode M_Mo_gather.2.1 31 = .ok (.getfield 29, 3) := by decide +kernel
theorem d_Mo_gather_34 : decode M_Mo_gather.2.1 34 = .ok (.iload 5, 2) := by decide +kernel
theorem d_Mo_gather_36 : decode M_Mo_gather.2.1 36 = .ok (.iaload, 1) := by decide +kernel
theorem d_Mo_gather_37 : decode M_Mo_gather.2.1 37 = .ok (.irem, 1) := by decide +kernel
theorem d_Mo_gather_38 : decode M_Mo_gather.2.1 38 = .ok (.ifCond .eq 6, 3) := by decide +kernel
theorem d_Mo_gather_41 : decode M_Mo_gather.2.1 41 = .ok (.goto 133, 3) := by decide +kernel
theorem d_Mo_gather_44 : decode M_Mo_gather.2.1 44 = .ok (.iconst 0, 1) := by decide +kernel
theorem d_Mo_gather_45 : decode M_Mo_gather.2.1 45 = .ok (.istore 6, 2) := by decide +kernel
theorem d_Mo_gather_47 : decode M_Mo_gather.2.1 47 = .ok (.iconst 0, 1) := by decide +kernel
theorem d_Mo_gather_48 : decode M_Mo_gather.2.1 48 = .ok (.istore 7, 2) := by decide +kernel
theorem d_Mo_gather_50 : decode M_Mo_gather.2.1 50 = .ok (.iload 7, 2) := by decide +kernel
theorem d_Mo_gather_52 : decode M_Mo_gather.2.1 52 = .ok (.aload_n 0, 1) := by decide +kernel
theorem d_Mo_gather_53 : decode M_Mo_gather.2.1 53 = .ok (.getfield 7, 3) := by decide +kernel
theorem d_Mo_gather_56 : decode M_Mo_gather.2.1 56 = .ok (.if_icmp .ge 118, 3) := by decide +kernel
theorem d_Mo_gather_59 : decode M_Mo_gather.2.1 59 = .ok (.aload_n 0, 1) := by decide +kernel
theorem d_Mo_gather_60 : decode M_Mo_gather.2.1 60 = .ok (.getfield 32, 3) := by decide +kernel
theorem d_Mo_gather_63 : decode M_Mo_gather.2.1 63 = .ok (.bipush 64, 2) := by decide +kernel
theorem d_Mo_gather_65 : decode M_Mo_gather.2.1 65 = .ok (.iload 5, 2) := by decide +kernel
theorem d_Mo_gather_67 : decode M_Mo_gather.2.1 67 = .ok (.imul, 1) := by decide +kernel
theorem d_Mo_gather_68 : decode M_Mo_gather.2.1 68 = .ok (.bipush 8, 2) := by decide +kernel
theorem d_Mo_gather_70 : decode M_Mo_gather.2.1 70 = .ok (.iload 4, 2) := by decide +kernel
theorem d_Mo_gather_72 : decode M_Mo_gather.2.1 72 = .ok (.imul, 1) := by decide +kernel
theorem d_Mo_gather_73 : decode M_Mo_gather.2.1 73 = .ok (.iadd, 1) := by decide +kernel
theorem d_Mo_gather_74 : decode M_Mo_gather.2.1 74 = .ok (.iload 7, 2) := by decide +kernel
theorem d_Mo_gather_76 : decode M_Mo_gather.2.1 76 = .ok (.iadd, 1) := by decide +kernel
theorem d_Mo_gather_77 : decode M_Mo_gather.2.1 77 = .ok (.iaload, 1) := by decide +kernel
theorem d_Mo_gather_78 : decode M_Mo_gather.2.1 78 = .ok (.istore 8, 2) := by decide +kernel
theorem d_Mo_gather_80 : decode M_Mo_gather.2.1 80 = .ok (.iload_n 3, 1) := by decide +kernel
theorem d_Mo_gather_81 : decode M_Mo_gather.2.1 81 = .ok (.ifCond .le 22, 3) := by decide +kernel
theorem d_Mo_gather_84 : decode M_Mo_gather.2.1 84 = .ok (.aload_n 0, 1) := by decide +kernel
theorem d_Mo_gather_85 : decode M_Mo_gather.2.1 85 = .ok (.getfield 26, 3) := by decide +kernel
theorem d_Mo_gather_88 : decode M_Mo_gather.2.1 88 = .ok (.iload 5, 2) := by decide +kernel
theorem d_Mo_gather_90 : decode M_Mo_gather.2.1 90 = .ok (.iaload, 1) := by decide +kernel
theorem d_Mo_gather_91 : decode M_Mo_gather.2.1 91 = .ok (.iconst 1, 1) := by decide +kernel
theorem d_Mo_gather_92 : decode M_Mo_gather.2.1 92 = .ok (.if_icmp .ne 11, 3) := by decide +kernel
theorem d_Mo_gather_95 : decode M_Mo_gather.2.1 95 = .ok (.iload 8, 2) := by decide +kernel
theorem d_Mo_gather_97 : decode M_Mo_gather.2.1 97 = .ok (.invokestatic 117, 3) := by decide +kernel
theorem d_Mo_gather_100 : decode M_Mo_gather.2.1 100 = .ok (.goto 5, 3) := by decide +kernel
theorem d_Mo_gather_103 : decode M_Mo_gather.2.1 103 = .ok (.iload 8, 2) := by decide +kernel
theorem d_Mo_gather_105 : decode M_Mo_gather.2.1 105 = .ok (.istore 9, 2) := by decide +kernel
theorem d_Mo_gather_107 : decode M_Mo_gather.2.1 107 = .ok (.aload_n 0, 1) := by decide +kernel
theorem d_Mo_gather_108 : decode M_Mo_gather.2.1 108 = .ok (.iload_n 3, 1) := by decide +kernel
theorem d_Mo_gather_109 : decode M_Mo_gather.2.1 109 = .ok (.iconst 2, 1) := by decide +kernel
theorem d_Mo_gather_110 : decode M_Mo_gather.2.1 110 = .ok (.if_icmp .ne 16, 3) := by decide +kernel
theorem d_Mo_gather_113 : decode M_Mo_gather.2.1 113 = .ok (.iload 7, 2) := by decide +kernel
theorem d_Mo_gather_115 : decode M_Mo_gather.2.1 115 = .ok (.ifCond .le 11, 3) := by decide +kernel
theorem d_Mo_gather_118 : decode M_Mo_gather.2.1 118 = .ok (.iload 9, 2) := by decide +kernel
theorem d_Mo_gather_120 : decode M_Mo_gather.2.1 120 = .ok (.iload 6, 2) := by decide +kernel
theorem d_Mo_gather_122 : decode M_Mo_gather.2.1 122 = .ok (.isub, 1) := by decide +kernel
theorem d_Mo_gather_123 : decode M_Mo_gather.2.1 123 = .ok (.goto 5, 3) := by decide +kernel
theorem d_Mo_gather_126 : decode M_Mo_gather.2.1 126 = .ok (.iload 9, 2) := by decide +kernel
theorem d_Mo_gather_128 : decode M_Mo_gather.2.1 128 = .ok (.aload_n 0, 1) := by decide +kernel
theorem d_Mo_gather_129 : decode M_Mo_gather.2.1 129 = .ok (.getfield 26, 3) := by decide +kernel
theorem d_Mo_gather_132 : decode M_Mo_gather.2.1 132 = .ok (.iload 5, 2) := by decide +kernel
theorem d_Mo_gather_134 : decode M_Mo_gather.2.1 134 = .ok (.iaload, 1) := by decide +kernel
theorem d_Mo_gather_135 : decode M_Mo_gather.2.1 135 = .ok (.iconst 1, 1) := by decide +kernel
theorem d_Mo_gather_136 : decode M_Mo_gather.2.1 136 = .ok (.if_icmp .eq 7, 3) := by decide +kernel
theorem d_Mo_gather_139 : decode M_Mo_gather.2.1 139 = .ok (.iconst 2, 1) := by decide +kernel
theorem d_Mo_gather_140 : decode M_Mo_gather.2.1 140 = .ok (.goto 12, 3) := by decide +kernel
theorem d_Mo_gather_143 : decode M_Mo_gather.2.1 143 = .ok (.iload_n 3, 1) := by decide +kernel
theorem d_Mo_gather_144 : decode M_Mo_gather.2.1 144 = .ok (.ifCond .le 7, 3) := by decide +kernel
theorem d_Mo_gather_147 : decode M_Mo_gather.2.1 147 = .ok (.iconst 3, 1) := by decide +kernel
theorem d_Mo_gather_148 : decode M_Mo_gather.2.1 148 = .ok (.goto 4, 3) := by decide +kernel
theorem d_Mo_gather_151 : decode M_Mo_gather.2.1 151 = .ok (.iconst 4, 1) := by decide +kernel
theorem d_Mo_gather_152 : decode M_Mo_gather.2.1 152 = .ok (.invokevirtual 120, 3) := by decide +kernel
theorem d_Mo_gather_155 : decode M_Mo_gather.2.1 155 = .ok (.iload 9, 2) := by decide +kernel
theorem d_Mo_gather_157 : decode M_Mo_gather.2.1 157 = .ok (.istore 6, 2) := by decide +kernel
theorem d_Mo_gather_159 : decode M_Mo_gather.2.1 159 = .ok (.iload 7, 2) := by decide +kernel
theorem d_Mo_gather_161 : decode M_Mo_gather.2.1 161 = .ok (.aload_n 0, 1) := by decide +kernel
theorem d_Mo_gather_162 : decode M_Mo_gather.2.1 162 = .ok (.getfield 29, 3) := by decide +kernel
theorem d_Mo_gather_165 : decode M_Mo_gather.2.1 165 = .ok (.iload 5, 2) := by decide +kernel
theorem d_Mo_gather_167 : decode M_Mo_gather.2.1 167 = .ok (.iaload, 1) := by decide +kernel
theorem d_Mo_gather_168 : decode M_Mo_gather.2.1 168 = .ok (.iadd, 1) := by decide +kernel
theorem d_Mo_gather_169 : decode M_Mo_gather.2.1 169 = .ok (.istore 7, 2) := by decide +kernel
theorem d_Mo_gather_171 : decode M_Mo_gather.2.1 171 = .ok (.goto (-121), 3) := by decide +kernel
theorem d_Mo_gather_174 : decode M_Mo_gather.2.1 174 = .ok (.iinc 5 1, 3) := by decide +kernel
theorem d_Mo_gather_177 : decode M_Mo_gather.2.1 177 = .ok (.goto (-158), 3) := by decide +kernel
theorem d_Mo_gather_180 : decode M_Mo_gather.2.1 180 = .ok (.iinc 4 1, 3) := by decide +kernel
theorem d_Mo_gather_183 : decode M_Mo_gather.2.1 183 = .ok (.goto (-175), 3) := by decide +kernel
theorem d_Mo_gather_186 : decode M_Mo_gather.2.1 186 = .ok (.return_, 1) := by decide +kernel
theorem d_Mo_cutBits_0 : decode M_Mo_cutBits.2.1 0 = .ok (.iload_n 0, 1) := by decide +kernel
theorem d_Mo_cutBits_1 : decode M_Mo_cutBits.2.1 1 = .ok (.sipush 128, 3) := by decide +kernel
theorem d_Mo_cutBits_4 : decode M_Mo_cutBits.2.1 4 = .ok (.iadd, 1) := by decide +kernel
theorem d_Mo_cutBits_5 : decode M_Mo_cutBits.2.1 5 = .ok (.istore_n 1, 1) := by decide +kernel
theorem d_Mo_cutBits_6 : decode M_Mo_cutBits.2.1 6 = .ok (.iload_n 1, 1) := by decide +kernel
theorem d_Mo_cutBits_7 : decode M_Mo_cutBits.2.1 7 = .ok (.bipush 23, 2) := by decide +kernel
theorem d_Mo_cutBits_9 : decode M_Mo_cutBits.2.1 9 = .ok (.ishr, 1) := by decide +kernel
theorem d_Mo_cutBits_10 : decode M_Mo_cutBits.2.1 10 = .ok (.sipush 255, 3) := by decide +kernel
theorem d_Mo_cutBits_13 : decode M_Mo_cutBits.2.1 13 = .ok (.iand, 1) := by decide +kernel
theorem d_Mo_cutBits_14 : decode M_Mo_cutBits.2.1 14 = .ok (.sipush 255, 3) := by decide +kernel
theorem d_Mo_cutBits_17 : decode M_Mo_cutBits.2.1 17 = .ok (.if_icmp .ne 7, 3) := by decide +kernel
theorem d_Mo_cutBits_20 : decode M_Mo_cutBits.2.1 20 = .ok (.iload_n 0, 1) := by decide +kernel
theorem d_Mo_cutBits_21 : decode M_Mo_cutBits.2.1 21 = .ok (.goto 4, 3) := by decide +kernel
theorem d_Mo_cutBits_24 : decode M_Mo_cutBits.2.1 24 = .ok (.iload_n 1, 1) := by decide +kernel
theorem d_Mo_cutBits_25 : decode M_Mo_cutBits.2.1 25 = .ok (.bipush 8, 2) := by decide +kernel
theorem d_Mo_cutBits_27 : decode M_Mo_cutBits.2.1 27 = .ok (.iushr, 1) := by decide +kernel
theorem d_Mo_cutBits_28 : decode M_Mo_cutBits.2.1 28 = .ok (.ireturn, 1) := by decide +kernel
theorem d_Mo_putMany_0 : decode M_Mo_putMany.2.1 0 = .ok (.iconst 0, 1) := by decide +kernel
theorem d_Mo_putMany_1 : decode M_Mo_putMany.2.1 1 = .ok (.istore_n 3, 1) := by decide +kernel
theorem d_Mo_putMany_2 : decode M_Mo_putMany.2.1 2 = .ok (.iload_n 3, 1) := by decide +kernel
theorem d_Mo_putMany_3 : decode M_Mo_putMany.2.1 3 = .ok (.iload_n 2, 1) := by decide +kernel
theorem d_Mo_putMany_4 : decode M_Mo_putMany.2.1 4 = .ok (.if_icmp .ge 19, 3) := by decide +kernel
theorem d_Mo_putMany_7 : decode M_Mo_putMany.2.1 7 = .ok (.aload_n 0, 1) := by decide +kernel
theorem d_Mo_putMany_8 : decode M_Mo_putMany.2.1 8 = .ok (.iload_n 1, 1) := by decide +kernel
theorem d_Mo_putMany_9 : decode M_Mo_putMany.2.1 9 = .ok (.bipush 8, 2) := by decide +kernel
theorem d_Mo_putMany_11 : decode M_Mo_putMany.2.1 11 = .ok (.iload_n 3, 1) := by decide +kernel
theorem d_Mo_putMany_12 : decode M_Mo_putMany.2.1 12 = .ok (.imul, 1) := by decide +kernel
theorem d_Mo_putMany_13 : decode M_Mo_putMany.2.1 13 = .ok (.ishr, 1) := by decide +kernel
theorem d_Mo_putMany_14 : decode M_Mo_putMany.2.1 14 = .ok (.invokevirtual 113, 3) := by decide +kernel
theorem d_Mo_putMany_17 : decode M_Mo_putMany.2.1 17 = .ok (.iinc 3 1, 3) := by decide +kernel
theorem d_Mo_putMany_20 : decode M_Mo_putMany.2.1 20 = .ok (.goto (-18), 3) := by decide +kernel
theorem d_Mo_putMany_23 : decode M_Mo_putMany.2.1 23 = .ok (.return_, 1) := by decide +kernel
theorem d_Mo_put_0 : decode M_Mo_put.2.1 0 = .ok (.aload_n 0, 1) := by decide +kernel
theorem d_Mo_put_1 : decode M_Mo_put.2.1 1 = .ok (.getfield 50, 3) := by decide +kernel
theorem d_Mo_put_4 : decode M_Mo_put.2.1 4 = .ok (.aload_n 0, 1) := by decide +kernel
theorem d_Mo_put_5 : decode M_Mo_put.2.1 5 = .ok (.getfield 110, 3) := by decide +kernel
theorem d_Mo_put_8 : decode M_Mo_put.2.1 8 = .ok (.iload_n 1, 1) := by decide +kernel
theorem d_Mo_put_9 : decode M_Mo_put.2.1 9 = .ok (.sipush 255, 3) := by decide +kernel
theorem d_Mo_put_12 : decode M_Mo_put.2.1 12 = .ok (.iand, 1) := by decide +kernel
theorem d_Mo_put_13 : decode M_Mo_put.2.1 13 = .ok (.iastore, 1) := by decide +kernel
theorem d_Mo_put_14 : decode M_Mo_put.2.1 14 = .ok (.aload_n 0, 1) := by decide +kernel
theorem d_Mo_put_15 : decode M_Mo_put.2.1 15 = .ok (.dup, 1) := by decide +kernel
theorem d_Mo_put_16 : decode M_Mo_put.2.1 16 = .ok (.getfield 110, 3) := by decide +kernel
theorem d_Mo_put_19 : decode M_Mo_put.2.1 19 = .ok (.iconst 1, 1) := by decide +kernel
theorem d_Mo_put_20 : decode M_Mo_put.2.1 20 = .ok (.iadd, 1) := by decide +kernel
theorem d_Mo_put_21 : decode M_Mo_put.2.1 21 = .ok (.putfield 110, 3) := by decide +kernel
theorem d_Mo_put_24 : decode M_Mo_put.2.1 24 = .ok (.return_, 1) := by decide +kernel
theorem d_Mo_waves_0 : decode M_Mo_waves.2.1 0 = .ok (.aload_n 0, 1) := by decide +kernel
theorem d_Mo_waves_1 : decode M_Mo_waves.2.1 1 = .ok (.iconst 0, 1) := by decide +kernel
theorem d_Mo_waves_2 : decode M_Mo_waves.2.1 2 = .ok (.putfield 110, 3) := by decide +kernel
theorem d_Mo_waves_5 : decode M_Mo_waves.2.1 5 = .ok (.iconst 0, 1) := by decide +kernel
theorem d_Mo_waves_6 : decode M_Mo_waves.2.1 6 = .ok (.istore_n 3, 1) := by decide +kernel
theorem d_Mo_waves_7 : decode M_Mo_waves.2.1 7 = .ok (.iload_n 3, 1) := by decide +kernel
theorem d_Mo_waves_8 : decode M_Mo_waves.2.1 8 = .ok (.aload_n 0, 1) := by decide +kernel
theorem d_Mo_waves_9 : decode M_Mo_waves.2.1 9 = .ok (.getfield 16, 3) := by decide +kernel
theorem d_Mo_waves_12 : decode M_Mo_waves.2.1 12 = .ok (.if_icmp .ge 253, 3) := by decide +kernel
theorem d_Mo_waves_15 : decode M_Mo_waves.2.1 15 = .ok (.aload_n 0, 1) := by decide +kernel
theorem d_Mo_waves_16 : decode M_Mo_waves.2.1 16 = .ok (.getfield 7, 3) := by decide +kernel
theorem d_Mo_waves_19 : decode M_Mo_waves.2.1 19 = .ok (.aload_n 0, 1) := by decide +kernel
theorem d_Mo_waves_20 : decode M_Mo_waves.2.1 20 = .ok (.getfield 29, 3) := by decide +kernel
theorem d_Mo_waves_23 : decode M_Mo_waves.2.1 23 = .ok (.iload_n 3, 1) := by decide +kernel
theorem d_Mo_waves_24 : decode M_Mo_waves.2.1 24 = .ok (.iaload, 1) := by decide +kernel
theorem d_Mo_waves_25 : decode M_Mo_waves.2.1 25 = .ok (.invokestatic 131, 3) := by decide +kernel
theorem d_Mo_waves_28 : decode M_Mo_waves.2.1 28 = .ok (.istore 4, 2) := by decide +kernel
theorem d_Mo_waves_30 : decode M_Mo_waves.2.1 30 = .ok (.iload_n 1, 1) := by decide +kernel
theorem d_Mo_waves_31 : decode M_Mo_waves.2.1 31 = .ok (.iload_n 2, 1) := by decide +kernel
theorem d_Mo_waves_32 : decode M_Mo_waves.2.1 32 = .ok (.aload_n 0, 1) := by decide +kernel
theorem d_Mo_waves_33 : decode M_Mo_waves.2.1 33 = .ok (.getfield 29, 3) := by decide +kernel
theorem d_Mo_waves_36 : decode M_Mo_waves.2.1 36 = .ok (.iload_n 3, 1) := by decide +kernel
theorem d_Mo_waves_37 : decode M_Mo_waves.2.1 37 = .ok (.iaload, 1) := by decide +kernel
theorem d_Mo_waves_38 : decode M_Mo_waves.2.1 38 = .ok (.invokestatic 135, 3) := by decide +kernel
theorem d_Mo_waves_41 : decode M_Mo_waves.2.1 41 = .ok (.istore 5, 2) := by decide +kernel
theorem d_Mo_waves_43 : decode M_Mo_waves.2.1 43 = .ok (.iconst 0, 1) := by decide +kernel
theorem d_Mo_waves_44 : decode M_Mo_waves.2.1 44 = .ok (.istore 6, 2) := by decide +kernel
theorem d_Mo_waves_46 : decode M_Mo_waves.2.1 46 = .ok (.iload 6, 2) := by decide +kernel
theorem d_Mo_waves_48 : decode M_Mo_waves.2.1 48 = .ok (.aload_n 0, 1) := by decide +kernel
theorem d_Mo_waves_49 : decode M_Mo_waves.2.1 49 = .ok (.getfield 26, 3) := by decide +kernel
theorem d_Mo_waves_52 : decode M_Mo_waves.2.1 52 = .ok (.iload_n 3, 1) := by decide +kernel
theorem d_Mo_waves_53 : decode M_Mo_waves.2.1 53 = .ok (.iaload, 1) := by decide +kernel
theorem d_Mo_waves_54 : decode M_Mo_waves.2.1 54 = .ok (.iconst 1, 1) := by decide +kernel
theorem d_Mo_waves_55 : decode M_Mo_waves.2.1 55 = .ok (.if_icmp .ne 7, 3) := by decide +kernel
theorem d_Mo_waves_58 : decode M_Mo_waves.2.1 58 = .ok (.iconst 2, 1) := by decide +kernel
theorem d_Mo_waves_59 : decode M_Mo_waves.2.1 59 = .ok (.goto 4, 3) := by decide +kernel
theorem d_Mo_waves_62 : decode M_Mo_waves.2.1 62 = .ok (.iconst 1, 1) := by decide +kernel
theorem d_Mo_waves_63 : decode M_Mo_waves.2.1 63 = .ok (.if_icmp .ge 196, 3) := by decide +kernel
theorem d_Mo_waves_66 : decode M_Mo_waves.2.1 66 = .ok (.iconst 0, 1) := by decide +kernel
theorem d_Mo_waves_67 : decode M_Mo_waves.2.1 67 = .ok (.istore 7, 2) := by decide +kernel
theorem d_Mo_waves_69 : decode M_Mo_waves.2.1 69 = .ok (.iload_n 1, 1) := by decide +kernel
theorem d_Mo_waves_70 : decode M_Mo_waves.2.1 70 = .ok (.istore 8, 2) := by decide +kernel
theorem d_Mo_waves_72 : decode M_Mo_waves.2.1 72 = .ok (.iload 8, 2) := by decide +kernel
theorem d_Mo_waves_74 : decode M_Mo_waves.2.1 74 = .ok (.iload_n 1, 1) := by decide +kernel
theorem d_Mo_waves_75 : decode M_Mo_waves.2.1 75 = .ok (.iload_n 2, 1) := by decide +kernel
theorem d_Mo_waves_76 : decode M_Mo_waves.2.1 76 = .ok (.iadd, 1) := by decide +kernel
theorem d_Mo_waves_77 : decode M_Mo_waves.2.1 77 = .ok (.if_icmp .ge 90, 3) := by decide +kernel
theorem d_Mo_waves_80 : decode M_Mo_waves.2.1 80 = .ok (.iload 8, 2) := by decide +kernel
theorem d_Mo_waves_82 : decode M_Mo_waves.2.1 82 = .ok (.aload_n 0, 1) := by decide +kernel
theorem d_Mo_waves_83 : decode M_Mo_waves.2.1 83 = .ok (.getfield 29, 3) := by decide +kernel
theorem d_Mo_waves_86 : decode M_Mo_waves.2.1 86 = .ok (.iload_n 3, 1) := by decide +kernel
theorem d_Mo_waves_87 : decode M_Mo_waves.2.1 87 = .ok (.iaload, 1) := by decide +kernel
theorem d_Mo_waves_88 : decode M_Mo_waves.2.1 88 = .ok (.irem, 1) := by decide +kernel
theorem d_Mo_waves_89 : decode M_Mo_waves.2.1 89 = .ok (.ifCond .eq 6, 3) := by decide +kernel
theorem d_Mo_waves_92 : decode M_Mo_waves.2.1 92 = .ok (.goto 69, 3) := by decide +kernel
theorem d_Mo_waves_95 : decode M_Mo_waves.2.1 95 = .ok (.iconst 0, 1) := by decide +kernel
theorem d_Mo_waves_96 : decode M_Mo_waves.2.1 96 = .ok (.istore 9, 2) := by decide +kernel
theorem d_Mo_waves_98 : decode M_Mo_waves.2.1 98 = .ok (.iload 9, 2) := by decide +kernel
theorem d_Mo_waves_100 : decode M_Mo_waves.2.1 100 = .ok (.iload 4, 2) := by decide +kernel
theorem d_Mo_waves_102 : decode M_Mo_waves.2.1 102 = .ok (.if_icmp .ge 56, 3) := by decide +kernel
theorem d_Mo_waves_105 : decode M_Mo_waves.2.1 105 = .ok (.aload_n 0, 1) := by decide +kernel
theorem d_Mo_waves_106 : decode M_Mo_waves.2.1 106 = .ok (.getfield 56, 3) := by decide +kernel
theorem d_Mo_waves_109 : decode M_Mo_waves.2.1 109 = .ok (.bipush 8, 2) := by decide +kernel
theorem d_Mo_waves_111 : decode M_Mo_waves.2.1 111 = .ok (.iload 7, 2) := by decide +kernel
theorem d_Mo_waves_113 : decode M_Mo_waves.2.1 113 = .ok (.imul, 1) := by decide +kernel
theorem d_Mo_waves_114 : decode M_Mo_waves.2.1 114 = .ok (.iload 9, 2) := by decide +kernel
theorem d_Mo_waves_116 : decode M_Mo_waves.2.1 116 = .ok (.iadd, 1) := by decide +kernel
theorem d_Mo_waves_117 : decode M_Mo_waves.2.1 117 = .ok (.aload_n 0, 1) := by decide +kernel
theorem d_Mo_waves_118 : decode M_Mo_waves.2.1 118 = .ok (.getfield 32, 3) := by decide +kernel
theorem d_Mo_waves_121 : decode M_Mo_waves.2.1 121 = .ok (.bipush 64, 2) := by decide +kernel
theorem d_Mo_waves_123 : decode M_Mo_waves.2.1 123 = .ok (.iload_n 3, 1) := by decide +kernel
theorem d_Mo_waves_124 : decode M_Mo_waves.2.1 124 = .ok (.imul, 1) := by decide +kernel
theorem d_Mo_waves_125 : decode M_Mo_waves.2.1 125 = .ok (.bipush 8, 2) := by decide +kernel
theorem d_Mo_waves_127 : decode M_Mo_waves.2.1 127 = .ok (.iload 8, 2) := by decide +kernel
theorem d_Mo_waves_129 : decode M_Mo_waves.2.1 129 = .ok (.imul, 1) := by decide +kernel
theorem d_Mo_waves_130 : decode M_Mo_waves.2.1 130 = .ok (.iadd, 1) := by decide +kernel
theorem d_Mo_waves_131 : decode M_Mo_waves.2.1 131 = .ok (.aload_n 0, 1) := by decide +kernel
theorem d_Mo_waves_132 : decode M_Mo_waves.2.1 132 = .ok (.getfield 29, 3) := by decide +kernel
theorem d_Mo_waves_135 : decode M_Mo_waves.2.1 135 = .ok (.iload_n 3, 1) := by decide +kernel
theorem d_Mo_waves_136 : decode M_Mo_waves.2.1 136 = .ok (.iaload, 1) := by decide +kernel
theorem d_Mo_waves_137 : decode M_Mo_waves.2.1 137 = .ok (.iload 9, 2) := by decide +kernel
theorem d_Mo_waves_139 : decode M_Mo_waves.2.1 139 = .ok (.imul, 1) := by decide +kernel
theorem d_Mo_waves_140 : decode M_Mo_waves.2.1 140 = .ok (.iadd, 1) := by decide +kernel
theorem d_Mo_waves_141 : decode M_Mo_waves.2.1 141 = .ok (.iaload, 1) := by decide +kernel
theorem d_Mo_waves_142 : decode M_Mo_waves.2.1 142 = .ok (.bipush 16, 2) := by decide +kernel
theorem d_Mo_waves_144 : decode M_Mo_waves.2.1 144 = .ok (.iload 6, 2) := by decide +kernel
theorem d_Mo_waves_146 : decode M_Mo_waves.2.1 146 = .ok (.imul, 1) := by decide +kernel
theorem d_Mo_waves_147 : decode M_Mo_waves.2.1 147 = .ok (.ishr, 1) := by decide +kernel
theorem d_Mo_waves_148 : decode M_Mo_waves.2.1 148 = .ok (.ldc 72, 2) := by decide +kernel
theorem d_Mo_waves_150 : decode M_Mo_waves.2.1 150 = .ok (.iand, 1) := by decide +kernel
theorem d_Mo_waves_151 : decode M_Mo_waves.2.1 151 = .ok (.iastore, 1) := by decide +kernel
theorem d_Mo_waves_152 : decode M_Mo_waves.2.1 152 = .ok (.iinc 9 1, 3) := by decide +kernel
theorem d_Mo_waves_155 : decode M_Mo_waves.2.1 155 = .ok (.goto (-57), 3) := by decide +kernel
theorem d_Mo_waves_158 : decode M_Mo_waves.2.1 158 = .ok (.iinc 7 1, 3) := by decide +kernel
theorem d_Mo_waves_161 : decode M_Mo_waves.2.1 161 = .ok (.iinc 8 1, 3) := by decide +kernel
theorem d_Mo_waves_164 : decode M_Mo_waves.2.1 164 = .ok (.goto (-92), 3) := by decide +kernel
theorem d_Mo_waves_167 : decode M_Mo_waves.2.1 167 = .ok (.iconst 1, 1) := by decide +kernel
theorem d_Mo_waves_168 : decode M_Mo_waves.2.1 168 = .ok (.istore 8, 2) := by decide +kernel
theorem d_Mo_waves_170 : decode M_Mo_waves.2.1 170 = .ok (.iconst 2, 1) := by decide +kernel
theorem d_Mo_waves_171 : decode M_Mo_waves.2.1 171 = .ok (.iload 8, 2) := by decide +kernel
theorem d_Mo_waves_173 : decode M_Mo_waves.2.1 173 = .ok (.imul, 1) := by decide +kernel
theorem d_Mo_waves_174 : decode M_Mo_waves.2.1 174 = .ok (.iload 4, 2) := by decide +kernel
theorem d_Mo_waves_176 : decode M_Mo_waves.2.1 176 = .ok (.iload 5, 2) := by decide +kernel
theorem d_Mo_waves_178 : decode M_Mo_waves.2.1 178 = .ok (.invokestatic 139, 3) := by decide +kernel
theorem d_Mo_waves_181 : decode M_Mo_waves.2.1 181 = .ok (.if_icmp .gt 22, 3) := by decide +kernel
theorem d_Mo_waves_184 : decode M_Mo_waves.2.1 184 = .ok (.aload_n 0, 1) := by decide +kernel
theorem d_Mo_waves_185 : decode M_Mo_waves.2.1 185 = .ok (.iload 4, 2) := by decide +kernel
theorem d_Mo_waves_187 : decode M_Mo_waves.2.1 187 = .ok (.iload 5, 2) := by decide +kernel
theorem d_Mo_waves_189 : decode M_Mo_waves.2.1 189 = .ok (.iload 8, 2) := by decide +kernel
theorem d_Mo_waves_191 : decode M_Mo_waves.2.1 191 = .ok (.invokevirtual 142, 3) := by decide +kernel
theorem d_Mo_waves_194 : decode M_Mo_waves.2.1 194 = .ok (.iconst 2, 1) := by decide +kernel
theorem d_Mo_waves_195 : decode M_Mo_waves.2.1 195 = .ok (.iload 8, 2) := by decide +kernel
theorem d_Mo_waves_197 : decode M_Mo_waves.2.1 197 = .ok (.imul, 1) := by decide +kernel
theorem d_Mo_waves_198 : decode M_Mo_waves.2.1 198 = .ok (.istore 8, 2) := by decide +kernel
theorem d_Mo_waves_200 : decode M_Mo_waves.2.1 200 = .ok (.goto (-30), 3) := by decide +kernel
theorem d_Mo_waves_203 : decode M_Mo_waves.2.1 203 = .ok (.iconst 0, 1) := by decide +kernel
theorem d_Mo_waves_204 : decode M_Mo_waves.2.1 204 = .ok (.istore 8, 2) := by decide +kernel
theorem d_Mo_waves_206 : decode M_Mo_waves.2.1 206 = .ok (.iload 8, 2) := by decide +kernel
theorem d_Mo_waves_208 : decode M_Mo_waves.2.1 208 = .ok (.iload 5, 2) := by decide +kernel
theorem d_Mo_waves_210 : decode M_Mo_waves.2.1 210 = .ok (.if_icmp .ge 43, 3) := by decide +kernel
theorem d_Mo_waves_213 : decode M_Mo_waves.2.1 213 = .ok (.iconst 0, 1) := by decide +kernel
theorem d_Mo_waves_214 : decode M_Mo_waves.2.1 214 = .ok (.istore 9, 2) := by decide +kernel
theorem d_Mo_waves_216 : decode M_Mo_waves.2.1 216 = .ok (.iload 9, 2) := by decide +kernel
theorem d_Mo_waves_218 : decode M_Mo_waves.2.1 218 = .ok (.iload 4, 2) := by decide +kernel
theorem d_Mo_waves_220 : decode M_Mo_waves.2.1 220 = .ok (.if_icmp .ge 27, 3) := by decide +kernel
theorem d_Mo_waves_223 : decode M_Mo_waves.2.1 223 = .ok (.aload_n 0, 1) := by decide +kernel
theorem d_Mo_waves_224 : decode M_Mo_waves.2.1 224 = .ok (.aload_n 0, 1) := by decide +kernel
theorem d_Mo_waves_225 : decode M_Mo_waves.2.1 225 = .ok (.getfield 56, 3) := by decide +kernel
theorem d_Mo_waves_228 : decode M_Mo_waves.2.1 228 = .ok (.bipush 8, 2) := by decide +kernel
theorem d_Mo_waves_230 : decode M_Mo_waves.2.1 230 = .ok (.iload 8, 2) := by decide +kernel
theorem d_Mo_waves_232 : decode M_Mo_waves.2.1 232 = .ok (.imul, 1) := by decide +kernel
theorem d_Mo_waves_233 : decode M_Mo_waves.2.1 233 = .ok (.iload 9, 2) := by decide +kernel
theorem d_Mo_waves_235 : decode M_Mo_waves.2.1 235 = .ok (.iadd, 1) := by decide +kernel
theorem d_Mo_waves_236 : decode M_Mo_waves.2.1 236 = .ok (.iaload, 1) := by decide +kernel
theorem d_Mo_waves_237 : decode M_Mo_waves.2.1 237 = .ok (.iconst 2, 1) := by decide +kernel
theorem d_Mo_waves_238 : decode M_Mo_waves.2.1 238 = .ok (.invokevirtual 120, 3) := by decide +kernel
theorem d_Mo_waves_241 : decode M_Mo_waves.2.1 241 = .ok (.iinc 9 1, 3) := by decide +kernel
theorem d_Mo_waves_244 : decode M_Mo_waves.2.1 244 = .ok (.goto (-28), 3) := by decide +kernel
theorem d_Mo_waves_247 : decode M_Mo_waves.2.1 247 = .ok (.iinc 8 1, 3) := by decide +kernel
theorem d_Mo_waves_250 : decode M_Mo_waves.2.1 250 = .ok (.goto (-44), 3) := by decide +kernel
theorem d_Mo_waves_253 : decode M_Mo_waves.2.1 253 = .ok (.iinc 6 1, 3) := by decide +kernel
theorem d_Mo_waves_256 : decode M_Mo_waves.2.1 256 = .ok (.goto (-210), 3) := by decide +kernel
theorem d_Mo_waves_259 : decode M_Mo_waves.2.1 259 = .ok (.iinc 3 1, 3) := by decide +kernel
theorem d_Mo_waves_262 : decode M_Mo_waves.2.1 262 = .ok (.goto (-255), 3) := by decide +kernel
theorem d_Mo_waves_265 : decode M_Mo_waves.2.1 265 = .ok (.return_, 1) := by decide +kernel
theorem d_Mo_across_0 : decode M_Mo_across.2.1 0 = .ok (.iload_n 0, 1) := by decide +kernel
theorem d_Mo_across_1 : decode M_Mo_across.2.1 1 = .ok (.iload_n 1, 1) := by decide +kernel
theorem d_Mo_across_2 : decode M_Mo_across.2.1 2 = .ok (.iadd, 1) := by decide +kernel
theorem d_Mo_across_3 : decode M_Mo_across.2.1 3 = .ok (.iconst 1, 1) := by decide +kernel
theorem d_Mo_across_4 : decode M_Mo_across.2.1 4 = .ok (.isub, 1) := by decide +kernel
theorem d_Mo_across_5 : decode M_Mo_across.2.1 5 = .ok (.iload_n 1, 1) := by decide +kernel
theorem d_Mo_across_6 : decode M_Mo_across.2.1 6 = .ok (.idiv, 1) := by decide +kernel
theorem d_Mo_across_7 : decode M_Mo_across.2.1 7 = .ok (.ireturn, 1) := by decide +kernel
theorem d_Mo_down_0 : decode M_Mo_down.2.1 0 = .ok (.iconst 0, 1) := by decide +kernel
theorem d_Mo_down_1 : decode M_Mo_down.2.1 1 = .ok (.istore_n 3, 1) := by decide +kernel
theorem d_Mo_down_2 : decode M_Mo_down.2.1 2 = .ok (.iload_n 0, 1) := by decide +kernel
theorem d_Mo_down_3 : decode M_Mo_down.2.1 3 = .ok (.istore 4, 2) := by decide +kernel
theorem d_Mo_down_5 : decode M_Mo_down.2.1 5 = .ok (.iload 4, 2) := by decide +kernel
theorem d_Mo_down_7 : decode M_Mo_down.2.1 7 = .ok (.iload_n 0, 1) := by decide +kernel
theorem d_Mo_down_8 : decode M_Mo_down.2.1 8 = .ok (.iload_n 1, 1) := by decide +kernel
theorem d_Mo_down_9 : decode M_Mo_down.2.1 9 = .ok (.iadd, 1) := by decide +kernel
theorem d_Mo_down_10 : decode M_Mo_down.2.1 10 = .ok (.if_icmp .ge 19, 3) := by decide +kernel
theorem d_Mo_down_13 : decode M_Mo_down.2.1 13 = .ok (.iload 4, 2) := by decide +kernel
theorem d_Mo_down_15 : decode M_Mo_down.2.1 15 = .ok (.iload_n 2, 1) := by decide +kernel
theorem d_Mo_down_16 : decode M_Mo_down.2.1 16 = .ok (.irem, 1) := by decide +kernel
theorem d_Mo_down_17 : decode M_Mo_down.2.1 17 = .ok (.ifCond .ne 6, 3) := by decide +kernel
theorem d_Mo_down_20 : decode M_Mo_down.2.1 20 = .ok (.iinc 3 1, 3) := by decide +kernel
theorem d_Mo_down_23 : decode M_Mo_down.2.1 23 = .ok (.iinc 4 1, 3) := by decide +kernel
theorem d_Mo_down_26 : decode M_Mo_down.2.1 26 = .ok (.goto (-21), 3) := by decide +kernel
theorem d_Mo_down_29 : decode M_Mo_down.2.1 29 = .ok (.iload_n 3, 1) := by decide +kernel
theorem d_Mo_down_30 : decode M_Mo_down.2.1 30 = .ok (.ireturn, 1) := by decide +kernel
theorem d_Mo_wave_0 : decode M_Mo_wave.2.1 0 = .ok (.iconst 0, 1) := by decide +kernel
theorem d_Mo_wave_1 : decode M_Mo_wave.2.1 1 = .ok (.istore 4, 2) := by decide +kernel
theorem d_Mo_wave_3 : decode M_Mo_wave.2.1 3 = .ok (.iload 4, 2) := by decide +kernel
theorem d_Mo_wave_5 : decode M_Mo_wave.2.1 5 = .ok (.iload_n 3, 1) := by decide +kernel
theorem d_Mo_wave_6 : decode M_Mo_wave.2.1 6 = .ok (.iadd, 1) := by decide +kernel
theorem d_Mo_wave_7 : decode M_Mo_wave.2.1 7 = .ok (.iload_n 2, 1) := by decide +kernel
theorem d_Mo_wave_8 : decode M_Mo_wave.2.1 8 = .ok (.if_icmp .ge 215, 3) := by decide +kernel
theorem d_Mo_wave_11 : decode M_Mo_wave.2.1 11 = .ok (.iconst 0, 1) := by decide +kernel
theorem d_Mo_wave_12 : decode M_Mo_wave.2.1 12 = .ok (.istore 5, 2) := by decide +kernel
theorem d_Mo_wave_14 : decode M_Mo_wave.2.1 14 = .ok (.iload 5, 2) := by decide +kernel
theorem d_Mo_wave_16 : decode M_Mo_wave.2.1 16 = .ok (.iload_n 3, 1) := by decide +kernel
theorem d_Mo_wave_17 : decode M_Mo_wave.2.1 17 = .ok (.iadd, 1) := by decide +kernel
theorem d_Mo_wave_18 : decode M_Mo_wave.2.1 18 = .ok (.iload_n 1, 1) := by decide +kernel
theorem d_Mo_wave_19 : decode M_Mo_wave.2.1 19 = .ok (.if_icmp .ge 193, 3) := by decide +kernel
theorem d_Mo_wave_22 : decode M_Mo_wave.2.1 22 = .ok (.bipush 8, 2) := by decide +kernel
theorem d_Mo_wave_24 : decode M_Mo_wave.2.1 24 = .ok (.iload 4, 2) := by decide +kernel
theorem d_Mo_wave_26 : decode M_Mo_wave.2.1 26 = .ok (.imul, 1) := by decide +kernel
theorem d_Mo_wave_27 : decode M_Mo_wave.2.1 27 = .ok (.iload 5, 2) := by decide +kernel
theorem d_Mo_wave_29 : decode M_Mo_wave.2.1 29 = .ok (.iadd, 1) := by decide +kernel
theorem d_Mo_wave_30 : decode M_Mo_wave.2.1 30 = .ok (.istore 6, 2) := by decide +kernel
theorem d_Mo_wave_32 : decode M_Mo_wave.2.1 32 = .ok (.iload 6, 2) := by decide +kernel
theorem d_Mo_wave_34 : decode M_Mo_wave.2.1 34 = .ok (.bipush 8, 2) := by decide +kernel
theorem d_Mo_wave_36 : decode M_Mo_wave.2.1 36 = .ok (.iload_n 3, 1) := by decide +kernel
theorem d_Mo_wave_37 : decode M_Mo_wave.2.1 37 = .ok (.imul, 1) := by decide +kernel
theorem d_Mo_wave_38 : decode M_Mo_wave.2.1 38 = .ok (.iadd, 1) := by decide +kernel
theorem d_Mo_wave_39 : decode M_Mo_wave.2.1 39 = .ok (.istore 7, 2) := by decide +kernel
theorem d_Mo_wave_41 : decode M_Mo_wave.2.1 41 = .ok (.aload_n 0, 1) := by decide +kernel
theorem d_Mo_wave_42 : decode M_Mo_wave.2.1 42 = .ok (.aload_n 0, 1) := by decide +kernel
theorem d_Mo_wave_43 : decode M_Mo_wave.2.1 43 = .ok (.getfield 56, 3) := by decide +kernel
theorem d_Mo_wave_46 : decode M_Mo_wave.2.1 46 = .ok (.iload 6, 2) := by decide +kernel
theorem d_Mo_wave_48 : decode M_Mo_wave.2.1 48 = .ok (.iaload, 1) := by decide +kernel
theorem d_Mo_wave_49 : decode M_Mo_wave.2.1 49 = .ok (.aload_n 0, 1) := by decide +kernel
theorem d_Mo_wave_50 : decode M_Mo_wave.2.1 50 = .ok (.getfield 56, 3) := by decide +kernel
theorem d_Mo_wave_53 : decode M_Mo_wave.2.1 53 = .ok (.iload 6, 2) := by decide +kernel
theorem d_Mo_wave_55 : decode M_Mo_wave.2.1 55 = .ok (.iload_n 3, 1) := by decide +kernel
theorem d_Mo_wave_56 : decode M_Mo_wave.2.1 56 = .ok (.iadd, 1) := by decide +kernel
theorem d_Mo_wave_57 : decode M_Mo_wave.2.1 57 = .ok (.iaload, 1) := by decide +kernel
theorem d_Mo_wave_58 : decode M_Mo_wave.2.1 58 = .ok (.iconst 1, 1) := by decide +kernel
theorem d_Mo_wave_59 : decode M_Mo_wave.2.1 59 = .ok (.invokevirtual 124, 3) := by decide +kernel
theorem d_Mo_wave_62 : decode M_Mo_wave.2.1 62 = .ok (.istore 8, 2) := by decide +kernel
theorem d_Mo_wave_64 : decode M_Mo_wave.2.1 64 = .ok (.aload_n 0, 1) := by decide +kernel
theorem d_Mo_wave_65 : decode M_Mo_wave.2.1 65 = .ok (.aload_n 0, 1) := by decide +kernel
theorem d_Mo_wave_66 : decode M_Mo_wave.2.1 66 = .ok (.getfield 56, 3) := by decide +kernel
theorem d_Mo_wave_69 : decode M_Mo_wave.2.1 69 = .ok (.iload 6, 2) := by decide +kernel
theorem d_Mo_wave_71 : decode M_Mo_wave.2.1 71 = .ok (.iaload, 1) := by decide +kernel
theorem d_Mo_wave_72 : decode M_Mo_wave.2.1 72 = .ok (.aload_n 0, 1) := by decide +kernel
theorem d_Mo_wave_73 : decode M_Mo_wave.2.1 73 = .ok (.getfield 56, 3) := by decide +kernel
theorem d_Mo_wave_76 : decode M_Mo_wave.2.1 76 = .ok (.iload 6, 2) := by decide +kernel
theorem d_Mo_wave_78 : decode M_Mo_wave.2.1 78 = .ok (.iload_n 3, 1) := by decide +kernel
theorem d_Mo_wave_79 : decode M_Mo_wave.2.1 79 = .ok (.iadd, 1) := by decide +kernel
theorem d_Mo_wave_80 : decode M_Mo_wave.2.1 80 = .ok (.iaload, 1) := by decide +kernel
theorem d_Mo_wave_81 : decode M_Mo_wave.2.1 81 = .ok (.iconst 0, 1) := by decide +kernel
theorem d_Mo_wave_82 : decode M_Mo_wave.2.1 82 = .ok (.invokevirtual 124, 3) := by decide +kernel
theorem d_Mo_wave_85 : decode M_Mo_wave.2.1 85 = .ok (.istore 9, 2) := by decide +kernel
theorem d_Mo_wave_87 : decode M_Mo_wave.2.1 87 = .ok (.aload_n 0, 1) := by decide +kernel
theorem d_Mo_wave_88 : decode M_Mo_wave.2.1 88 = .ok (.aload_n 0, 1) := by decide +kernel
theorem d_Mo_wave_89 : decode M_Mo_wave.2.1 89 = .ok (.getfield 56, 3) := by decide +kernel
theorem d_Mo_wave_92 : decode M_Mo_wave.2.1 92 = .ok (.iload 7, 2) := by decide +kernel
theorem d_Mo_wave_94 : decode M_Mo_wave.2.1 94 = .ok (.iaload, 1) := by decide +kernel
theorem d_Mo_wave_95 : decode M_Mo_wave.2.1 95 = .ok (.aload_n 0, 1) := by decide +kernel
theorem d_Mo_wave_96 : decode M_Mo_wave.2.1 96 = .ok (.getfield 56, 3) := by decide +kernel
theorem d_Mo_wave_99 : decode M_Mo_wave.2.1 99 = .ok (.iload 7, 2) := by decide +kernel
theorem d_Mo_wave_101 : decode M_Mo_wave.2.1 101 = .ok (.iload_n 3, 1) := by decide +kernel
theorem d_Mo_wave_102 : decode M_Mo_wave.2.1 102 = .ok (.iadd, 1) := by decide +kernel
theorem d_Mo_wave_103 : decode M_Mo_wave.2.1 103 = .ok (.iaload, 1) := by decide +kernel
theorem d_Mo_wave_104 : decode M_Mo_wave.2.1 104 = .ok (.iconst 1, 1) := by decide +kernel
theorem d_Mo_wave_105 : decode M_Mo_wave.2.1 105 = .ok (.invokevirtual 124, 3) := by decide +kernel
theorem d_Mo_wave_108 : decode M_Mo_wave.2.1 108 = .ok (.istore 10, 2) := by decide +kernel
theorem d_Mo_wave_110 : decode M_Mo_wave.2.1 110 = .ok (.aload_n 0, 1) := by decide +kernel
theorem d_Mo_wave_111 : decode M_Mo_wave.2.1 111 = .ok (.aload_n 0, 1) := by decide +kernel
theorem d_Mo_wave_112 : decode M_Mo_wave.2.1 112 = .ok (.getfield 56, 3) := by decide +kernel
theorem d_Mo_wave_115 : decode M_Mo_wave.2.1 115 = .ok (.iload 7, 2) := by decide +kernel
theorem d_Mo_wave_117 : decode M_Mo_wave.2.1 117 = .ok (.iaload, 1) := by decide +kernel
theorem d_Mo_wave_118 : decode M_Mo_wave.2.1 118 = .ok (.aload_n 0, 1) := by decide +kernel
theorem d_Mo_wave_119 : decode M_Mo_wave.2.1 119 = .ok (.getfield 56, 3) := by decide +kernel
theorem d_Mo_wave_122 : decode M_Mo_wave.2.1 122 = .ok (.iload 7, 2) := by decide +kernel
theorem d_Mo_wave_124 : decode M_Mo_wave.2.1 124 = .ok (.iload_n 3, 1) := by decide +kernel
theorem d_Mo_wave_125 : decode M_Mo_wave.2.1 125 = .ok (.iadd, 1) := by decide +kernel
theorem d_Mo_wave_126 : decode M_Mo_wave.2.1 126 = .ok (.iaload, 1) := by decide +kernel
theorem d_Mo_wave_127 : decode M_Mo_wave.2.1 127 = .ok (.iconst 0, 1) := by decide +kernel
theorem d_Mo_wave_128 : decode M_Mo_wave.2.1 128 = .ok (.invokevirtual 124, 3) := by decide +kernel
theorem d_Mo_wave_131 : decode M_Mo_wave.2.1 131 = .ok (.istore 11, 2) := by decide +kernel
theorem d_Mo_wave_133 : decode M_Mo_wave.2.1 133 = .ok (.aload_n 0, 1) := by decide +kernel
theorem d_Mo_wave_134 : decode M_Mo_wave.2.1 134 = .ok (.getfield 56, 3) := by decide +kernel
theorem d_Mo_wave_137 : decode M_Mo_wave.2.1 137 = .ok (.iload 6, 2) := by decide +kernel
theorem d_Mo_wave_139 : decode M_Mo_wave.2.1 139 = .ok (.aload_n 0, 1) := by decide +kernel
theorem d_Mo_wave_140 : decode M_Mo_wave.2.1 140 = .ok (.iload 8, 2) := by decide +kernel
theorem d_Mo_wave_142 : decode M_Mo_wave.2.1 142 = .ok (.iload 10, 2) := by decide +kernel
theorem d_Mo_wave_144 : decode M_Mo_wave.2.1 144 = .ok (.iconst 1, 1) := by decide +kernel
theorem d_Mo_wave_145 : decode M_Mo_wave.2.1 145 = .ok (.invokevirtual 124, 3) := by decide +kernel
theorem d_Mo_wave_148 : decode M_Mo_wave.2.1 148 = .ok (.iastore, 1) := by decide +kernel
theorem d_Mo_wave_149 : decode M_Mo_wave.2.1 149 = .ok (.aload_n 0, 1) := by decide +kernel
theorem d_Mo_wave_150 : decode M_Mo_wave.2.1 150 = .ok (.getfield 56, 3) := by decide +kernel
theorem d_Mo_wave_153 : decode M_Mo_wave.2.1 153 = .ok (.iload 7, 2) := by decide +kernel
theorem d_Mo_wave_155 : decode M_Mo_wave.2.1 155 = .ok (.aload_n 0, 1) := by decide +kernel
theorem d_Mo_wave_156 : decode M_Mo_wave.2.1 156 = .ok (.iload 8, 2) := by decide +kernel
theorem d_Mo_wave_158 : decode M_Mo_wave.2.1 158 = .ok (.iload 10, 2) := by decide +kernel
theorem d_Mo_wave_160 : decode M_Mo_wave.2.1 160 = .ok (.iconst 0, 1) := by decide +kernel
theorem d_Mo_wave_161 : decode M_Mo_wave.2.1 161 = .ok (.invokevirtual 124, 3) := by decide +kernel
theorem d_Mo_wave_164 : decode M_Mo_wave.2.1 164 = .ok (.iastore, 1) := by decide +kernel
theorem d_Mo_wave_165 : decode M_Mo_wave.2.1 165 = .ok (.aload_n 0, 1) := by decide +kernel
theorem d_Mo_wave_166 : decode M_Mo_wave.2.1 166 = .ok (.getfield 56, 3) := by decide +kernel
theorem d_Mo_wave_169 : decode M_Mo_wave.2.1 169 = .ok (.iload 6, 2) := by decide +kernel
theorem d_Mo_wave_171 : decode M_Mo_wave.2.1 171 = .ok (.iload_n 3, 1) := by decide +kernel
theorem d_Mo_wave_172 : decode M_Mo_wave.2.1 172 = .ok (.iadd, 1) := by decide +kernel
theorem d_Mo_wave_173 : decode M_Mo_wave.2.1 173 = .ok (.aload_n 0, 1) := by decide +kernel
theorem d_Mo_wave_174 : decode M_Mo_wave.2.1 174 = .ok (.iload 9, 2) := by decide +kernel
theorem d_Mo_wave_176 : decode M_Mo_wave.2.1 176 = .ok (.iload 11, 2) := by decide +kernel
theorem d_Mo_wave_178 : decode M_Mo_wave.2.1 178 = .ok (.iconst 1, 1) := by decide +kernel
theorem d_Mo_wave_179 : decode M_Mo_wave.2.1 179 = .ok (.invokevirtual 124, 3) := by decide +kernel
theorem d_Mo_wave_182 : decode M_Mo_wave.2.1 182 = .ok (.iastore, 1) := by decide +kernel
theorem d_Mo_wave_183 : decode M_Mo_wave.2.1 183 = .ok (.aload_n 0, 1) := by decide +kernel
theorem d_Mo_wave_184 : decode M_Mo_wave.2.1 184 = .ok (.getfield 56, 3) := by decide +kernel
theorem d_Mo_wave_187 : decode M_Mo_wave.2.1 187 = .ok (.iload 7, 2) := by decide +kernel
theorem d_Mo_wave_189 : decode M_Mo_wave.2.1 189 = .ok (.iload_n 3, 1) := by decide +kernel
theorem d_Mo_wave_190 : decode M_Mo_wave.2.1 190 = .ok (.iadd, 1) := by decide +kernel
theorem d_Mo_wave_191 : decode M_Mo_wave.2.1 191 = .ok (.aload_n 0, 1) := by decide +kernel
theorem d_Mo_wave_192 : decode M_Mo_wave.2.1 192 = .ok (.iload 9, 2) := by decide +kernel
theorem d_Mo_wave_194 : decode M_Mo_wave.2.1 194 = .ok (.iload 11, 2) := by decide +kernel
theorem d_Mo_wave_196 : decode M_Mo_wave.2.1 196 = .ok (.iconst 0, 1) := by decide +kernel
theorem d_Mo_wave_197 : decode M_Mo_wave.2.1 197 = .ok (.invokevirtual 124, 3) := by decide +kernel
theorem d_Mo_wave_200 : decode M_Mo_wave.2.1 200 = .ok (.iastore, 1) := by decide +kernel
theorem d_Mo_wave_201 : decode M_Mo_wave.2.1 201 = .ok (.iload 5, 2) := by decide +kernel
theorem d_Mo_wave_203 : decode M_Mo_wave.2.1 203 = .ok (.iconst 2, 1) := by decide +kernel
theorem d_Mo_wave_204 : decode M_Mo_wave.2.1 204 = .ok (.iload_n 3, 1) := by decide +kernel
theorem d_Mo_wave_205 : decode M_Mo_wave.2.1 205 = .ok (.imul, 1) := by decide +kernel
theorem d_Mo_wave_206 : decode M_Mo_wave.2.1 206 = .ok (.iadd, 1) := by decide +kernel
theorem d_Mo_wave_207 : decode M_Mo_wave.2.1 207 = .ok (.istore 5, 2) := by decide +kernel
theorem d_Mo_wave_209 : decode M_Mo_wave.2.1 209 = .ok (.goto (-195), 3) := by decide +kernel
theorem d_Mo_wave_212 : decode M_Mo_wave.2.1 212 = .ok (.iload 4, 2) := by decide +kernel
theorem d_Mo_wave_214 : decode M_Mo_wave.2.1 214 = .ok (.iconst 2, 1) := by decide +kernel
theorem d_Mo_wave_215 : decode M_Mo_wave.2.1 215 = .ok (.iload_n 3, 1) := by decide +kernel
theorem d_Mo_wave_216 : decode M_Mo_wave.2.1 216 = .ok (.imul, 1) := by decide +kernel
theorem d_Mo_wave_217 : decode M_Mo_wave.2.1 217 = .ok (.iadd, 1) := by decide +kernel
theorem d_Mo_wave_218 : decode M_Mo_wave.2.1 218 = .ok (.istore 4, 2) := by decide +kernel
theorem d_Mo_wave_220 : decode M_Mo_wave.2.1 220 = .ok (.goto (-217), 3) := by decide +kernel
theorem d_Mo_wave_223 : decode M_Mo_wave.2.1 223 = .ok (.return_, 1) := by decide +kernel
theorem d_Mo_into_0 : decode M_Mo_into.2.1 0 = .ok (.iload_n 1, 1) := by decide +kernel
theorem d_Mo_into_1 : decode M_Mo_into.2.1 1 = .ok (.ldc 81, 2) := by decide +kernel
theorem d_Mo_into_3 : decode M_Mo_into.2.1 3 = .ok (.iadd, 1) := by decide +kernel
theorem d_Mo_into_4 : decode M_Mo_into.2.1 4 = .ok (.ldc 72, 2) := by decide +kernel
theorem d_Mo_into_6 : decode M_Mo_into.2.1 6 = .ok (.iand, 1) := by decide +kernel
theorem d_Mo_into_7 : decode M_Mo_into.2.1 7 = .ok (.istore 4, 2) := by decide +kernel
theorem d_Mo_into_9 : decode M_Mo_into.2.1 9 = .ok (.iload 4, 2) := by decide +kernel
theorem d_Mo_into_11 : decode M_Mo_into.2.1 11 = .ok (.iload_n 2, 1) := by decide +kernel
theorem d_Mo_into_12 : decode M_Mo_into.2.1 12 = .ok (.iadd, 1) := by decide +kernel
theorem d_Mo_into_13 : decode M_Mo_into.2.1 13 = .ok (.iconst 2, 1) := by decide +kernel
theorem d_Mo_into_14 : decode M_Mo_into.2.1 14 = .ok (.idiv, 1) := by decide +kernel
theorem d_Mo_into_15 : decode M_Mo_into.2.1 15 = .ok (.istore 5, 2) := by decide +kernel
theorem d_Mo_into_17 : decode M_Mo_into.2.1 17 = .ok (.iload 4, 2) := by decide +kernel
theorem d_Mo_into_19 : decode M_Mo_into.2.1 19 = .ok (.iload_n 2, 1) := by decide +kernel
theorem d_Mo_into_20 : decode M_Mo_into.2.1 20 = .ok (.isub, 1) := by decide +kernel
theorem d_Mo_into_21 : decode M_Mo_into.2.1 21 = .ok (.istore 6, 2) := by decide +kernel
theorem d_Mo_into_23 : decode M_Mo_into.2.1 23 = .ok (.iload 6, 2) := by decide +kernel
theorem d_Mo_into_25 : decode M_Mo_into.2.1 25 = .ok (.ifCond .ge 13, 3) := by decide +kernel
theorem d_Mo_into_28 : decode M_Mo_into.2.1 28 = .ok (.iload 5, 2) := by decide +kernel
theorem d_Mo_into_30 : decode M_Mo_into.2.1 30 = .ok (.ldc 81, 2) := by decide +kernel
theorem d_Mo_into_32 : decode M_Mo_into.2.1 32 = .ok (.iadd, 1) := by decide +kernel
theorem d_Mo_into_33 : decode M_Mo_into.2.1 33 = .ok (.ldc 72, 2) := by decide +kernel
theorem d_Mo_into_35 : decode M_Mo_into.2.1 35 = .ok (.iand, 1) := by decide +kernel
theorem d_Mo_into_36 : decode M_Mo_into.2.1 36 = .ok (.istore 5, 2) := by decide +kernel
theorem d_Mo_into_38 : decode M_Mo_into.2.1 38 = .ok (.iload_n 3, 1) := by decide +kernel
theorem d_Mo_into_39 : decode M_Mo_into.2.1 39 = .ok (.ifCond .eq 8, 3) := by decide +kernel
theorem d_Mo_into_42 : decode M_Mo_into.2.1 42 = .ok (.iload 5, 2) := by decide +kernel
theorem d_Mo_into_44 : decode M_Mo_into.2.1 44 = .ok (.goto 8, 3) := by decide +kernel
theorem d_Mo_into_47 : decode M_Mo_into.2.1 47 = .ok (.iload 6, 2) := by decide +kernel
theorem d_Mo_into_49 : decode M_Mo_into.2.1 49 = .ok (.ldc 72, 2) := by decide +kernel
theorem d_Mo_into_51 : decode M_Mo_into.2.1 51 = .ok (.iand, 1) := by decide +kernel
theorem d_Mo_into_52 : decode M_Mo_into.2.1 52 = .ok (.ireturn, 1) := by decide +kernel
theorem d_Mo_pack_0 : decode M_Mo_pack.2.1 0 = .ok (.aload_n 0, 1) := by decide +kernel
theorem d_Mo_pack_1 : decode M_Mo_pack.2.1 1 = .ok (.iconst 0, 1) := by decide +kernel
theorem d_Mo_pack_2 : decode M_Mo_pack.2.1 2 = .ok (.putfield 152, 3) := by decide +kernel
theorem d_Mo_pack_5 : decode M_Mo_pack.2.1 5 = .ok (.iconst 0, 1) := by decide +kernel
theorem d_Mo_pack_6 : decode M_Mo_pack.2.1 6 = .ok (.istore_n 1, 1) := by decide +kernel
theorem d_Mo_pack_7 : decode M_Mo_pack.2.1 7 = .ok (.iload_n 1, 1) := by decide +kernel
theorem d_Mo_pack_8 : decode M_Mo_pack.2.1 8 = .ok (.aload_n 0, 1) := by decide +kernel
theorem d_Mo_pack_9 : decode M_Mo_pack.2.1 9 = .ok (.getfield 110, 3) := by decide +kernel
theorem d_Mo_pack_12 : decode M_Mo_pack.2.1 12 = .ok (.if_icmp .ge 163, 3) := by decide +kernel
theorem d_Mo_pack_15 : decode M_Mo_pack.2.1 15 = .ok (.aload_n 0, 1) := by decide +kernel
theorem d_Mo_pack_16 : decode M_Mo_pack.2.1 16 = .ok (.iload_n 1, 1) := by decide +kernel
theorem d_Mo_pack_17 : decode M_Mo_pack.2.1 17 = .ok (.invokevirtual 155, 3) := by decide +kernel
theorem d_Mo_pack_20 : decode M_Mo_pack.2.1 20 = .ok (.istore_n 2, 1) := by decide +kernel
theorem d_Mo_pack_21 : decode M_Mo_pack.2.1 21 = .ok (.iload_n 2, 1) := by decide +kernel
theorem d_Mo_pack_22 : decode M_Mo_pack.2.1 22 = .ok (.iconst 3, 1) := by decide +kernel
theorem d_Mo_pack_23 : decode M_Mo_pack.2.1 23 = .ok (.if_icmp .lt 48, 3) := by decide +kernel
theorem d_Mo_pack_26 : decode M_Mo_pack.2.1 26 = .ok (.aload_n 0, 1) := by decide +kernel
theorem d_Mo_pack_27 : decode M_Mo_pack.2.1 27 = .ok (.getfield 53, 3) := by decide +kernel
theorem d_Mo_pack_30 : decode M_Mo_pack.2.1 30 = .ok (.aload_n 0, 1) := by decide +kernel
theorem d_Mo_pack_31 : decode M_Mo_pack.2.1 31 = .ok (.getfield 152, 3) := by decide +kernel
theorem d_Mo_pack_34 : decode M_Mo_pack.2.1 34 = .ok (.iload_n 2, 1) := by decide +kernel
theorem d_Mo_pack_35 : decode M_Mo_pack.2.1 35 = .ok (.iconst 1, 1) := by decide +kernel
theorem d_Mo_pack_36 : decode M_Mo_pack.2.1 36 = .ok (.isub, 1) := by decide +kernel
theorem d_Mo_pack_37 : decode M_Mo_pack.2.1 37 = .ok (.iastore, 1) := by decide +kernel
theorem d_Mo_pack_38 : decode M_Mo_pack.2.1 38 = .ok (.aload_n 0, 1) := by decide +kernel
theorem d_Mo_pack_39 : decode M_Mo_pack.2.1 39 = .ok (.getfield 53, 3) := by decide +kernel
theorem d_Mo_pack_42 : decode M_Mo_pack.2.1 42 = .ok (.aload_n 0, 1) := by decide +kernel
theorem d_Mo_pack_43 : decode M_Mo_pack.2.1 43 = .ok (.getfield 152, 3) := by decide +kernel
theorem d_Mo_pack_46 : decode M_Mo_pack.2.1 46 = .ok (.iconst 1, 1) := by decide +kernel
theorem d_Mo_pack_47 : decode M_Mo_pack.2.1 47 = .ok (.iadd, 1) := by decide +kernel
theorem d_Mo_pack_48 : decode M_Mo_pack.2.1 48 = .ok (.aload_n 0, 1) := by decide +kernel
theorem d_Mo_pack_49 : decode M_Mo_pack.2.1 49 = .ok (.iload_n 1, 1) := by decide +kernel
theorem d_Mo_pack_50 : decode M_Mo_pack.2.1 50 = .ok (.invokevirtual 149, 3) := by decide +kernel
theorem d_Mo_pack_53 : decode M_Mo_pack.2.1 53 = .ok (.iastore, 1) := by decide +kernel
theorem d_Mo_pack_54 : decode M_Mo_pack.2.1 54 = .ok (.aload_n 0, 1) := by decide +kernel
theorem d_Mo_pack_55 : decode M_Mo_pack.2.1 55 = .ok (.dup, 1) := by decide +kernel
theorem d_Mo_pack_56 : decode M_Mo_pack.2.1 56 = .ok (.getfield 152, 3) := by decide +kernel
theorem d_Mo_pack_59 : decode M_Mo_pack.2.1 59 = .ok (.iconst 2, 1) := by decide +kernel
theorem d_Mo_pack_60 : decode M_Mo_pack.2.1 60 = .ok (.iadd, 1) := by decide +kernel
theorem d_Mo_pack_61 : decode M_Mo_pack.2.1 61 = .ok (.putfield 152, 3) := by decide +kernel
theorem d_Mo_pack_64 : decode M_Mo_pack.2.1 64 = .ok (.iload_n 1, 1) := by decide +kernel
theorem d_Mo_pack_65 : decode M_Mo_pack.2.1 65 = .ok (.iload_n 2, 1) := by decide +kernel
theorem d_Mo_pack_66 : decode M_Mo_pack.2.1 66 = .ok (.iadd, 1) := by decide +kernel
theorem d_Mo_pack_67 : decode M_Mo_pack.2.1 67 = .ok (.istore_n 1, 1) := by decide +kernel
theorem d_Mo_pack_68 : decode M_Mo_pack.2.1 68 = .ok (.goto (-61), 3) := by decide +kernel
theorem d_Mo_pack_71 : decode M_Mo_pack.2.1 71 = .ok (.iload_n 1, 1) := by decide +kernel
theorem d_Mo_pack_72 : decode M_Mo_pack.2.1 72 = .ok (.istore_n 3, 1) := by decide +kernel
theorem d_Mo_pack_73 : decode M_Mo_pack.2.1 73 = .ok (.iload_n 3, 1) := by decide +kernel
theorem d_Mo_pack_74 : decode M_Mo_pack.2.1 74 = .ok (.aload_n 0, 1) := by decide +kernel
theorem d_Mo_pack_75 : decode M_Mo_pack.2.1 75 = .ok (.getfield 110, 3) := by decide +kernel
theorem d_Mo_pack_78 : decode M_Mo_pack.2.1 78 = .ok (.if_icmp .ge 26, 3) := by decide +kernel
theorem d_Mo_pack_81 : decode M_Mo_pack.2.1 81 = .ok (.iload_n 3, 1) := by decide +kernel
theorem d_Mo_pack_82 : decode M_Mo_pack.2.1 82 = .ok (.iload_n 1, 1) := by decide +kernel
theorem d_Mo_pack_83 : decode M_Mo_pack.2.1 83 = .ok (.bipush 127, 2) := by decide +kernel
theorem d_Mo_pack_85 : decode M_Mo_pack.2.1 85 = .ok (.iadd, 1) := by decide +kernel
theorem d_Mo_pack_86 : decode M_Mo_pack.2.1 86 = .ok (.if_icmp .ge 18, 3) := by decide +kernel
theorem d_Mo_pack_89 : decode M_Mo_pack.2.1 89 = .ok (.aload_n 0, 1) := by decide +kernel
theorem d_Mo_pack_90 : decode M_Mo_pack.2.1 90 = .ok (.iload_n 3, 1) := by decide +kernel
theorem d_Mo_pack_91 : decode M_Mo_pack.2.1 91 = .ok (.invokevirtual 155, 3) := by decide +kernel
theorem d_Mo_pack_94 : decode M_Mo_pack.2.1 94 = .ok (.iconst 3, 1) := by decide +kernel
theorem d_Mo_pack_95 : decode M_Mo_pack.2.1 95 = .ok (.if_icmp .ge 9, 3) := by decide +kernel
theorem d_Mo_pack_98 : decode M_Mo_pack.2.1 98 = .ok (.iinc 3 1, 3) := by decide +kernel
theorem d_Mo_pack_101 : decode M_Mo_pack.2.1 101 = .ok (.goto (-28), 3) := by decide +kernel
theorem d_Mo_pack_104 : decode M_Mo_pack.2.1 104 = .ok (.aload_n 0, 1) := by decide +kernel
theorem d_Mo_pack_105 : decode M_Mo_pack.2.1 105 = .ok (.getfield 53, 3) := by decide +kernel
theorem d_Mo_pack_108 : decode M_Mo_pack.2.1 108 = .ok (.aload_n 0, 1) := by decide +kernel
theorem d_Mo_pack_109 : decode M_Mo_pack.2.1 109 = .ok (.getfield 152, 3) := by decide +kernel
theorem d_Mo_pack_112 : decode M_Mo_pack.2.1 112 = .ok (.sipush 256, 3) := by decide +kernel
theorem d_Mo_pack_115 : decode M_Mo_pack.2.1 115 = .ok (.iload_n 3, 1) := by decide +kernel
theorem d_Mo_pack_116 : decode M_Mo_pack.2.1 116 = .ok (.iload_n 1, 1) := by decide +kernel
theorem d_Mo_pack_117 : decode M_Mo_pack.2.1 117 = .ok (.isub, 1) := by decide +kernel
theorem d_Mo_pack_118 : decode M_Mo_pack.2.1 118 = .ok (.isub, 1) := by decide +kernel
theorem d_Mo_pack_119 : decode M_Mo_pack.2.1 119 = .ok (.iastore, 1) := by decide +kernel
theorem d_Mo_pack_120 : decode M_Mo_pack.2.1 120 = .ok (.aload_n 0, 1) := by decide +kernel
theorem d_Mo_pack_121 : decode M_Mo_pack.2.1 121 = .ok (.dup, 1) := by decide +kernel
theorem d_Mo_pack_122 : decode M_Mo_pack.2.1 122 = .ok (.getfield 152, 3) := by decide +kernel
theorem d_Mo_pack_125 : decode M_Mo_pack.2.1 125 = .ok (.iconst 1, 1) := by decide +kernel
theorem d_Mo_pack_126 : decode M_Mo_pack.2.1 126 = .ok (.iadd, 1) := by decide +kernel
theorem d_Mo_pack_127 : decode M_Mo_pack.2.1 127 = .ok (.putfield 152, 3) := by decide +kernel
theorem d_Mo_pack_130 : decode M_Mo_pack.2.1 130 = .ok (.iload_n 1, 1) := by decide +kernel
theorem d_Mo_pack_131 : decode M_Mo_pack.2.1 131 = .ok (.istore 4, 2) := by decide +kernel
theorem d_Mo_pack_133 : decode M_Mo_pack.2.1 133 = .ok (.iload 4, 2) := by decide +kernel
theorem d_Mo_pack_135 : decode M_Mo_pack.2.1 135 = .ok (.iload_n 3, 1) := by decide +kernel
theorem d_Mo_pack_136 : decode M_Mo_pack.2.1 136 = .ok (.if_icmp .ge 34, 3) := by decide +kernel
theorem d_Mo_pack_139 : decode M_Mo_pack.2.1 139 = .ok (.aload_n 0, 1) := by decide +kernel
theorem d_Mo_pack_140 : decode M_Mo_pack.2.1 140 = .ok (.getfield 53, 3) := by decide +kernel
theorem d_Mo_pack_143 : decode M_Mo_pack.2.1 143 = .ok (.aload_n 0, 1) := by decide +kernel
theorem d_Mo_pack_144 : decode M_Mo_pack.2.1 144 = .ok (.getfield 152, 3) := by decide +kernel
theorem d_Mo_pack_147 : decode M_Mo_pack.2.1 147 = .ok (.aload_n 0, 1) := by decide +kernel
theorem d_Mo_pack_148 : decode M_Mo_pack.2.1 148 = .ok (.iload 4, 2) := by decide +kernel
theorem d_Mo_pack_150 : decode M_Mo_pack.2.1 150 = .ok (.invokevirtual 149, 3) := by decide +kernel
theorem d_Mo_pack_153 : decode M_Mo_pack.2.1 153 = .ok (.iastore, 1) := by decide +kernel
theorem d_Mo_pack_154 : decode M_Mo_pack.2.1 154 = .ok (.aload_n 0, 1) := by decide +kernel
theorem d_Mo_pack_155 : decode M_Mo_pack.2.1 155 = .ok (.dup, 1) := by decide +kernel
theorem d_Mo_pack_156 : decode M_Mo_pack.2.1 156 = .ok (.getfield 152, 3) := by decide +kernel
theorem d_Mo_pack_159 : decode M_Mo_pack.2.1 159 = .ok (.iconst 1, 1) := by decide +kernel
theorem d_Mo_pack_160 : decode M_Mo_pack.2.1 160 = .ok (.iadd, 1) := by decide +kernel
theorem d_Mo_pack_161 : decode M_Mo_pack.2.1 161 = .ok (.putfield 152, 3) := by decide +kernel
theorem d_Mo_pack_164 : decode M_Mo_pack.2.1 164 = .ok (.iinc 4 1, 3) := by decide +kernel
theorem d_Mo_pack_167 : decode M_Mo_pack.2.1 167 = .ok (.goto (-34), 3) := by decide +kernel
theorem d_Mo_pack_170 : decode M_Mo_pack.2.1 170 = .ok (.iload_n 3, 1) := by decide +kernel
theorem d_Mo_pack_171 : decode M_Mo_pack.2.1 171 = .ok (.istore_n 1, 1) := by decide +kernel
theorem d_Mo_pack_172 : decode M_Mo_pack.2.1 172 = .ok (.goto (-165), 3) := by decide +kernel
theorem d_Mo_pack_175 : decode M_Mo_pack.2.1 175 = .ok (.return_, 1) := by decide +kernel
theorem d_Mo_alike_0 : decode M_Mo_alike.2.1 0 = .ok (.iload_n 1, 1) := by decide +kernel
theorem d_Mo_alike_1 : decode M_Mo_alike.2.1 1 = .ok (.iconst 1, 1) := by decide +kernel
theorem d_Mo_alike_2 : decode M_Mo_alike.2.1 2 = .ok (.iadd, 1) := by decide +kernel
theorem d_Mo_alike_3 : decode M_Mo_alike.2.1 3 = .ok (.istore_n 2, 1) := by decide +kernel
theorem d_Mo_alike_4 : decode M_Mo_alike.2.1 4 = .ok (.aload_n 0, 1) := by decide +kernel
theorem d_Mo_alike_5 : decode M_Mo_alike.2.1 5 = .ok (.iload_n 1, 1) := by decide +kernel
theorem d_Mo_alike_6 : decode M_Mo_alike.2.1 6 = .ok (.invokevirtual 149, 3) := by decide +kernel
theorem d_Mo_alike_9 : decode M_Mo_alike.2.1 9 = .ok (.istore_n 3, 1) := by decide +kernel
theorem d_Mo_alike_10 : decode M_Mo_alike.2.1 10 = .ok (.iload_n 2, 1) := by decide +kernel
theorem d_Mo_alike_11 : decode M_Mo_alike.2.1 11 = .ok (.aload_n 0, 1) := by decide +kernel
theorem d_Mo_alike_12 : decode M_Mo_alike.2.1 12 = .ok (.getfield 110, 3) := by decide +kernel
theorem d_Mo_alike_15 : decode M_Mo_alike.2.1 15 = .ok (.if_icmp .ge 27, 3) := by decide +kernel
theorem d_Mo_alike_18 : decode M_Mo_alike.2.1 18 = .ok (.iload_n 2, 1) := by decide +kernel
theorem d_Mo_alike_19 : decode M_Mo_alike.2.1 19 = .ok (.iload_n 1, 1) := by decide +kernel
theorem d_Mo_alike_20 : decode M_Mo_alike.2.1 20 = .ok (.sipush 128, 3) := by decide +kernel
theorem d_Mo_alike_23 : decode M_Mo_alike.2.1 23 = .ok (.iadd, 1) := by decide +kernel
theorem d_Mo_alike_24 : decode M_Mo_alike.2.1 24 = .ok (.if_icmp .ge 18, 3) := by decide +kernel
theorem d_Mo_alike_27 : decode M_Mo_alike.2.1 27 = .ok (.aload_n 0, 1) := by decide +kernel
theorem d_Mo_alike_28 : decode M_Mo_alike.2.1 28 = .ok (.iload_n 2, 1) := by decide +kernel
theorem d_Mo_alike_29 : decode M_Mo_alike.2.1 29 = .ok (.invokevirtual 149, 3) := by decide +kernel
theorem d_Mo_alike_32 : decode M_Mo_alike.2.1 32 = .ok (.iload_n 3, 1) := by decide +kernel
theorem d_Mo_alike_33 : decode M_Mo_alike.2.1 33 = .ok (.if_icmp .ne 9, 3) := by decide +kernel
theorem d_Mo_alike_36 : decode M_Mo_alike.2.1 36 = .ok (.iinc 2 1, 3) := by decide +kernel
theorem d_Mo_alike_39 : decode M_Mo_alike.2.1 39 = .ok (.goto (-29), 3) := by decide +kernel
theorem d_Mo_alike_42 : decode M_Mo_alike.2.1 42 = .ok (.iload_n 2, 1) := by decide +kernel
theorem d_Mo_alike_43 : decode M_Mo_alike.2.1 43 = .ok (.iload_n 1, 1) := by decide +kernel
theorem d_Mo_alike_44 : decode M_Mo_alike.2.1 44 = .ok (.isub, 1) := by decide +kernel
theorem d_Mo_alike_45 : decode M_Mo_alike.2.1 45 = .ok (.ireturn, 1) := by decide +kernel
theorem d_Mo_prepared_0 : decode M_Mo_prepared.2.1 0 = .ok (.iload_n 1, 1) := by decide +kernel
theorem d_Mo_prepared_1 : decode M_Mo_prepared.2.1 1 = .ok (.ifCond .ne 11, 3) := by decide +kernel
theorem d_Mo_prepared_4 : decode M_Mo_prepared.2.1 4 = .ok (.aload_n 0, 1) := by decide +kernel
theorem d_Mo_prepared_5 : decode M_Mo_prepared.2.1 5 = .ok (.iconst 0, 1) := by decide +kernel
theorem d_Mo_prepared_6 : decode M_Mo_prepared.2.1 6 = .ok (.invokevirtual 146, 3) := by decide +kernel
theorem d_Mo_prepared_9 : decode M_Mo_prepared.2.1 9 = .ok (.goto 24, 3) := by decide +kernel
theorem d_Mo_prepared_12 : decode M_Mo_prepared.2.1 12 = .ok (.aload_n 0, 1) := by decide +kernel
theorem d_Mo_prepared_13 : decode M_Mo_prepared.2.1 13 = .ok (.iload_n 1, 1) := by decide +kernel
theorem d_Mo_prepared_14 : decode M_Mo_prepared.2.1 14 = .ok (.invokevirtual 146, 3) := by decide +kernel
theorem d_Mo_prepared_17 : decode M_Mo_prepared.2.1 17 = .ok (.aload_n 0, 1) := by decide +kernel
theorem d_Mo_prepared_18 : decode M_Mo_prepared.2.1 18 = .ok (.iload_n 1, 1) := by decide +kernel
theorem d_Mo_prepared_19 : decode M_Mo_prepared.2.1 19 = .ok (.iconst 1, 1) := by decide +kernel
theorem d_Mo_prepared_20 : decode M_Mo_prepared.2.1 20 = .ok (.isub, 1) := by decide +kernel
theorem d_Mo_prepared_21 : decode M_Mo_prepared.2.1 21 = .ok (.invokevirtual 146, 3) := by decide +kernel
theorem d_Mo_prepared_24 : decode M_Mo_prepared.2.1 24 = .ok (.isub, 1) := by decide +kernel
theorem d_Mo_prepared_25 : decode M_Mo_prepared.2.1 25 = .ok (.sipush 128, 3) := by decide +kernel
theorem d_Mo_prepared_28 : decode M_Mo_prepared.2.1 28 = .ok (.iadd, 1) := by decide +kernel
theorem d_Mo_prepared_29 : decode M_Mo_prepared.2.1 29 = .ok (.sipush 255, 3) := by decide +kernel
theorem d_Mo_prepared_32 : decode M_Mo_prepared.2.1 32 = .ok (.iand, 1) := by decide +kernel
theorem d_Mo_prepared_33 : decode M_Mo_prepared.2.1 33 = .ok (.ireturn, 1) := by decide +kernel
theorem d_Mo_reordered_0 : decode M_Mo_reordered.2.1 0 = .ok (.aload_n 0, 1) := by decide +kernel
theorem d_Mo_reordered_1 : decode M_Mo_reordered.2.1 1 = .ok (.getfield 110, 3) := by decide +kernel
theorem d_Mo_reordered_4 : decode M_Mo_reordered.2.1 4 = .ok (.iconst 1, 1) := by decide +kernel
theorem d_Mo_reordered_5 : decode M_Mo_reordered.2.1 5 = .ok (.iadd, 1) := by decide +kernel
theorem d_Mo_reordered_6 : decode M_Mo_reordered.2.1 6 = .ok (.iconst 2, 1) := by decide +kernel
theorem d_Mo_reordered_7 : decode M_Mo_reordered.2.1 7 = .ok (.idiv, 1) := by decide +kernel
theorem d_Mo_reordered_8 : decode M_Mo_reordered.2.1 8 = .ok (.istore_n 2, 1) := by decide +kernel
theorem d_Mo_reordered_9 : decode M_Mo_reordered.2.1 9 = .ok (.aload_n 0, 1) := by decide +kernel
theorem d_Mo_reordered_10 : decode M_Mo_reordered.2.1 10 = .ok (.getfield 50, 3) := by decide +kernel
theorem d_Mo_reordered_13 : decode M_Mo_reordered.2.1 13 = .ok (.iload_n 1, 1) := by decide +kernel
theorem d_Mo_reordered_14 : decode M_Mo_reordered.2.1 14 = .ok (.iload_n 2, 1) := by decide +kernel
theorem d_Mo_reordered_15 : decode M_Mo_reordered.2.1 15 = .ok (.if_icmp .ge 9, 3) := by decide +kernel
theorem d_Mo_reordered_18 : decode M_Mo_reordered.2.1 18 = .ok (.iconst 2, 1) := by decide +kernel
theorem d_Mo_reordered_19 : decode M_Mo_reordered.2.1 19 = .ok (.iload_n 1, 1) := by decide +kernel
theorem d_Mo_reordered_20 : decode M_Mo_reordered.2.1 20 = .ok (.imul, 1) := by decide +kernel
theorem d_Mo_reordered_21 : decode M_Mo_reordered.2.1 21 = .ok (.goto 10, 3) := by decide +kernel
theorem d_Mo_reordered_24 : decode M_Mo_reordered.2.1 24 = .ok (.iconst 2, 1) := by decide +kernel
theorem d_Mo_reordered_25 : decode M_Mo_reordered.2.1 25 = .ok (.iload_n 1, 1) := by decide +kernel
theorem d_Mo_reordered_26 : decode M_Mo_reordered.2.1 26 = .ok (.iload_n 2, 1) := by decide +kernel
theorem d_Mo_reordered_27 : decode M_Mo_reordered.2.1 27 = .ok (.isub, 1) := by decide +kernel
theorem d_Mo_reordered_28 : decode M_Mo_reordered.2.1 28 = .ok (.imul, 1) := by decide +kernel
theorem d_Mo_reordered_29 : decode M_Mo_reordered.2.1 29 = .ok (.iconst 1, 1) := by decide +kernel
theorem d_Mo_reordered_30 : decode M_Mo_reordered.2.1 30 = .ok (.iadd, 1) := by decide +kernel
theorem d_Mo_reordered_31 : decode M_Mo_reordered.2.1 31 = .ok (.iaload, 1) := by decide +kernel
theorem d_Mo_reordered_32 : decode M_Mo_reordered.2.1 32 = .ok (.ireturn, 1) := by decide +kernel
theorem d_Mo_decode_0 : decode M_Mo_decode.2.1 0 = .ok (.aload_n 0, 1) := by decide +kernel
theorem d_Mo_decode_1 : decode M_Mo_decode.2.1 1 = .ok (.iconst 0, 1) := by decide +kernel
theorem d_Mo_decode_2 : decode M_Mo_decode.2.1 2 = .ok (.putfield 179, 3) := by decide +kernel
theorem d_Mo_decode_5 : decode M_Mo_decode.2.1 5 = .ok (.aload_n 0, 1) := by decide +kernel
theorem d_Mo_decode_6 : decode M_Mo_decode.2.1 6 = .ok (.bipush (-2), 2) := by decide +kernel
theorem d_Mo_decode_8 : decode M_Mo_decode.2.1 8 = .ok (.putfield 19, 3) := by decide +kernel
theorem d_Mo_decode_11 : decode M_Mo_decode.2.1 11 = .ok (.iconst 0, 1) := by decide +kernel
theorem d_Mo_decode_12 : decode M_Mo_decode.2.1 12 = .ok (.istore_n 1, 1) := by decide +kernel
theorem d_Mo_decode_13 : decode M_Mo_decode.2.1 13 = .ok (.iload_n 1, 1) := by decide +kernel
theorem d_Mo_decode_14 : decode M_Mo_decode.2.1 14 = .ok (.sipush 192, 3) := by decide +kernel
theorem d_Mo_decode_17 : decode M_Mo_decode.2.1 17 = .ok (.if_icmp .ge 16, 3) := by decide +kernel
theorem d_Mo_decode_20 : decode M_Mo_decode.2.1 20 = .ok (.aload_n 0, 1) := by decide +kernel
theorem d_Mo_decode_21 : decode M_Mo_decode.2.1 21 = .ok (.getfield 47, 3) := by decide +kernel
theorem d_Mo_decode_24 : decode M_Mo_decode.2.1 24 = .ok (.iload_n 1, 1) := by decide +kernel
theorem d_Mo_decode_25 : decode M_Mo_decode.2.1 25 = .ok (.iconst 0, 1) := by decide +kernel
theorem d_Mo_decode_26 : decode M_Mo_decode.2.1 26 = .ok (.iastore, 1) := by decide +kernel
theorem d_Mo_decode_27 : decode M_Mo_decode.2.1 27 = .ok (.iinc 1 1, 3) := by decide +kernel
theorem d_Mo_decode_30 : decode M_Mo_decode.2.1 30 = .ok (.goto (-17), 3) := by decide +kernel
theorem d_Mo_decode_33 : decode M_Mo_decode.2.1 33 = .ok (.aload_n 0, 1) := by decide +kernel
theorem d_Mo_decode_34 : decode M_Mo_decode.2.1 34 = .ok (.invokevirtual 237, 3) := by decide +kernel
theorem d_Mo_decode_37 : decode M_Mo_decode.2.1 37 = .ok (.aload_n 0, 1) := by decide +kernel
theorem d_Mo_decode_38 : decode M_Mo_decode.2.1 38 = .ok (.getfield 197, 3) := by decide +kernel
theorem d_Mo_decode_41 : decode M_Mo_decode.2.1 41 = .ok (.invokestatic 173, 3) := by decide +kernel
theorem d_Mo_decode_44 : decode M_Mo_decode.2.1 44 = .ok (.istore_n 1, 1) := by decide +kernel
theorem d_Mo_decode_45 : decode M_Mo_decode.2.1 45 = .ok (.aload_n 0, 1) := by decide +kernel
theorem d_Mo_decode_46 : decode M_Mo_decode.2.1 46 = .ok (.getfield 179, 3) := by decide +kernel
theorem d_Mo_decode_49 : decode M_Mo_decode.2.1 49 = .ok (.ifCond .ne 17, 3) := by decide +kernel
theorem d_Mo_decode_52 : decode M_Mo_decode.2.1 52 = .ok (.aload_n 0, 1) := by decide +kernel
theorem d_Mo_decode_53 : decode M_Mo_decode.2.1 53 = .ok (.aload_n 0, 1) := by decide +kernel
theorem d_Mo_decode_54 : decode M_Mo_decode.2.1 54 = .ok (.getfield 194, 3) := by decide +kernel
theorem d_Mo_decode_57 : decode M_Mo_decode.2.1 57 = .ok (.iload_n 1, 1) := by decide +kernel
theorem d_Mo_decode_58 : decode M_Mo_decode.2.1 58 = .ok (.iadd, 1) := by decide +kernel
theorem d_Mo_decode_59 : decode M_Mo_decode.2.1 59 = .ok (.iconst 1, 1) := by decide +kernel
theorem d_Mo_decode_60 : decode M_Mo_decode.2.1 60 = .ok (.isub, 1) := by decide +kernel
theorem d_Mo_decode_61 : decode M_Mo_decode.2.1 61 = .ok (.iload_n 1, 1) := by decide +kernel
theorem d_Mo_decode_62 : decode M_Mo_decode.2.1 62 = .ok (.idiv, 1) := by decide +kernel
theorem d_Mo_decode_63 : decode M_Mo_decode.2.1 63 = .ok (.invokevirtual 240, 3) := by decide +kernel
theorem d_Mo_decode_66 : decode M_Mo_decode.2.1 66 = .ok (.iconst 0, 1) := by decide +kernel
theorem d_Mo_decode_67 : decode M_Mo_decode.2.1 67 = .ok (.istore_n 2, 1) := by decide +kernel
theorem d_Mo_decode_68 : decode M_Mo_decode.2.1 68 = .ok (.iload_n 2, 1) := by decide +kernel
theorem d_Mo_decode_69 : decode M_Mo_decode.2.1 69 = .ok (.aload_n 0, 1) := by decide +kernel
theorem d_Mo_decode_70 : decode M_Mo_decode.2.1 70 = .ok (.getfield 194, 3) := by decide +kernel
theorem d_Mo_decode_73 : decode M_Mo_decode.2.1 73 = .ok (.if_icmp .ge 32, 3) := by decide +kernel
theorem d_Mo_decode_76 : decode M_Mo_decode.2.1 76 = .ok (.aload_n 0, 1) := by decide +kernel
theorem d_Mo_decode_77 : decode M_Mo_decode.2.1 77 = .ok (.getfield 179, 3) := by decide +kernel
theorem d_Mo_decode_80 : decode M_Mo_decode.2.1 80 = .ok (.ifCond .ne 25, 3) := by decide +kernel
theorem d_Mo_decode_83 : decode M_Mo_decode.2.1 83 = .ok (.aload_n 0, 1) := by decide +kernel
theorem d_Mo_decode_84 : decode M_Mo_decode.2.1 84 = .ok (.iload_n 2, 1) := by decide +kernel
theorem d_Mo_decode_85 : decode M_Mo_decode.2.1 85 = .ok (.iload_n 1, 1) := by decide +kernel
theorem d_Mo_decode_86 : decode M_Mo_decode.2.1 86 = .ok (.aload_n 0, 1) := by decide +kernel
theorem d_Mo_decode_87 : decode M_Mo_decode.2.1 87 = .ok (.getfield 194, 3) := by decide +kernel
theorem d_Mo_decode_90 : decode M_Mo_decode.2.1 90 = .ok (.iload_n 2, 1) := by decide +kernel
theorem d_Mo_decode_91 : decode M_Mo_decode.2.1 91 = .ok (.isub, 1) := by decide +kernel
theorem d_Mo_decode_92 : decode M_Mo_decode.2.1 92 = .ok (.invokestatic 139, 3) := by decide +kernel
theorem d_Mo_decode_95 : decode M_Mo_decode.2.1 95 = .ok (.invokevirtual 243, 3) := by decide +kernel
theorem d_Mo_decode_98 : decode M_Mo_decode.2.1 98 = .ok (.iload_n 2, 1) := by decide +kernel
theorem d_Mo_decode_99 : decode M_Mo_decode.2.1 99 = .ok (.iload_n 1, 1) := by decide +kernel
theorem d_Mo_decode_100 : decode M_Mo_decode.2.1 100 = .ok (.iadd, 1) := by decide +kernel
theorem d_Mo_decode_101 : decode M_Mo_decode.2.1 101 = .ok (.istore_n 2, 1) := by decide +kernel
theorem d_Mo_decode_102 : decode M_Mo_decode.2.1 102 = .ok (.goto (-34), 3) := by decide +kernel
theorem d_Mo_decode_105 : decode M_Mo_decode.2.1 105 = .ok (.aload_n 0, 1) := by decide +kernel
theorem d_Mo_decode_106 : decode M_Mo_decode.2.1 106 = .ok (.getfield 179, 3) := by decide +kernel
theorem d_Mo_decode_109 : decode M_Mo_decode.2.1 109 = .ok (.ifCond .ne 23, 3) := by decide +kernel
theorem d_Mo_decode_112 : decode M_Mo_decode.2.1 112 = .ok (.aload_n 0, 1) := by decide +kernel
theorem d_Mo_decode_113 : decode M_Mo_decode.2.1 113 = .ok (.getfield 182, 3) := by decide +kernel
theorem d_Mo_decode_116 : decode M_Mo_decode.2.1 116 = .ok (.aload_n 0, 1) := by decide +kernel
theorem d_Mo_decode_117 : decode M_Mo_decode.2.1 117 = .ok (.getfield 158, 3) := by decide +kernel
theorem d_Mo_decode_120 : decode M_Mo_decode.2.1 120 = .ok (.if_icmp .ge 12, 3) := by decide +kernel
theorem d_Mo_decode_123 : decode M_Mo_decode.2.1 123 = .ok (.aload_n 0, 1) := by decide +kernel
theorem d_Mo_decode_124 : decode M_Mo_decode.2.1 124 = .ok (.aload_n 0, 1) := by decide +kernel
theorem d_Mo_decode_125 : decode M_Mo_decode.2.1 125 = .ok (.getfield 182, 3) := by decide +kernel
theorem d_Mo_decode_128 : decode M_Mo_decode.2.1 128 = .ok (.iconst 1, 1) := by decide +kernel
theorem d_Mo_decode_129 : decode M_Mo_decode.2.1 129 = .ok (.invokevirtual 185, 3) := by decide +kernel
theorem d_Mo_decode_132 : decode M_Mo_decode.2.1 132 = .ok (.aload_n 0, 1) := by decide +kernel
theorem d_Mo_decode_133 : decode M_Mo_decode.2.1 133 = .ok (.aload_n 0, 1) := by decide +kernel
theorem d_Mo_decode_134 : decode M_Mo_decode.2.1 134 = .ok (.getfield 179, 3) := by decide +kernel
theorem d_Mo_decode_137 : decode M_Mo_decode.2.1 137 = .ok (.putfield 59, 3) := by decide +kernel
theorem d_Mo_decode_140 : decode M_Mo_decode.2.1 140 = .ok (.aload_n 0, 1) := by decide +kernel
theorem d_Mo_decode_141 : decode M_Mo_decode.2.1 141 = .ok (.getfield 179, 3) := by decide +kernel
theorem d_Mo_decode_144 : decode M_Mo_decode.2.1 144 = .ok (.ifCond .le 5, 3) := by decide +kernel
theorem d_Mo_decode_147 : decode M_Mo_decode.2.1 147 = .ok (.iconst 0, 1) := by decide +kernel
theorem d_Mo_decode_148 : decode M_Mo_decode.2.1 148 = .ok (.ireturn, 1) := by decide +kernel
theorem d_Mo_decode_149 : decode M_Mo_decode.2.1 149 = .ok (.aload_n 0, 1) := by decide +kernel
theorem d_Mo_decode_150 : decode M_Mo_decode.2.1 150 = .ok (.aload_n 0, 1) := by decide +kernel
theorem d_Mo_decode_151 : decode M_Mo_decode.2.1 151 = .ok (.getfield 191, 3) := by decide +kernel
theorem d_Mo_decode_154 : decode M_Mo_decode.2.1 154 = .ok (.putfield 7, 3) := by decide +kernel
theorem d_Mo_decode_157 : decode M_Mo_decode.2.1 157 = .ok (.aload_n 0, 1) := by decide +kernel
theorem d_Mo_decode_158 : decode M_Mo_decode.2.1 158 = .ok (.aload_n 0, 1) := by decide +kernel
theorem d_Mo_decode_159 : decode M_Mo_decode.2.1 159 = .ok (.getfield 194, 3) := by decide +kernel
theorem d_Mo_decode_162 : decode M_Mo_decode.2.1 162 = .ok (.putfield 13, 3) := by decide +kernel
theorem d_Mo_decode_165 : decode M_Mo_decode.2.1 165 = .ok (.aload_n 0, 1) := by decide +kernel
theorem d_Mo_decode_166 : decode M_Mo_decode.2.1 166 = .ok (.aload_n 0, 1) := by decide +kernel
theorem d_Mo_decode_167 : decode M_Mo_decode.2.1 167 = .ok (.getfield 200, 3) := by decide +kernel
theorem d_Mo_decode_170 : decode M_Mo_decode.2.1 170 = .ok (.putfield 16, 3) := by decide +kernel
theorem d_Mo_decode_173 : decode M_Mo_decode.2.1 173 = .ok (.iconst 0, 1) := by decide +kernel
theorem d_Mo_decode_174 : decode M_Mo_decode.2.1 174 = .ok (.istore_n 2, 1) := by decide +kernel
theorem d_Mo_decode_175 : decode M_Mo_decode.2.1 175 = .ok (.iload_n 2, 1) := by decide +kernel
theorem d_Mo_decode_176 : decode M_Mo_decode.2.1 176 = .ok (.aload_n 0, 1) := by decide +kernel
theorem d_Mo_decode_177 : decode M_Mo_decode.2.1 177 = .ok (.getfield 200, 3) := by decide +kernel
theorem d_Mo_decode_180 : decode M_Mo_decode.2.1 180 = .ok (.if_icmp .ge 45, 3) := by decide +kernel
theorem d_Mo_decode_183 : decode M_Mo_decode.2.1 183 = .ok (.aload_n 0, 1) := by decide +kernel
theorem d_Mo_decode_184 : decode M_Mo_decode.2.1 184 = .ok (.getfield 22, 3) := by decide +kernel
theorem d_Mo_decode_187 : decode M_Mo_decode.2.1 187 = .ok (.iload_n 2, 1) := by decide +kernel
theorem d_Mo_decode_188 : decode M_Mo_decode.2.1 188 = .ok (.aload_n 0, 1) := by decide +kernel
theorem d_Mo_decode_189 : decode M_Mo_decode.2.1 189 = .ok (.getfield 38, 3) := by decide +kernel
theorem d_Mo_decode_192 : decode M_Mo_decode.2.1 192 = .ok (.iload_n 2, 1) := by decide +kernel
theorem d_Mo_decode_193 : decode M_Mo_decode.2.1 193 = .ok (.iaload, 1) := by decide +kernel
theorem d_Mo_decode_194 : decode M_Mo_decode.2.1 194 = .ok (.iastore, 1) := by decide +kernel
theorem d_Mo_decode_195 : decode M_Mo_decode.2.1 195 = .ok (.aload_n 0, 1) := by decide +kernel
theorem d_Mo_decode_196 : decode M_Mo_decode.2.1 196 = .ok (.getfield 26, 3) := by decide +kernel
theorem d_Mo_decode_199 : decode M_Mo_decode.2.1 199 = .ok (.iload_n 2, 1) := by decide +kernel
theorem d_Mo_decode_200 : decode M_Mo_decode.2.1 200 = .ok (.aload_n 0, 1) := by decide +kernel
theorem d_Mo_decode_201 : decode M_Mo_decode.2.1 201 = .ok (.getfield 41, 3) := by decide +kernel
theorem d_Mo_decode_204 : decode M_Mo_decode.2.1 204 = .ok (.iload_n 2, 1) := by decide +kernel
theorem d_Mo_decode_205 : decode M_Mo_decode.2.1 205 = .ok (.iaload, 1) := by decide +kernel
theorem d_Mo_decode_206 : decode M_Mo_decode.2.1 206 = .ok (.iastore, 1) := by decide +kernel
theorem d_Mo_decode_207 : decode M_Mo_decode.2.1 207 = .ok (.aload_n 0, 1) := by decide +kernel
theorem d_Mo_decode_208 : decode M_Mo_decode.2.1 208 = .ok (.getfield 29, 3) := by decide +kernel
theorem d_Mo_decode_211 : decode M_Mo_decode.2.1 211 = .ok (.iload_n 2, 1) := by decide +kernel
theorem d_Mo_decode_212 : decode M_Mo_decode.2.1 212 = .ok (.aload_n 0, 1) := by decide +kernel
theorem d_Mo_decode_213 : decode M_Mo_decode.2.1 213 = .ok (.getfield 44, 3) := by decide +kernel
theorem d_Mo_decode_216 : decode M_Mo_decode.2.1 216 = .ok (.iload_n 2, 1) := by decide +kernel
theorem d_Mo_decode_217 : decode M_Mo_decode.2.1 217 = .ok (.iaload, 1) := by decide +kernel
theorem d_Mo_decode_218 : decode M_Mo_decode.2.1 218 = .ok (.iastore, 1) := by decide +kernel
theorem d_Mo_decode_219 : decode M_Mo_decode.2.1 219 = .ok (.iinc 2 1, 3) := by decide +kernel
theorem d_Mo_decode_222 : decode M_Mo_decode.2.1 222 = .ok (.goto (-47), 3) := by decide +kernel
theorem d_Mo_decode_225 : decode M_Mo_decode.2.1 225 = .ok (.iconst 0, 1) := by decide +kernel
theorem d_Mo_decode_226 : decode M_Mo_decode.2.1 226 = .ok (.istore_n 2, 1) := by decide +kernel
theorem d_Mo_decode_227 : decode M_Mo_decode.2.1 227 = .ok (.iload_n 2, 1) := by decide +kernel
theorem d_Mo_decode_228 : decode M_Mo_decode.2.1 228 = .ok (.sipush 192, 3) := by decide +kernel
theorem d_Mo_decode_231 : decode M_Mo_decode.2.1 231 = .ok (.if_icmp .ge 21, 3) := by decide +kernel
theorem d_Mo_decode_234 : decode M_Mo_decode.2.1 234 = .ok (.aload_n 0, 1) := by decide +kernel
theorem d_Mo_decode_235 : decode M_Mo_decode.2.1 235 = .ok (.getfield 32, 3) := by decide +kernel
theorem d_Mo_decode_238 : decode M_Mo_decode.2.1 238 = .ok (.iload_n 2, 1) := by decide +kernel
theorem d_Mo_decode_239 : decode M_Mo_decode.2.1 239 = .ok (.aload_n 0, 1) := by decide +kernel
theorem d_Mo_decode_240 : decode M_Mo_decode.2.1 240 = .ok (.getfield 47, 3) := by decide +kernel
theorem d_Mo_decode_243 : decode M_Mo_decode.2.1 243 = .ok (.iload_n 2, 1) := by decide +kernel
theorem d_Mo_decode_244 : decode M_Mo_decode.2.1 244 = .ok (.iaload, 1) := by decide +kernel
theorem d_Mo_decode_245 : decode M_Mo_decode.2.1 245 = .ok (.iastore, 1) := by decide +kernel
theorem d_Mo_decode_246 : decode M_Mo_decode.2.1 246 = .ok (.iinc 2 1, 3) := by decide +kernel
theorem d_Mo_decode_249 : decode M_Mo_decode.2.1 249 = .ok (.goto (-22), 3) := by decide +kernel
theorem d_Mo_decode_252 : decode M_Mo_decode.2.1 252 = .ok (.aload_n 0, 1) := by decide +kernel
theorem d_Mo_decode_253 : decode M_Mo_decode.2.1 253 = .ok (.getfield 197, 3) := by decide +kernel
theorem d_Mo_decode_256 : decode M_Mo_decode.2.1 256 = .ok (.ireturn, 1) := by decide +kernel
theorem d_Mo_readHead_0 : decode M_Mo_readHead.2.1 0 = .ok (.aload_n 0, 1) := by decide +kernel
theorem d_Mo_readHead_1 : decode M_Mo_readHead.2.1 1 = .ok (.iconst 0, 1) := by decide +kernel
theorem d_Mo_readHead_2 : decode M_Mo_readHead.2.1 2 = .ok (.putfield 182, 3) := by decide +kernel
theorem d_Mo_readHead_5 : decode M_Mo_readHead.2.1 5 = .ok (.aload_n 0, 1) := by decide +kernel
theorem d_Mo_readHead_6 : decode M_Mo_readHead.2.1 6 = .ok (.bipush 118, 2) := by decide +kernel
theorem d_Mo_readHead_8 : decode M_Mo_readHead.2.1 8 = .ok (.bipush 118, 2) := by decide +kernel
theorem d_Mo_readHead_10 : decode M_Mo_readHead.2.1 10 = .ok (.iconst 1, 1) := by decide +kernel
theorem d_Mo_readHead_11 : decode M_Mo_readHead.2.1 11 = .ok (.invokevirtual 188, 3) := by decide +kernel
theorem d_Mo_readHead_14 : decode M_Mo_readHead.2.1 14 = .ok (.pop, 1) := by decide +kernel
theorem d_Mo_readHead_15 : decode M_Mo_readHead.2.1 15 = .ok (.aload_n 0, 1) := by decide +kernel
theorem d_Mo_readHead_16 : decode M_Mo_readHead.2.1 16 = .ok (.bipush 47, 2) := by decide +kernel
theorem d_Mo_readHead_18 : decode M_Mo_readHead.2.1 18 = .ok (.bipush 47, 2) := by decide +kernel
theorem d_Mo_readHead_20 : decode M_Mo_readHead.2.1 20 = .ok (.iconst 1, 1) := by decide +kernel
theorem d_Mo_readHead_21 : decode M_Mo_readHead.2.1 21 = .ok (.invokevirtual 188, 3) := by decide +kernel
theorem d_Mo_readHead_24 : decode M_Mo_readHead.2.1 24 = .ok (.pop, 1) := by decide +kernel
theorem d_Mo_readHead_25 : decode M_Mo_readHead.2.1 25 = .ok (.aload_n 0, 1) := by decide +kernel
theorem d_Mo_readHead_26 : decode M_Mo_readHead.2.1 26 = .ok (.bipush 49, 2) := by decide +kernel
theorem d_Mo_readHead_28 : decode M_Mo_readHead.2.1 28 = .ok (.bipush 49, 2) := by decide +kernel
theorem d_Mo_readHead_30 : decode M_Mo_readHead.2.1 30 = .ok (.iconst 1, 1) := by decide +kernel
theorem d_Mo_readHead_31 : decode M_Mo_readHead.2.1 31 = .ok (.invokevirtual 188, 3) := by decide +kernel
theorem d_Mo_readHead_34 : decode M_Mo_readHead.2.1 34 = .ok (.pop, 1) := by decide +kernel
theorem d_Mo_readHead_35 : decode M_Mo_readHead.2.1 35 = .ok (.aload_n 0, 1) := by decide +kernel
theorem d_Mo_readHead_36 : decode M_Mo_readHead.2.1 36 = .ok (.iconst 1, 1) := by decide +kernel
theorem d_Mo_readHead_37 : decode M_Mo_readHead.2.1 37 = .ok (.iconst 1, 1) := by decide +kernel
theorem d_Mo_readHead_38 : decode M_Mo_readHead.2.1 38 = .ok (.iconst 1, 1) := by decide +kernel
theorem d_Mo_readHead_39 : decode M_Mo_readHead.2.1 39 = .ok (.invokevirtual 188, 3) := by decide +kernel
theorem d_Mo_readHead_42 : decode M_Mo_readHead.2.1 42 = .ok (.pop, 1) := by decide +kernel
theorem d_Mo_readHead_43 : decode M_Mo_readHead.2.1 43 = .ok (.aload_n 0, 1) := by decide +kernel
theorem d_Mo_readHead_44 : decode M_Mo_readHead.2.1 44 = .ok (.iconst 2, 1) := by decide +kernel
theorem d_Mo_readHead_45 : decode M_Mo_readHead.2.1 45 = .ok (.iconst 2, 1) := by decide +kernel
theorem d_Mo_readHead_46 : decode M_Mo_readHead.2.1 46 = .ok (.iconst 2, 1) := by decide +kernel
theorem d_Mo_readHead_47 : decode M_Mo_readHead.2.1 47 = .ok (.invokevirtual 188, 3) := by decide +kernel
theorem d_Mo_readHead_50 : decode M_Mo_readHead.2.1 50 = .ok (.pop, 1) := by decide +kernel
theorem d_Mo_readHead_51 : decode M_Mo_readHead.2.1 51 = .ok (.aload_n 0, 1) := by decide +kernel
theorem d_Mo_readHead_52 : decode M_Mo_readHead.2.1 52 = .ok (.aload_n 0, 1) := by decide +kernel
theorem d_Mo_readHead_53 : decode M_Mo_readHead.2.1 53 = .ok (.iconst 1, 1) := by decide +kernel
theorem d_Mo_readHead_54 : decode M_Mo_readHead.2.1 54 = .ok (.bipush 8, 2) := by decide +kernel
