theorem d_Mo_readHead_56 : decode M_Mo_readHead.2.1 56 = .ok (.iconst 1, 1) := by decide +kernel
theorem d_Mo_readHead_57 : decode M_Mo_readHead.2.1 57 = .ok (.invokevirtual 188, 3) := by decide +kernel
theorem d_Mo_readHead_60 : decode M_Mo_readHead.2.1 60 = .ok (.putfield 191, 3) := by decide +kernel
theorem d_Mo_readHead_63 : decode M_Mo_readHead.2.1 63 = .ok (.aload_n 0, 1) := by decide +kernel
theorem d_Mo_readHead_64 : decode M_Mo_readHead.2.1 64 = .ok (.aload_n 0, 1) := by decide +kernel
theorem d_Mo_readHead_65 : decode M_Mo_readHead.2.1 65 = .ok (.iconst 1, 1) := by decide +kernel
theorem d_Mo_readHead_66 : decode M_Mo_readHead.2.1 66 = .ok (.bipush 8, 2) := by decide +kernel
theorem d_Mo_readHead_68 : decode M_Mo_readHead.2.1 68 = .ok (.iconst 1, 1) := by decide +kernel
theorem d_Mo_readHead_69 : decode M_Mo_readHead.2.1 69 = .ok (.invokevirtual 188, 3) := by decide +kernel
theorem d_Mo_readHead_72 : decode M_Mo_readHead.2.1 72 = .ok (.putfield 194, 3) := by decide +kernel
theorem d_Mo_readHead_75 : decode M_Mo_readHead.2.1 75 = .ok (.aload_n 0, 1) := by decide +kernel
theorem d_Mo_readHead_76 : decode M_Mo_readHead.2.1 76 = .ok (.aload_n 0, 1) := by decide +kernel
theorem d_Mo_readHead_77 : decode M_Mo_readHead.2.1 77 = .ok (.iconst 0, 1) := by decide +kernel
theorem d_Mo_readHead_78 : decode M_Mo_readHead.2.1 78 = .ok (.iconst 3, 1) := by decide +kernel
theorem d_Mo_readHead_79 : decode M_Mo_readHead.2.1 79 = .ok (.iconst 2, 1) := by decide +kernel
theorem d_Mo_readHead_80 : decode M_Mo_readHead.2.1 80 = .ok (.invokevirtual 188, 3) := by decide +kernel
theorem d_Mo_readHead_83 : decode M_Mo_readHead.2.1 83 = .ok (.putfield 197, 3) := by decide +kernel
theorem d_Mo_readHead_86 : decode M_Mo_readHead.2.1 86 = .ok (.aload_n 0, 1) := by decide +kernel
theorem d_Mo_readHead_87 : decode M_Mo_readHead.2.1 87 = .ok (.aload_n 0, 1) := by decide +kernel
theorem d_Mo_readHead_88 : decode M_Mo_readHead.2.1 88 = .ok (.iconst 1, 1) := by decide +kernel
theorem d_Mo_readHead_89 : decode M_Mo_readHead.2.1 89 = .ok (.iconst 3, 1) := by decide +kernel
theorem d_Mo_readHead_90 : decode M_Mo_readHead.2.1 90 = .ok (.iconst 1, 1) := by decide +kernel
theorem d_Mo_readHead_91 : decode M_Mo_readHead.2.1 91 = .ok (.invokevirtual 188, 3) := by decide +kernel
theorem d_Mo_readHead_94 : decode M_Mo_readHead.2.1 94 = .ok (.putfield 200, 3) := by decide +kernel
theorem d_Mo_readHead_97 : decode M_Mo_readHead.2.1 97 = .ok (.iconst 0, 1) := by decide +kernel
theorem d_Mo_readHead_98 : decode M_Mo_readHead.2.1 98 = .ok (.istore_n 1, 1) := by decide +kernel
theorem d_Mo_readHead_99 : decode M_Mo_readHead.2.1 99 = .ok (.iload_n 1, 1) := by decide +kernel
theorem d_Mo_readHead_100 : decode M_Mo_readHead.2.1 100 = .ok (.aload_n 0, 1) := by decide +kernel
theorem d_Mo_readHead_101 : decode M_Mo_readHead.2.1 101 = .ok (.getfield 200, 3) := by decide +kernel
theorem d_Mo_readHead_104 : decode M_Mo_readHead.2.1 104 = .ok (.if_icmp .ge 74, 3) := by decide +kernel
theorem d_Mo_readHead_107 : decode M_Mo_readHead.2.1 107 = .ok (.aload_n 0, 1) := by decide +kernel
theorem d_Mo_readHead_108 : decode M_Mo_readHead.2.1 108 = .ok (.getfield 179, 3) := by decide +kernel
theorem d_Mo_readHead_111 : decode M_Mo_readHead.2.1 111 = .ok (.ifCond .ne 67, 3) := by decide +kernel
theorem d_Mo_readHead_114 : decode M_Mo_readHead.2.1 114 = .ok (.aload_n 0, 1) := by decide +kernel
theorem d_Mo_readHead_115 : decode M_Mo_readHead.2.1 115 = .ok (.getfield 38, 3) := by decide +kernel
theorem d_Mo_readHead_118 : decode M_Mo_readHead.2.1 118 = .ok (.iload_n 1, 1) := by decide +kernel
theorem d_Mo_readHead_119 : decode M_Mo_readHead.2.1 119 = .ok (.aload_n 0, 1) := by decide +kernel
theorem d_Mo_readHead_120 : decode M_Mo_readHead.2.1 120 = .ok (.iload_n 1, 1) := by decide +kernel
theorem d_Mo_readHead_121 : decode M_Mo_readHead.2.1 121 = .ok (.ifCond .ne 8, 3) := by decide +kernel
theorem d_Mo_readHead_124 : decode M_Mo_readHead.2.1 124 = .ok (.bipush 97, 2) := by decide +kernel
theorem d_Mo_readHead_126 : decode M_Mo_readHead.2.1 126 = .ok (.goto 13, 3) := by decide +kernel
theorem d_Mo_readHead_129 : decode M_Mo_readHead.2.1 129 = .ok (.aload_n 0, 1) := by decide +kernel
theorem d_Mo_readHead_130 : decode M_Mo_readHead.2.1 130 = .ok (.getfield 38, 3) := by decide +kernel
theorem d_Mo_readHead_133 : decode M_Mo_readHead.2.1 133 = .ok (.iload_n 1, 1) := by decide +kernel
theorem d_Mo_readHead_134 : decode M_Mo_readHead.2.1 134 = .ok (.iconst 1, 1) := by decide +kernel
theorem d_Mo_readHead_135 : decode M_Mo_readHead.2.1 135 = .ok (.isub, 1) := by decide +kernel
theorem d_Mo_readHead_136 : decode M_Mo_readHead.2.1 136 = .ok (.iaload, 1) := by decide +kernel
theorem d_Mo_readHead_137 : decode M_Mo_readHead.2.1 137 = .ok (.iconst 1, 1) := by decide +kernel
theorem d_Mo_readHead_138 : decode M_Mo_readHead.2.1 138 = .ok (.iadd, 1) := by decide +kernel
theorem d_Mo_readHead_139 : decode M_Mo_readHead.2.1 139 = .ok (.bipush 122, 2) := by decide +kernel
theorem d_Mo_readHead_141 : decode M_Mo_readHead.2.1 141 = .ok (.iconst 1, 1) := by decide +kernel
theorem d_Mo_readHead_142 : decode M_Mo_readHead.2.1 142 = .ok (.invokevirtual 188, 3) := by decide +kernel
theorem d_Mo_readHead_145 : decode M_Mo_readHead.2.1 145 = .ok (.iastore, 1) := by decide +kernel
theorem d_Mo_readHead_146 : decode M_Mo_readHead.2.1 146 = .ok (.aload_n 0, 1) := by decide +kernel
theorem d_Mo_readHead_147 : decode M_Mo_readHead.2.1 147 = .ok (.getfield 41, 3) := by decide +kernel
theorem d_Mo_readHead_150 : decode M_Mo_readHead.2.1 150 = .ok (.iload_n 1, 1) := by decide +kernel
theorem d_Mo_readHead_151 : decode M_Mo_readHead.2.1 151 = .ok (.aload_n 0, 1) := by decide +kernel
theorem d_Mo_readHead_152 : decode M_Mo_readHead.2.1 152 = .ok (.iconst 0, 1) := by decide +kernel
theorem d_Mo_readHead_153 : decode M_Mo_readHead.2.1 153 = .ok (.iconst 2, 1) := by decide +kernel
theorem d_Mo_readHead_154 : decode M_Mo_readHead.2.1 154 = .ok (.iconst 1, 1) := by decide +kernel
theorem d_Mo_readHead_155 : decode M_Mo_readHead.2.1 155 = .ok (.invokevirtual 188, 3) := by decide +kernel
theorem d_Mo_readHead_158 : decode M_Mo_readHead.2.1 158 = .ok (.iastore, 1) := by decide +kernel
theorem d_Mo_readHead_159 : decode M_Mo_readHead.2.1 159 = .ok (.aload_n 0, 1) := by decide +kernel
theorem d_Mo_readHead_160 : decode M_Mo_readHead.2.1 160 = .ok (.getfield 44, 3) := by decide +kernel
theorem d_Mo_readHead_163 : decode M_Mo_readHead.2.1 163 = .ok (.iload_n 1, 1) := by decide +kernel
theorem d_Mo_readHead_164 : decode M_Mo_readHead.2.1 164 = .ok (.aload_n 0, 1) := by decide +kernel
theorem d_Mo_readHead_165 : decode M_Mo_readHead.2.1 165 = .ok (.iconst 1, 1) := by decide +kernel
theorem d_Mo_readHead_166 : decode M_Mo_readHead.2.1 166 = .ok (.iconst 2, 1) := by decide +kernel
theorem d_Mo_readHead_167 : decode M_Mo_readHead.2.1 167 = .ok (.iconst 1, 1) := by decide +kernel
theorem d_Mo_readHead_168 : decode M_Mo_readHead.2.1 168 = .ok (.invokevirtual 188, 3) := by decide +kernel
theorem d_Mo_readHead_171 : decode M_Mo_readHead.2.1 171 = .ok (.iastore, 1) := by decide +kernel
theorem d_Mo_readHead_172 : decode M_Mo_readHead.2.1 172 = .ok (.iinc 1 1, 3) := by decide +kernel
theorem d_Mo_readHead_175 : decode M_Mo_readHead.2.1 175 = .ok (.goto (-76), 3) := by decide +kernel
theorem d_Mo_readHead_178 : decode M_Mo_readHead.2.1 178 = .ok (.return_, 1) := by decide +kernel
theorem d_Mo_next_0 : decode M_Mo_next.2.1 0 = .ok (.aload_n 0, 1) := by decide +kernel
theorem d_Mo_next_1 : decode M_Mo_next.2.1 1 = .ok (.getfield 179, 3) := by decide +kernel
theorem d_Mo_next_4 : decode M_Mo_next.2.1 4 = .ok (.ifCond .le 5, 3) := by decide +kernel
theorem d_Mo_next_7 : decode M_Mo_next.2.1 7 = .ok (.iconst 0, 1) := by decide +kernel
theorem d_Mo_next_8 : decode M_Mo_next.2.1 8 = .ok (.ireturn, 1) := by decide +kernel
theorem d_Mo_next_9 : decode M_Mo_next.2.1 9 = .ok (.aload_n 0, 1) := by decide +kernel
theorem d_Mo_next_10 : decode M_Mo_next.2.1 10 = .ok (.getfield 182, 3) := by decide +kernel
theorem d_Mo_next_13 : decode M_Mo_next.2.1 13 = .ok (.aload_n 0, 1) := by decide +kernel
theorem d_Mo_next_14 : decode M_Mo_next.2.1 14 = .ok (.getfield 158, 3) := by decide +kernel
theorem d_Mo_next_17 : decode M_Mo_next.2.1 17 = .ok (.if_icmp .lt 14, 3) := by decide +kernel
theorem d_Mo_next_20 : decode M_Mo_next.2.1 20 = .ok (.aload_n 0, 1) := by decide +kernel
theorem d_Mo_next_21 : decode M_Mo_next.2.1 21 = .ok (.aload_n 0, 1) := by decide +kernel
theorem d_Mo_next_22 : decode M_Mo_next.2.1 22 = .ok (.getfield 158, 3) := by decide +kernel
theorem d_Mo_next_25 : decode M_Mo_next.2.1 25 = .ok (.iconst 1, 1) := by decide +kernel
theorem d_Mo_next_26 : decode M_Mo_next.2.1 26 = .ok (.invokevirtual 185, 3) := by decide +kernel
theorem d_Mo_next_29 : decode M_Mo_next.2.1 29 = .ok (.iconst 0, 1) := by decide +kernel
theorem d_Mo_next_30 : decode M_Mo_next.2.1 30 = .ok (.ireturn, 1) := by decide +kernel
theorem d_Mo_next_31 : decode M_Mo_next.2.1 31 = .ok (.aload_n 0, 1) := by decide +kernel
theorem d_Mo_next_32 : decode M_Mo_next.2.1 32 = .ok (.getfield 35, 3) := by decide +kernel
theorem d_Mo_next_35 : decode M_Mo_next.2.1 35 = .ok (.aload_n 0, 1) := by decide +kernel
theorem d_Mo_next_36 : decode M_Mo_next.2.1 36 = .ok (.getfield 182, 3) := by decide +kernel
theorem d_Mo_next_39 : decode M_Mo_next.2.1 39 = .ok (.iaload, 1) := by decide +kernel
theorem d_Mo_next_40 : decode M_Mo_next.2.1 40 = .ok (.iload_n 1, 1) := by decide +kernel
theorem d_Mo_next_41 : decode M_Mo_next.2.1 41 = .ok (.iload_n 2, 1) := by decide +kernel
theorem d_Mo_next_42 : decode M_Mo_next.2.1 42 = .ok (.invokestatic 87, 3) := by decide +kernel
theorem d_Mo_next_45 : decode M_Mo_next.2.1 45 = .ok (.ifCond .ne 12, 3) := by decide +kernel
theorem d_Mo_next_48 : decode M_Mo_next.2.1 48 = .ok (.aload_n 0, 1) := by decide +kernel
theorem d_Mo_next_49 : decode M_Mo_next.2.1 49 = .ok (.aload_n 0, 1) := by decide +kernel
theorem d_Mo_next_50 : decode M_Mo_next.2.1 50 = .ok (.getfield 182, 3) := by decide +kernel
theorem d_Mo_next_53 : decode M_Mo_next.2.1 53 = .ok (.iload_n 3, 1) := by decide +kernel
theorem d_Mo_next_54 : decode M_Mo_next.2.1 54 = .ok (.invokevirtual 185, 3) := by decide +kernel
theorem d_Mo_next_57 : decode M_Mo_next.2.1 57 = .ok (.aload_n 0, 1) := by decide +kernel
theorem d_Mo_next_58 : decode M_Mo_next.2.1 58 = .ok (.dup, 1) := by decide +kernel
theorem d_Mo_next_59 : decode M_Mo_next.2.1 59 = .ok (.getfield 182, 3) := by decide +kernel
theorem d_Mo_next_62 : decode M_Mo_next.2.1 62 = .ok (.iconst 1, 1) := by decide +kernel
theorem d_Mo_next_63 : decode M_Mo_next.2.1 63 = .ok (.iadd, 1) := by decide +kernel
theorem d_Mo_next_64 : decode M_Mo_next.2.1 64 = .ok (.putfield 182, 3) := by decide +kernel
theorem d_Mo_next_67 : decode M_Mo_next.2.1 67 = .ok (.aload_n 0, 1) := by decide +kernel
theorem d_Mo_next_68 : decode M_Mo_next.2.1 68 = .ok (.getfield 35, 3) := by decide +kernel
theorem d_Mo_next_71 : decode M_Mo_next.2.1 71 = .ok (.aload_n 0, 1) := by decide +kernel
theorem d_Mo_next_72 : decode M_Mo_next.2.1 72 = .ok (.getfield 182, 3) := by decide +kernel
theorem d_Mo_next_75 : decode M_Mo_next.2.1 75 = .ok (.iconst 1, 1) := by decide +kernel
theorem d_Mo_next_76 : decode M_Mo_next.2.1 76 = .ok (.isub, 1) := by decide +kernel
theorem d_Mo_next_77 : decode M_Mo_next.2.1 77 = .ok (.iaload, 1) := by decide +kernel
theorem d_Mo_next_78 : decode M_Mo_next.2.1 78 = .ok (.ireturn, 1) := by decide +kernel
theorem d_Mo_wrong_0 : decode M_Mo_wrong.2.1 0 = .ok (.aload_n 0, 1) := by decide +kernel
theorem d_Mo_wrong_1 : decode M_Mo_wrong.2.1 1 = .ok (.getfield 179, 3) := by decide +kernel
theorem d_Mo_wrong_4 : decode M_Mo_wrong.2.1 4 = .ok (.ifCond .le 4, 3) := by decide +kernel
theorem d_Mo_wrong_7 : decode M_Mo_wrong.2.1 7 = .ok (.return_, 1) := by decide +kernel
theorem d_Mo_wrong_8 : decode M_Mo_wrong.2.1 8 = .ok (.aload_n 0, 1) := by decide +kernel
theorem d_Mo_wrong_9 : decode M_Mo_wrong.2.1 9 = .ok (.iload_n 1, 1) := by decide +kernel
theorem d_Mo_wrong_10 : decode M_Mo_wrong.2.1 10 = .ok (.putfield 19, 3) := by decide +kernel
theorem d_Mo_wrong_13 : decode M_Mo_wrong.2.1 13 = .ok (.aload_n 0, 1) := by decide +kernel
theorem d_Mo_wrong_14 : decode M_Mo_wrong.2.1 14 = .ok (.iload_n 2, 1) := by decide +kernel
theorem d_Mo_wrong_15 : decode M_Mo_wrong.2.1 15 = .ok (.putfield 179, 3) := by decide +kernel
theorem d_Mo_wrong_18 : decode M_Mo_wrong.2.1 18 = .ok (.return_, 1) := by decide +kernel
theorem d_Mo_readOffsets_0 : decode M_Mo_readOffsets.2.1 0 = .ok (.aload_n 0, 1) := by decide +kernel
theorem d_Mo_readOffsets_1 : decode M_Mo_readOffsets.2.1 1 = .ok (.getfield 182, 3) := by decide +kernel
theorem d_Mo_readOffsets_4 : decode M_Mo_readOffsets.2.1 4 = .ok (.iconst 2, 1) := by decide +kernel
theorem d_Mo_readOffsets_5 : decode M_Mo_readOffsets.2.1 5 = .ok (.iload_n 1, 1) := by decide +kernel
theorem d_Mo_readOffsets_6 : decode M_Mo_readOffsets.2.1 6 = .ok (.imul, 1) := by decide +kernel
theorem d_Mo_readOffsets_7 : decode M_Mo_readOffsets.2.1 7 = .ok (.iadd, 1) := by decide +kernel
theorem d_Mo_readOffsets_8 : decode M_Mo_readOffsets.2.1 8 = .ok (.istore_n 2, 1) := by decide +kernel
theorem d_Mo_readOffsets_9 : decode M_Mo_readOffsets.2.1 9 = .ok (.iconst 1, 1) := by decide +kernel
theorem d_Mo_readOffsets_10 : decode M_Mo_readOffsets.2.1 10 = .ok (.istore_n 3, 1) := by decide +kernel
theorem d_Mo_readOffsets_11 : decode M_Mo_readOffsets.2.1 11 = .ok (.iconst 0, 1) := by decide +kernel
theorem d_Mo_readOffsets_12 : decode M_Mo_readOffsets.2.1 12 = .ok (.istore 4, 2) := by decide +kernel
theorem d_Mo_readOffsets_14 : decode M_Mo_readOffsets.2.1 14 = .ok (.iload 4, 2) := by decide +kernel
theorem d_Mo_readOffsets_16 : decode M_Mo_readOffsets.2.1 16 = .ok (.iload_n 1, 1) := by decide +kernel
theorem d_Mo_readOffsets_17 : decode M_Mo_readOffsets.2.1 17 = .ok (.if_icmp .ge 121, 3) := by decide +kernel
theorem d_Mo_readOffsets_20 : decode M_Mo_readOffsets.2.1 20 = .ok (.aload_n 0, 1) := by decide +kernel
theorem d_Mo_readOffsets_21 : decode M_Mo_readOffsets.2.1 21 = .ok (.getfield 179, 3) := by decide +kernel
theorem d_Mo_readOffsets_24 : decode M_Mo_readOffsets.2.1 24 = .ok (.ifCond .ne 114, 3) := by decide +kernel
theorem d_Mo_readOffsets_27 : decode M_Mo_readOffsets.2.1 27 = .ok (.aload_n 0, 1) := by decide +kernel
theorem d_Mo_readOffsets_28 : decode M_Mo_readOffsets.2.1 28 = .ok (.getfield 182, 3) := by decide +kernel
theorem d_Mo_readOffsets_31 : decode M_Mo_readOffsets.2.1 31 = .ok (.istore 5, 2) := by decide +kernel
theorem d_Mo_readOffsets_33 : decode M_Mo_readOffsets.2.1 33 = .ok (.aload_n 0, 1) := by decide +kernel
theorem d_Mo_readOffsets_34 : decode M_Mo_readOffsets.2.1 34 = .ok (.invokevirtual 203, 3) := by decide +kernel
theorem d_Mo_readOffsets_37 : decode M_Mo_readOffsets.2.1 37 = .ok (.istore 6, 2) := by decide +kernel
theorem d_Mo_readOffsets_39 : decode M_Mo_readOffsets.2.1 39 = .ok (.aload_n 0, 1) := by decide +kernel
theorem d_Mo_readOffsets_40 : decode M_Mo_readOffsets.2.1 40 = .ok (.getfield 179, 3) := by decide +kernel
theorem d_Mo_readOffsets_43 : decode M_Mo_readOffsets.2.1 43 = .ok (.ifCond .le 4, 3) := by decide +kernel
theorem d_Mo_readOffsets_46 : decode M_Mo_readOffsets.2.1 46 = .ok (.return_, 1) := by decide +kernel
theorem d_Mo_readOffsets_47 : decode M_Mo_readOffsets.2.1 47 = .ok (.iload_n 3, 1) := by decide +kernel
theorem d_Mo_readOffsets_48 : decode M_Mo_readOffsets.2.1 48 = .ok (.ifCond .eq 16, 3) := by decide +kernel
theorem d_Mo_readOffsets_51 : decode M_Mo_readOffsets.2.1 51 = .ok (.iload 6, 2) := by decide +kernel
theorem d_Mo_readOffsets_53 : decode M_Mo_readOffsets.2.1 53 = .ok (.iload_n 2, 1) := by decide +kernel
theorem d_Mo_readOffsets_54 : decode M_Mo_readOffsets.2.1 54 = .ok (.if_icmp .eq 10, 3) := by decide +kernel
theorem d_Mo_readOffsets_57 : decode M_Mo_readOffsets.2.1 57 = .ok (.aload_n 0, 1) := by decide +kernel
theorem d_Mo_readOffsets_58 : decode M_Mo_readOffsets.2.1 58 = .ok (.iload 5, 2) := by decide +kernel
theorem d_Mo_readOffsets_60 : decode M_Mo_readOffsets.2.1 60 = .ok (.iconst 1, 1) := by decide +kernel
theorem d_Mo_readOffsets_61 : decode M_Mo_readOffsets.2.1 61 = .ok (.invokevirtual 185, 3) := by decide +kernel
theorem d_Mo_readOffsets_64 : decode M_Mo_readOffsets.2.1 64 = .ok (.iload_n 3, 1) := by decide +kernel
theorem d_Mo_readOffsets_65 : decode M_Mo_readOffsets.2.1 65 = .ok (.ifCond .eq 17, 3) := by decide +kernel
theorem d_Mo_readOffsets_68 : decode M_Mo_readOffsets.2.1 68 = .ok (.iload_n 2, 1) := by decide +kernel
theorem d_Mo_readOffsets_69 : decode M_Mo_readOffsets.2.1 69 = .ok (.iconst 3, 1) := by decide +kernel
theorem d_Mo_readOffsets_70 : decode M_Mo_readOffsets.2.1 70 = .ok (.iadd, 1) := by decide +kernel
theorem d_Mo_readOffsets_71 : decode M_Mo_readOffsets.2.1 71 = .ok (.aload_n 0, 1) := by decide +kernel
theorem d_Mo_readOffsets_72 : decode M_Mo_readOffsets.2.1 72 = .ok (.getfield 158, 3) := by decide +kernel
theorem d_Mo_readOffsets_75 : decode M_Mo_readOffsets.2.1 75 = .ok (.if_icmp .gt 7, 3) := by decide +kernel
theorem d_Mo_readOffsets_78 : decode M_Mo_readOffsets.2.1 78 = .ok (.iconst 1, 1) := by decide +kernel
theorem d_Mo_readOffsets_79 : decode M_Mo_readOffsets.2.1 79 = .ok (.goto 4, 3) := by decide +kernel
theorem d_Mo_readOffsets_82 : decode M_Mo_readOffsets.2.1 82 = .ok (.iconst 0, 1) := by decide +kernel
theorem d_Mo_readOffsets_83 : decode M_Mo_readOffsets.2.1 83 = .ok (.istore_n 3, 1) := by decide +kernel
theorem d_Mo_readOffsets_84 : decode M_Mo_readOffsets.2.1 84 = .ok (.iload_n 3, 1) := by decide +kernel
theorem d_Mo_readOffsets_85 : decode M_Mo_readOffsets.2.1 85 = .ok (.ifCond .eq 29, 3) := by decide +kernel
theorem d_Mo_readOffsets_88 : decode M_Mo_readOffsets.2.1 88 = .ok (.iload_n 2, 1) := by decide +kernel
theorem d_Mo_readOffsets_89 : decode M_Mo_readOffsets.2.1 89 = .ok (.iconst 3, 1) := by decide +kernel
theorem d_Mo_readOffsets_90 : decode M_Mo_readOffsets.2.1 90 = .ok (.aload_n 0, 1) := by decide +kernel
theorem d_Mo_readOffsets_91 : decode M_Mo_readOffsets.2.1 91 = .ok (.getfield 35, 3) := by decide +kernel
theorem d_Mo_readOffsets_94 : decode M_Mo_readOffsets.2.1 94 = .ok (.iload_n 2, 1) := by decide +kernel
theorem d_Mo_readOffsets_95 : decode M_Mo_readOffsets.2.1 95 = .ok (.iconst 1, 1) := by decide +kernel
theorem d_Mo_readOffsets_96 : decode M_Mo_readOffsets.2.1 96 = .ok (.iadd, 1) := by decide +kernel
theorem d_Mo_readOffsets_97 : decode M_Mo_readOffsets.2.1 97 = .ok (.iaload, 1) := by decide +kernel
theorem d_Mo_readOffsets_98 : decode M_Mo_readOffsets.2.1 98 = .ok (.iadd, 1) := by decide +kernel
theorem d_Mo_readOffsets_99 : decode M_Mo_readOffsets.2.1 99 = .ok (.sipush 256, 3) := by decide +kernel
theorem d_Mo_readOffsets_102 : decode M_Mo_readOffsets.2.1 102 = .ok (.aload_n 0, 1) := by decide +kernel
theorem d_Mo_readOffsets_103 : decode M_Mo_readOffsets.2.1 103 = .ok (.getfield 35, 3) := by decide +kernel
theorem d_Mo_readOffsets_106 : decode M_Mo_readOffsets.2.1 106 = .ok (.iload_n 2, 1) := by decide +kernel
theorem d_Mo_readOffsets_107 : decode M_Mo_readOffsets.2.1 107 = .ok (.iconst 2, 1) := by decide +kernel
theorem d_Mo_readOffsets_108 : decode M_Mo_readOffsets.2.1 108 = .ok (.iadd, 1) := by decide +kernel
theorem d_Mo_readOffsets_109 : decode M_Mo_readOffsets.2.1 109 = .ok (.iaload, 1) := by decide +kernel
theorem d_Mo_readOffsets_110 : decode M_Mo_readOffsets.2.1 110 = .ok (.imul, 1) := by decide +kernel
theorem d_Mo_readOffsets_111 : decode M_Mo_readOffsets.2.1 111 = .ok (.iadd, 1) := by decide +kernel
theorem d_Mo_readOffsets_112 : decode M_Mo_readOffsets.2.1 112 = .ok (.iadd, 1) := by decide +kernel
theorem d_Mo_readOffsets_113 : decode M_Mo_readOffsets.2.1 113 = .ok (.istore_n 2, 1) := by decide +kernel
theorem d_Mo_readOffsets_114 : decode M_Mo_readOffsets.2.1 114 = .ok (.iload_n 3, 1) := by decide +kernel
theorem d_Mo_readOffsets_115 : decode M_Mo_readOffsets.2.1 115 = .ok (.ifCond .eq 15, 3) := by decide +kernel
theorem d_Mo_readOffsets_118 : decode M_Mo_readOffsets.2.1 118 = .ok (.iload_n 2, 1) := by decide +kernel
theorem d_Mo_readOffsets_119 : decode M_Mo_readOffsets.2.1 119 = .ok (.aload_n 0, 1) := by decide +kernel
theorem d_Mo_readOffsets_120 : decode M_Mo_readOffsets.2.1 120 = .ok (.getfield 158, 3) := by decide +kernel
theorem d_Mo_readOffsets_123 : decode M_Mo_readOffsets.2.1 123 = .ok (.if_icmp .gt 7, 3) := by decide +kernel
theorem d_Mo_readOffsets_126 : decode M_Mo_readOffsets.2.1 126 = .ok (.iconst 1, 1) := by decide +kernel
theorem d_Mo_readOffsets_127 : decode M_Mo_readOffsets.2.1 127 = .ok (.goto 4, 3) := by decide +kernel
theorem d_Mo_readOffsets_130 : decode M_Mo_readOffsets.2.1 130 = .ok (.iconst 0, 1) := by decide +kernel
theorem d_Mo_readOffsets_131 : decode M_Mo_readOffsets.2.1 131 = .ok (.istore_n 3, 1) := by decide +kernel
theorem d_Mo_readOffsets_132 : decode M_Mo_readOffsets.2.1 132 = .ok (.iinc 4 1, 3) := by decide +kernel
theorem d_Mo_readOffsets_135 : decode M_Mo_readOffsets.2.1 135 = .ok (.goto (-121), 3) := by decide +kernel
theorem d_Mo_readOffsets_138 : decode M_Mo_readOffsets.2.1 138 = .ok (.return_, 1) := by decide +kernel
theorem d_Mo_two_0 : decode M_Mo_two.2.1 0 = .ok (.aload_n 0, 1) := by decide +kernel
theorem d_Mo_two_1 : decode M_Mo_two.2.1 1 = .ok (.iconst 0, 1) := by decide +kernel
theorem d_Mo_two_2 : decode M_Mo_two.2.1 2 = .ok (.sipush 255, 3) := by decide +kernel
theorem d_Mo_two_5 : decode M_Mo_two.2.1 5 = .ok (.iconst 1, 1) := by decide +kernel
theorem d_Mo_two_6 : decode M_Mo_two.2.1 6 = .ok (.invokevirtual 188, 3) := by decide +kernel
theorem d_Mo_two_9 : decode M_Mo_two.2.1 9 = .ok (.istore_n 1, 1) := by decide +kernel
theorem d_Mo_two_10 : decode M_Mo_two.2.1 10 = .ok (.iload_n 1, 1) := by decide +kernel
theorem d_Mo_two_11 : decode M_Mo_two.2.1 11 = .ok (.sipush 256, 3) := by decide +kernel
theorem d_Mo_two_14 : decode M_Mo_two.2.1 14 = .ok (.aload_n 0, 1) := by decide +kernel
theorem d_Mo_two_15 : decode M_Mo_two.2.1 15 = .ok (.iconst 0, 1) := by decide +kernel
theorem d_Mo_two_16 : decode M_Mo_two.2.1 16 = .ok (.sipush 255, 3) := by decide +kernel
theorem d_Mo_two_19 : decode M_Mo_two.2.1 19 = .ok (.iconst 1, 1) := by decide +kernel
theorem d_Mo_two_20 : decode M_Mo_two.2.1 20 = .ok (.invokevirtual 188, 3) := by decide +kernel
theorem d_Mo_two_23 : decode M_Mo_two.2.1 23 = .ok (.imul, 1) := by decide +kernel
theorem d_Mo_two_24 : decode M_Mo_two.2.1 24 = .ok (.iadd, 1) := by decide +kernel
theorem d_Mo_two_25 : decode M_Mo_two.2.1 25 = .ok (.ireturn, 1) := by decide +kernel
theorem d_Mo_readChunk_0 : decode M_Mo_readChunk.2.1 0 = .ok (.aload_n 0, 1) := by decide +kernel
theorem d_Mo_readChunk_1 : decode M_Mo_readChunk.2.1 1 = .ok (.getfield 182, 3) := by decide +kernel
theorem d_Mo_readChunk_4 : decode M_Mo_readChunk.2.1 4 = .ok (.istore_n 3, 1) := by decide +kernel
theorem d_Mo_readChunk_5 : decode M_Mo_readChunk.2.1 5 = .ok (.aload_n 0, 1) := by decide +kernel
theorem d_Mo_readChunk_6 : decode M_Mo_readChunk.2.1 6 = .ok (.iload_n 1, 1) := by decide +kernel
theorem d_Mo_readChunk_7 : decode M_Mo_readChunk.2.1 7 = .ok (.iload_n 2, 1) := by decide +kernel
theorem d_Mo_readChunk_8 : decode M_Mo_readChunk.2.1 8 = .ok (.invokevirtual 221, 3) := by decide +kernel
theorem d_Mo_readChunk_11 : decode M_Mo_readChunk.2.1 11 = .ok (.istore 4, 2) := by decide +kernel
theorem d_Mo_readChunk_13 : decode M_Mo_readChunk.2.1 13 = .ok (.aload_n 0, 1) := by decide +kernel
theorem d_Mo_readChunk_14 : decode M_Mo_readChunk.2.1 14 = .ok (.iload_n 1, 1) := by decide +kernel
theorem d_Mo_readChunk_15 : decode M_Mo_readChunk.2.1 15 = .ok (.iload_n 1, 1) := by decide +kernel
theorem d_Mo_readChunk_16 : decode M_Mo_readChunk.2.1 16 = .ok (.iconst 1, 1) := by decide +kernel
theorem d_Mo_readChunk_17 : decode M_Mo_readChunk.2.1 17 = .ok (.invokevirtual 188, 3) := by decide +kernel
theorem d_Mo_readChunk_20 : decode M_Mo_readChunk.2.1 20 = .ok (.pop, 1) := by decide +kernel
theorem d_Mo_readChunk_21 : decode M_Mo_readChunk.2.1 21 = .ok (.aload_n 0, 1) := by decide +kernel
theorem d_Mo_readChunk_22 : decode M_Mo_readChunk.2.1 22 = .ok (.getfield 182, 3) := by decide +kernel
theorem d_Mo_readChunk_25 : decode M_Mo_readChunk.2.1 25 = .ok (.istore 5, 2) := by decide +kernel
theorem d_Mo_readChunk_27 : decode M_Mo_readChunk.2.1 27 = .ok (.aload_n 0, 1) := by decide +kernel
theorem d_Mo_readChunk_28 : decode M_Mo_readChunk.2.1 28 = .ok (.invokevirtual 203, 3) := by decide +kernel
theorem d_Mo_readChunk_31 : decode M_Mo_readChunk.2.1 31 = .ok (.istore 6, 2) := by decide +kernel
theorem d_Mo_readChunk_33 : decode M_Mo_readChunk.2.1 33 = .ok (.aload_n 0, 1) := by decide +kernel
theorem d_Mo_readChunk_34 : decode M_Mo_readChunk.2.1 34 = .ok (.getfield 179, 3) := by decide +kernel
theorem d_Mo_readChunk_37 : decode M_Mo_readChunk.2.1 37 = .ok (.ifCond .ne 34, 3) := by decide +kernel
theorem d_Mo_readChunk_40 : decode M_Mo_readChunk.2.1 40 = .ok (.aload_n 0, 1) := by decide +kernel
theorem d_Mo_readChunk_41 : decode M_Mo_readChunk.2.1 41 = .ok (.getfield 197, 3) := by decide +kernel
theorem d_Mo_readChunk_44 : decode M_Mo_readChunk.2.1 44 = .ok (.ifCond .ne 13, 3) := by decide +kernel
theorem d_Mo_readChunk_47 : decode M_Mo_readChunk.2.1 47 = .ok (.iload 6, 2) := by decide +kernel
theorem d_Mo_readChunk_49 : decode M_Mo_readChunk.2.1 49 = .ok (.iload 4, 2) := by decide +kernel
theorem d_Mo_readChunk_51 : decode M_Mo_readChunk.2.1 51 = .ok (.if_icmp .eq 20, 3) := by decide +kernel
theorem d_Mo_readChunk_54 : decode M_Mo_readChunk.2.1 54 = .ok (.goto 10, 3) := by decide +kernel
theorem d_Mo_readChunk_57 : decode M_Mo_readChunk.2.1 57 = .ok (.iload 6, 2) := by decide +kernel
theorem d_Mo_readChunk_59 : decode M_Mo_readChunk.2.1 59 = .ok (.iload 4, 2) := by decide +kernel
theorem d_Mo_readChunk_61 : decode M_Mo_readChunk.2.1 61 = .ok (.if_icmp .le 10, 3) := by decide +kernel
theorem d_Mo_readChunk_64 : decode M_Mo_readChunk.2.1 64 = .ok (.aload_n 0, 1) := by decide +kernel
theorem d_Mo_readChunk_65 : decode M_Mo_readChunk.2.1 65 = .ok (.iload 5, 2) := by decide +kernel
theorem d_Mo_readChunk_67 : decode M_Mo_readChunk.2.1 67 = .ok (.iconst 1, 1) := by decide +kernel
theorem d_Mo_readChunk_68 : decode M_Mo_readChunk.2.1 68 = .ok (.invokevirtual 185, 3) := by decide +kernel
theorem d_Mo_readChunk_71 : decode M_Mo_readChunk.2.1 71 = .ok (.aload_n 0, 1) := by decide +kernel
theorem d_Mo_readChunk_72 : decode M_Mo_readChunk.2.1 72 = .ok (.getfield 179, 3) := by decide +kernel
theorem d_Mo_readChunk_75 : decode M_Mo_readChunk.2.1 75 = .ok (.ifCond .ne 26, 3) := by decide +kernel
theorem d_Mo_readChunk_78 : decode M_Mo_readChunk.2.1 78 = .ok (.aload_n 0, 1) := by decide +kernel
theorem d_Mo_readChunk_79 : decode M_Mo_readChunk.2.1 79 = .ok (.getfield 182, 3) := by decide +kernel
theorem d_Mo_readChunk_82 : decode M_Mo_readChunk.2.1 82 = .ok (.iload 6, 2) := by decide +kernel
theorem d_Mo_readChunk_84 : decode M_Mo_readChunk.2.1 84 = .ok (.iadd, 1) := by decide +kernel
theorem d_Mo_readChunk_85 : decode M_Mo_readChunk.2.1 85 = .ok (.aload_n 0, 1) := by decide +kernel
theorem d_Mo_readChunk_86 : decode M_Mo_readChunk.2.1 86 = .ok (.getfield 158, 3) := by decide +kernel
theorem d_Mo_readChunk_89 : decode M_Mo_readChunk.2.1 89 = .ok (.if_icmp .le 12, 3) := by decide +kernel
theorem d_Mo_readChunk_92 : decode M_Mo_readChunk.2.1 92 = .ok (.aload_n 0, 1) := by decide +kernel
theorem d_Mo_readChunk_93 : decode M_Mo_readChunk.2.1 93 = .ok (.aload_n 0, 1) := by decide +kernel
theorem d_Mo_readChunk_94 : decode M_Mo_readChunk.2.1 94 = .ok (.getfield 158, 3) := by decide +kernel
theorem d_Mo_readChunk_97 : decode M_Mo_readChunk.2.1 97 = .ok (.iconst 1, 1) := by decide +kernel
theorem d_Mo_readChunk_98 : decode M_Mo_readChunk.2.1 98 = .ok (.invokevirtual 185, 3) := by decide +kernel
theorem d_Mo_readChunk_101 : decode M_Mo_readChunk.2.1 101 = .ok (.aload_n 0, 1) := by decide +kernel
theorem d_Mo_readChunk_102 : decode M_Mo_readChunk.2.1 102 = .ok (.getfield 179, 3) := by decide +kernel
theorem d_Mo_readChunk_105 : decode M_Mo_readChunk.2.1 105 = .ok (.ifCond .le 4, 3) := by decide +kernel
theorem d_Mo_readChunk_108 : decode M_Mo_readChunk.2.1 108 = .ok (.return_, 1) := by decide +kernel
theorem d_Mo_readChunk_109 : decode M_Mo_readChunk.2.1 109 = .ok (.aload_n 0, 1) := by decide +kernel
theorem d_Mo_readChunk_110 : decode M_Mo_readChunk.2.1 110 = .ok (.getfield 182, 3) := by decide +kernel
theorem d_Mo_readChunk_113 : decode M_Mo_readChunk.2.1 113 = .ok (.iload 6, 2) := by decide +kernel
theorem d_Mo_readChunk_115 : decode M_Mo_readChunk.2.1 115 = .ok (.iadd, 1) := by decide +kernel
theorem d_Mo_readChunk_116 : decode M_Mo_readChunk.2.1 116 = .ok (.istore 7, 2) := by decide +kernel
theorem d_Mo_readChunk_118 : decode M_Mo_readChunk.2.1 118 = .ok (.iload 6, 2) := by decide +kernel
theorem d_Mo_readChunk_120 : decode M_Mo_readChunk.2.1 120 = .ok (.iload 4, 2) := by decide +kernel
theorem d_Mo_readChunk_122 : decode M_Mo_readChunk.2.1 122 = .ok (.if_icmp .ne 48, 3) := by decide +kernel
theorem d_Mo_readChunk_125 : decode M_Mo_readChunk.2.1 125 = .ok (.iconst 0, 1) := by decide +kernel
theorem d_Mo_readChunk_126 : decode M_Mo_readChunk.2.1 126 = .ok (.istore 8, 2) := by decide +kernel
theorem d_Mo_readChunk_128 : decode M_Mo_readChunk.2.1 128 = .ok (.iload 8, 2) := by decide +kernel
theorem d_Mo_readChunk_130 : decode M_Mo_readChunk.2.1 130 = .ok (.iload 4, 2) := by decide +kernel
theorem d_Mo_readChunk_132 : decode M_Mo_readChunk.2.1 132 = .ok (.if_icmp .ge 28, 3) := by decide +kernel
theorem d_Mo_readChunk_135 : decode M_Mo_readChunk.2.1 135 = .ok (.aload_n 0, 1) := by decide +kernel
theorem d_Mo_readChunk_136 : decode M_Mo_readChunk.2.1 136 = .ok (.getfield 50, 3) := by decide +kernel
theorem d_Mo_readChunk_139 : decode M_Mo_readChunk.2.1 139 = .ok (.iload 8, 2) := by decide +kernel
theorem d_Mo_readChunk_141 : decode M_Mo_readChunk.2.1 141 = .ok (.aload_n 0, 1) := by decide +kernel
theorem d_Mo_readChunk_142 : decode M_Mo_readChunk.2.1 142 = .ok (.getfield 35, 3) := by decide +kernel
theorem d_Mo_readChunk_145 : decode M_Mo_readChunk.2.1 145 = .ok (.aload_n 0, 1) := by decide +kernel
theorem d_Mo_readChunk_146 : decode M_Mo_readChunk.2.1 146 = .ok (.getfield 182, 3) := by decide +kernel
theorem d_Mo_readChunk_149 : decode M_Mo_readChunk.2.1 149 = .ok (.iload 8, 2) := by decide +kernel
theorem d_Mo_readChunk_151 : decode M_Mo_readChunk.2.1 151 = .ok (.iadd, 1) := by decide +kernel
theorem d_Mo_readChunk_152 : decode M_Mo_readChunk.2.1 152 = .ok (.iaload, 1) := by decide +kernel
theorem d_Mo_readChunk_153 : decode M_Mo_readChunk.2.1 153 = .ok (.iastore, 1) := by decide +kernel
theorem d_Mo_readChunk_154 : decode M_Mo_readChunk.2.1 154 = .ok (.iinc 8 1, 3) := by decide +kernel
theorem d_Mo_readChunk_157 : decode M_Mo_readChunk.2.1 157 = .ok (.goto (-29), 3) := by decide +kernel
theorem d_Mo_readChunk_160 : decode M_Mo_readChunk.2.1 160 = .ok (.aload_n 0, 1) := by decide +kernel
theorem d_Mo_readChunk_161 : decode M_Mo_readChunk.2.1 161 = .ok (.iload_n 1, 1) := by decide +kernel
theorem d_Mo_readChunk_162 : decode M_Mo_readChunk.2.1 162 = .ok (.iload_n 2, 1) := by decide +kernel
theorem d_Mo_readChunk_163 : decode M_Mo_readChunk.2.1 163 = .ok (.iconst 0, 1) := by decide +kernel
theorem d_Mo_readChunk_164 : decode M_Mo_readChunk.2.1 164 = .ok (.invokevirtual 224, 3) := by decide +kernel
theorem d_Mo_readChunk_167 : decode M_Mo_readChunk.2.1 167 = .ok (.goto 55, 3) := by decide +kernel
theorem d_Mo_readChunk_170 : decode M_Mo_readChunk.2.1 170 = .ok (.aload_n 0, 1) := by decide +kernel
theorem d_Mo_readChunk_171 : decode M_Mo_readChunk.2.1 171 = .ok (.iload 7, 2) := by decide +kernel
theorem d_Mo_readChunk_173 : decode M_Mo_readChunk.2.1 173 = .ok (.iload 4, 2) := by decide +kernel
theorem d_Mo_readChunk_175 : decode M_Mo_readChunk.2.1 175 = .ok (.invokevirtual 228, 3) := by decide +kernel
theorem d_Mo_readChunk_178 : decode M_Mo_readChunk.2.1 178 = .ok (.aload_n 0, 1) := by decide +kernel
theorem d_Mo_readChunk_179 : decode M_Mo_readChunk.2.1 179 = .ok (.getfield 179, 3) := by decide +kernel
theorem d_Mo_readChunk_182 : decode M_Mo_readChunk.2.1 182 = .ok (.ifCond .le 4, 3) := by decide +kernel
theorem d_Mo_readChunk_185 : decode M_Mo_readChunk.2.1 185 = .ok (.return_, 1) := by decide +kernel
theorem d_Mo_readChunk_186 : decode M_Mo_readChunk.2.1 186 = .ok (.aload_n 0, 1) := by decide +kernel
theorem d_Mo_readChunk_187 : decode M_Mo_readChunk.2.1 187 = .ok (.getfield 197, 3) := by decide +kernel
theorem d_Mo_readChunk_190 : decode M_Mo_readChunk.2.1 190 = .ok (.iconst 3, 1) := by decide +kernel
theorem d_Mo_readChunk_191 : decode M_Mo_readChunk.2.1 191 = .ok (.if_icmp .ne 12, 3) := by decide +kernel
theorem d_Mo_readChunk_194 : decode M_Mo_readChunk.2.1 194 = .ok (.aload_n 0, 1) := by decide +kernel
theorem d_Mo_readChunk_195 : decode M_Mo_readChunk.2.1 195 = .ok (.iload_n 1, 1) := by decide +kernel
theorem d_Mo_readChunk_196 : decode M_Mo_readChunk.2.1 196 = .ok (.iload_n 2, 1) := by decide +kernel
theorem d_Mo_readChunk_197 : decode M_Mo_readChunk.2.1 197 = .ok (.invokevirtual 231, 3) := by decide +kernel
theorem d_Mo_readChunk_200 : decode M_Mo_readChunk.2.1 200 = .ok (.goto 22, 3) := by decide +kernel
theorem d_Mo_readChunk_203 : decode M_Mo_readChunk.2.1 203 = .ok (.aload_n 0, 1) := by decide +kernel
theorem d_Mo_readChunk_204 : decode M_Mo_readChunk.2.1 204 = .ok (.iload_n 1, 1) := by decide +kernel
theorem d_Mo_readChunk_205 : decode M_Mo_readChunk.2.1 205 = .ok (.iload_n 2, 1) := by decide +kernel
theorem d_Mo_readChunk_206 : decode M_Mo_readChunk.2.1 206 = .ok (.aload_n 0, 1) := by decide +kernel
theorem d_Mo_readChunk_207 : decode M_Mo_readChunk.2.1 207 = .ok (.getfield 197, 3) := by decide +kernel
theorem d_Mo_readChunk_210 : decode M_Mo_readChunk.2.1 210 = .ok (.iconst 2, 1) := by decide +kernel
theorem d_Mo_readChunk_211 : decode M_Mo_readChunk.2.1 211 = .ok (.if_icmp .ne 7, 3) := by decide +kernel
theorem d_Mo_readChunk_214 : decode M_Mo_readChunk.2.1 214 = .ok (.iconst 1, 1) := by decide +kernel
theorem d_Mo_readChunk_215 : decode M_Mo_readChunk.2.1 215 = .ok (.goto 4, 3) := by decide +kernel
theorem d_Mo_readChunk_218 : decode M_Mo_readChunk.2.1 218 = .ok (.iconst 0, 1) := by decide +kernel
theorem d_Mo_readChunk_219 : decode M_Mo_readChunk.2.1 219 = .ok (.invokevirtual 224, 3) := by decide +kernel
theorem d_Mo_readChunk_222 : decode M_Mo_readChunk.2.1 222 = .ok (.aload_n 0, 1) := by decide +kernel
theorem d_Mo_readChunk_223 : decode M_Mo_readChunk.2.1 223 = .ok (.iload 7, 2) := by decide +kernel
theorem d_Mo_readChunk_225 : decode M_Mo_readChunk.2.1 225 = .ok (.putfield 182, 3) := by decide +kernel
theorem d_Mo_readChunk_228 : decode M_Mo_readChunk.2.1 228 = .ok (.aload_n 0, 1) := by decide +kernel
theorem d_Mo_readChunk_229 : decode M_Mo_readChunk.2.1 229 = .ok (.iload_n 1, 1) := by decide +kernel
theorem d_Mo_readChunk_230 : decode M_Mo_readChunk.2.1 230 = .ok (.iload_n 2, 1) := by decide +kernel
theorem d_Mo_readChunk_231 : decode M_Mo_readChunk.2.1 231 = .ok (.invokevirtual 234, 3) := by decide +kernel
theorem d_Mo_readChunk_234 : decode M_Mo_readChunk.2.1 234 = .ok (.istore 8, 2) := by decide +kernel
theorem d_Mo_readChunk_236 : decode M_Mo_readChunk.2.1 236 = .ok (.iload 8, 2) := by decide +kernel
theorem d_Mo_readChunk_238 : decode M_Mo_readChunk.2.1 238 = .ok (.ifCond .ne 9, 3) := by decide +kernel
theorem d_Mo_readChunk_241 : decode M_Mo_readChunk.2.1 241 = .ok (.aload_n 0, 1) := by decide +kernel
theorem d_Mo_readChunk_242 : decode M_Mo_readChunk.2.1 242 = .ok (.iload_n 3, 1) := by decide +kernel
theorem d_Mo_readChunk_243 : decode M_Mo_readChunk.2.1 243 = .ok (.iconst 1, 1) := by decide +kernel
theorem d_Mo_readChunk_244 : decode M_Mo_readChunk.2.1 244 = .ok (.invokevirtual 185, 3) := by decide +kernel
theorem d_Mo_readChunk_247 : decode M_Mo_readChunk.2.1 247 = .ok (.return_, 1) := by decide +kernel
theorem d_Mo_wanted_0 : decode M_Mo_wanted.2.1 0 = .ok (.iconst 0, 1) := by decide +kernel
theorem d_Mo_wanted_1 : decode M_Mo_wanted.2.1 1 = .ok (.istore_n 3, 1) := by decide +kernel
theorem d_Mo_wanted_2 : decode M_Mo_wanted.2.1 2 = .ok (.iconst 0, 1) := by decide +kernel
theorem d_Mo_wanted_3 : decode M_Mo_wanted.2.1 3 = .ok (.istore 4, 2) := by decide +kernel
theorem d_Mo_wanted_5 : decode M_Mo_wanted.2.1 5 = .ok (.iload 4, 2) := by decide +kernel
theorem d_Mo_wanted_7 : decode M_Mo_wanted.2.1 7 = .ok (.aload_n 0, 1) := by decide +kernel
theorem d_Mo_wanted_8 : decode M_Mo_wanted.2.1 8 = .ok (.getfield 200, 3) := by decide +kernel
theorem d_Mo_wanted_11 : decode M_Mo_wanted.2.1 11 = .ok (.if_icmp .ge 68, 3) := by decide +kernel
theorem d_Mo_wanted_14 : decode M_Mo_wanted.2.1 14 = .ok (.iload_n 3, 1) := by decide +kernel
theorem d_Mo_wanted_15 : decode M_Mo_wanted.2.1 15 = .ok (.aload_n 0, 1) := by decide +kernel
theorem d_Mo_wanted_16 : decode M_Mo_wanted.2.1 16 = .ok (.getfield 191, 3) := by decide +kernel
theorem d_Mo_wanted_19 : decode M_Mo_wanted.2.1 19 = .ok (.aload_n 0, 1) := by decide +kernel
theorem d_Mo_wanted_20 : decode M_Mo_wanted.2.1 20 = .ok (.getfield 44, 3) := by decide +kernel
theorem d_Mo_wanted_23 : decode M_Mo_wanted.2.1 23 = .ok (.iload 4, 2) := by decide +kernel
theorem d_Mo_wanted_25 : decode M_Mo_wanted.2.1 25 = .ok (.iaload, 1) := by decide +kernel
theorem d_Mo_wanted_26 : decode M_Mo_wanted.2.1 26 = .ok (.invokestatic 131, 3) := by decide +kernel
theorem d_Mo_wanted_29 : decode M_Mo_wanted.2.1 29 = .ok (.iload_n 1, 1) := by decide +kernel
theorem d_Mo_wanted_30 : decode M_Mo_wanted.2.1 30 = .ok (.iload_n 2, 1) := by decide +kernel
theorem d_Mo_wanted_31 : decode M_Mo_wanted.2.1 31 = .ok (.aload_n 0, 1) := by decide +kernel
theorem d_Mo_wanted_32 : decode M_Mo_wanted.2.1 32 = .ok (.getfield 44, 3) := by decide +kernel
theorem d_Mo_wanted_35 : decode M_Mo_wanted.2.1 35 = .ok (.iload 4, 2) := by decide +kernel
theorem d_Mo_wanted_37 : decode M_Mo_wanted.2.1 37 = .ok (.iaload, 1) := by decide +kernel
theorem d_Mo_wanted_38 : decode M_Mo_wanted.2.1 38 = .ok (.invokestatic 135, 3) := by decide +kernel
theorem d_Mo_wanted_41 : decode M_Mo_wanted.2.1 41 = .ok (.imul, 1) := by decide +kernel
theorem d_Mo_wanted_42 : decode M_Mo_wanted.2.1 42 = .ok (.aload_n 0, 1) := by decide +kernel
theorem d_Mo_wanted_43 : decode M_Mo_wanted.2.1 43 = .ok (.getfield 41, 3) := by decide +kernel
theorem d_Mo_wanted_46 : decode M_Mo_wanted.2.1 46 = .ok (.iload 4, 2) := by decide +kernel
theorem d_Mo_wanted_48 : decode M_Mo_wanted.2.1 48 = .ok (.iaload, 1) := by decide +kernel
theorem d_Mo_wanted_49 : decode M_Mo_wanted.2.1 49 = .ok (.iconst 1, 1) := by decide +kernel
theorem d_Mo_wanted_50 : decode M_Mo_wanted.2.1 50 = .ok (.if_icmp .eq 7, 3) := by decide +kernel
theorem d_Mo_wanted_53 : decode M_Mo_wanted.2.1 53 = .ok (.iconst 2, 1) := by decide +kernel
theorem d_Mo_wanted_54 : decode M_Mo_wanted.2.1 54 = .ok (.goto 16, 3) := by decide +kernel
theorem d_Mo_wanted_57 : decode M_Mo_wanted.2.1 57 = .ok (.aload_n 0, 1) := by decide +kernel
theorem d_Mo_wanted_58 : decode M_Mo_wanted.2.1 58 = .ok (.getfield 197, 3) := by decide +kernel
theorem d_Mo_wanted_61 : decode M_Mo_wanted.2.1 61 = .ok (.iconst 2, 1) := by decide +kernel
theorem d_Mo_wanted_62 : decode M_Mo_wanted.2.1 62 = .ok (.if_icmp .ne 7, 3) := by decide +kernel
theorem d_Mo_wanted_65 : decode M_Mo_wanted.2.1 65 = .ok (.iconst 3, 1) := by decide +kernel
theorem d_Mo_wanted_66 : decode M_Mo_wanted.2.1 66 = .ok (.goto 4, 3) := by decide +kernel
theorem d_Mo_wanted_69 : decode M_Mo_wanted.2.1 69 = .ok (.iconst 4, 1) := by decide +kernel
theorem d_Mo_wanted_70 : decode M_Mo_wanted.2.1 70 = .ok (.imul, 1) := by decide +kernel
theorem d_Mo_wanted_71 : decode M_Mo_wanted.2.1 71 = .ok (.iadd, 1) := by decide +kernel
theorem d_Mo_wanted_72 : decode M_Mo_wanted.2.1 72 = .ok (.istore_n 3, 1) := by decide +kernel
theorem d_Mo_wanted_73 : decode M_Mo_wanted.2.1 73 = .ok (.iinc 4 1, 3) := by decide +kernel
theorem d_Mo_wanted_76 : decode M_Mo_wanted.2.1 76 = .ok (.goto (-71), 3) := by decide +kernel
theorem d_Mo_wanted_79 : decode M_Mo_wanted.2.1 79 = .ok (.iload_n 3, 1) := by decide +kernel
theorem d_Mo_wanted_80 : decode M_Mo_wanted.2.1 80 = .ok (.ireturn, 1) := by decide +kernel
theorem d_Mo_scatter_0 : decode M_Mo_scatter.2.1 0 = .ok (.aload_n 0, 1) := by decide +kernel
theorem d_Mo_scatter_1 : decode M_Mo_scatter.2.1 1 = .ok (.iconst 0, 1) := by decide +kernel
theorem d_Mo_scatter_2 : decode M_Mo_scatter.2.1 2 = .ok (.putfield 207, 3) := by decide +kernel
theorem d_Mo_scatter_5 : decode M_Mo_scatter.2.1 5 = .ok (.iload_n 1, 1) := by decide +kernel
theorem d_Mo_scatter_6 : decode M_Mo_scatter.2.1 6 = .ok (.istore 4, 2) := by decide +kernel
theorem d_Mo_scatter_8 : decode M_Mo_scatter.2.1 8 = .ok (.iload 4, 2) := by decide +kernel
theorem d_Mo_scatter_10 : decode M_Mo_scatter.2.1 10 = .ok (.iload_n 1, 1) := by decide +kernel
theorem d_Mo_scatter_11 : decode M_Mo_scatter.2.1 11 = .ok (.iload_n 2, 1) := by decide +kernel
theorem d_Mo_scatter_12 : decode M_Mo_scatter.2.1 12 = .ok (.iadd, 1) := by decide +kernel
theorem d_Mo_scatter_13 : decode M_Mo_scatter.2.1 13 = .ok (.if_icmp .ge 180, 3) := by decide +kernel
theorem d_Mo_scatter_16 : decode M_Mo_scatter.2.1 16 = .ok (.iconst 0, 1) := by decide +kernel
theorem d_Mo_scatter_17 : decode M_Mo_scatter.2.1 17 = .ok (.istore 5, 2) := by decide +kernel
theorem d_Mo_scatter_19 : decode M_Mo_scatter.2.1 19 = .ok (.iload 5, 2) := by decide +kernel
theorem d_Mo_scatter_21 : decode M_Mo_scatter.2.1 21 = .ok (.aload_n 0, 1) := by decide +kernel
theorem d_Mo_scatter_22 : decode M_Mo_scatter.2.1 22 = .ok (.getfield 200, 3) := by decide +kernel
theorem d_Mo_scatter_25 : decode M_Mo_scatter.2.1 25 = .ok (.if_icmp .ge 162, 3) := by decide +kernel
theorem d_Mo_scatter_28 : decode M_Mo_scatter.2.1 28 = .ok (.iload 4, 2) := by decide +kernel
theorem d_Mo_scatter_30 : decode M_Mo_scatter.2.1 30 = .ok (.aload_n 0, 1) := by decide +kernel
theorem d_Mo_scatter_31 : decode M_Mo_scatter.2.1 31 = .ok (.getfield 44, 3) := by decide +kernel
theorem d_Mo_scatter_34 : decode M_Mo_scatter.2.1 34 = .ok (.iload 5, 2) := by decide +kernel
theorem d_Mo_scatter_36 : decode M_Mo_scatter.2.1 36 = .ok (.iaload, 1) := by decide +kernel
theorem d_Mo_scatter_37 : decode M_Mo_scatter.2.1 37 = .ok (.irem, 1) := by decide +kernel
theorem d_Mo_scatter_38 : decode M_Mo_scatter.2.1 38 = .ok (.ifCond .eq 6, 3) := by decide +kernel
theorem d_Mo_scatter_41 : decode M_Mo_scatter.2.1 41 = .ok (.goto 140, 3) := by decide +kernel
theorem d_Mo_scatter_44 : decode M_Mo_scatter.2.1 44 = .ok (.iconst 0, 1) := by decide +kernel
theorem d_Mo_scatter_45 : decode M_Mo_scatter.2.1 45 = .ok (.istore 6, 2) := by decide +kernel
theorem d_Mo_scatter_47 : decode M_Mo_scatter.2.1 47 = .ok (.aload_n 0, 1) := by decide +kernel
theorem d_Mo_scatter_48 : decode M_Mo_scatter.2.1 48 = .ok (.getfield 41, 3) := by decide +kernel
theorem d_Mo_scatter_51 : decode M_Mo_scatter.2.1 51 = .ok (.iload 5, 2) := by decide +kernel
theorem d_Mo_scatter_53 : decode M_Mo_scatter.2.1 53 = .ok (.iaload, 1) := by decide +kernel
theorem d_Mo_scatter_54 : decode M_Mo_scatter.2.1 54 = .ok (.iconst 1, 1) := by decide +kernel
theorem d_Mo_scatter_55 : decode M_Mo_scatter.2.1 55 = .ok (.if_icmp .eq 7, 3) := by decide +kernel
theorem d_Mo_scatter_58 : decode M_Mo_scatter.2.1 58 = .ok (.iconst 2, 1) := by decide +kernel
theorem d_Mo_scatter_59 : decode M_Mo_scatter.2.1 59 = .ok (.goto 16, 3) := by decide +kernel
theorem d_Mo_scatter_62 : decode M_Mo_scatter.2.1 62 = .ok (.aload_n 0, 1) := by decide +kernel
theorem d_Mo_scatter_63 : decode M_Mo_scatter.2.1 63 = .ok (.getfield 197, 3) := by decide +kernel
theorem d_Mo_scatter_66 : decode M_Mo_scatter.2.1 66 = .ok (.iconst 2, 1) := by decide +kernel
theorem d_Mo_scatter_67 : decode M_Mo_scatter.2.1 67 = .ok (.if_icmp .ne 7, 3) := by decide +kernel
theorem d_Mo_scatter_70 : decode M_Mo_scatter.2.1 70 = .ok (.iconst 3, 1) := by decide +kernel
theorem d_Mo_scatter_71 : decode M_Mo_scatter.2.1 71 = .ok (.goto 4, 3) := by decide +kernel
theorem d_Mo_scatter_74 : decode M_Mo_scatter.2.1 74 = .ok (.iconst 4, 1) := by decide +kernel
theorem d_Mo_scatter_75 : decode M_Mo_scatter.2.1 75 = .ok (.istore 7, 2) := by decide +kernel
theorem d_Mo_scatter_77 : decode M_Mo_scatter.2.1 77 = .ok (.iconst 0, 1) := by decide +kernel
theorem d_Mo_scatter_78 : decode M_Mo_scatter.2.1 78 = .ok (.istore 8, 2) := by decide +kernel
theorem d_Mo_scatter_80 : decode M_Mo_scatter.2.1 80 = .ok (.iload 8, 2) := by decide +kernel
theorem d_Mo_scatter_82 : decode M_Mo_scatter.2.1 82 = .ok (.aload_n 0, 1) := by decide +kernel
theorem d_Mo_scatter_83 : decode M_Mo_scatter.2.1 83 = .ok (.getfield 191, 3) := by decide +kernel
theorem d_Mo_scatter_86 : decode M_Mo_scatter.2.1 86 = .ok (.if_icmp .ge 95, 3) := by decide +kernel
theorem d_Mo_scatter_89 : decode M_Mo_scatter.2.1 89 = .ok (.aload_n 0, 1) := by decide +kernel
theorem d_Mo_scatter_90 : decode M_Mo_scatter.2.1 90 = .ok (.iload 7, 2) := by decide +kernel
theorem d_Mo_scatter_92 : decode M_Mo_scatter.2.1 92 = .ok (.invokevirtual 210, 3) := by decide +kernel
theorem d_Mo_scatter_95 : decode M_Mo_scatter.2.1 95 = .ok (.istore 9, 2) := by decide +kernel
theorem d_Mo_scatter_97 : decode M_Mo_scatter.2.1 97 = .ok (.iload_n 3, 1) := by decide +kernel
theorem d_Mo_scatter_98 : decode M_Mo_scatter.2.1 98 = .ok (.ifCond .eq 29, 3) := by decide +kernel
theorem d_Mo_scatter_101 : decode M_Mo_scatter.2.1 101 = .ok (.iload 8, 2) := by decide +kernel
theorem d_Mo_scatter_103 : decode M_Mo_scatter.2.1 103 = .ok (.ifCond .le 24, 3) := by decide +kernel
theorem d_Mo_scatter_106 : decode M_Mo_scatter.2.1 106 = .ok (.iload 9, 2) := by decide +kernel
theorem d_Mo_scatter_108 : decode M_Mo_scatter.2.1 108 = .ok (.iload 6, 2) := by decide +kernel
theorem d_Mo_scatter_110 : decode M_Mo_scatter.2.1 110 = .ok (.iadd, 1) := by decide +kernel
theorem d_Mo_scatter_111 : decode M_Mo_scatter.2.1 111 = .ok (.iload 7, 2) := by decide +kernel
theorem d_Mo_scatter_113 : decode M_Mo_scatter.2.1 113 = .ok (.iconst 2, 1) := by decide +kernel
theorem d_Mo_scatter_114 : decode M_Mo_scatter.2.1 114 = .ok (.if_icmp .ne 8, 3) := by decide +kernel
theorem d_Mo_scatter_117 : decode M_Mo_scatter.2.1 117 = .ok (.ldc 72, 2) := by decide +kernel
theorem d_Mo_scatter_119 : decode M_Mo_scatter.2.1 119 = .ok (.goto 5, 3) := by decide +kernel
theorem d_Mo_scatter_122 : decode M_Mo_scatter.2.1 122 = .ok (.ldc 213, 2) := by decide +kernel
theorem d_Mo_scatter_124 : decode M_Mo_scatter.2.1 124 = .ok (.iand, 1) := by decide +kernel
theorem d_Mo_scatter_125 : decode M_Mo_scatter.2.1 125 = .ok (.istore 9, 2) := by decide +kernel
theorem d_Mo_scatter_127 : decode M_Mo_scatter.2.1 127 = .ok (.iload 9, 2) := by decide +kernel
theorem d_Mo_scatter_129 : decode M_Mo_scatter.2.1 129 = .ok (.istore 6, 2) := by decide +kernel
theorem d_Mo_scatter_131 : decode M_Mo_scatter.2.1 131 = .ok (.aload_n 0, 1) := by decide +kernel
theorem d_Mo_scatter_132 : decode M_Mo_scatter.2.1 132 = .ok (.getfield 47, 3) := by decide +kernel
theorem d_Mo_scatter_135 : decode M_Mo_scatter.2.1 135 = .ok (.bipush 64, 2) := by decide +kernel
theorem d_Mo_scatter_137 : decode M_Mo_scatter.2.1 137 = .ok (.iload 5, 2) := by decide +kernel
theorem d_Mo_scatter_139 : decode M_Mo_scatter.2.1 139 = .ok (.imul, 1) := by decide +kernel
theorem d_Mo_scatter_140 : decode M_Mo_scatter.2.1 140 = .ok (.bipush 8, 2) := by decide +kernel
theorem d_Mo_scatter_142 : decode M_Mo_scatter.2.1 142 = .ok (.iload 4, 2) := by decide +kernel
theorem d_Mo_scatter_144 : decode M_Mo_scatter.2.1 144 = .ok (.imul, 1) := by decide +kernel
theorem d_Mo_scatter_145 : decode M_Mo_scatter.2.1 145 = .ok (.iadd, 1) := by decide +kernel
theorem d_Mo_scatter_146 : decode M_Mo_scatter.2.1 146 = .ok (.iload 8, 2) := by decide +kernel
theorem d_Mo_scatter_148 : decode M_Mo_scatter.2.1 148 = .ok (.iadd, 1) := by decide +kernel
theorem d_Mo_scatter_149 : decode M_Mo_scatter.2.1 149 = .ok (.iload 7, 2) := by decide +kernel
theorem d_Mo_scatter_151 : decode M_Mo_scatter.2.1 151 = .ok (.iconst 3, 1) := by decide +kernel
theorem d_Mo_scatter_152 : decode M_Mo_scatter.2.1 152 = .ok (.if_icmp .ne 11, 3) := by decide +kernel
theorem d_Mo_scatter_155 : decode M_Mo_scatter.2.1 155 = .ok (.iload 9, 2) := by decide +kernel
theorem d_Mo_scatter_157 : decode M_Mo_scatter.2.1 157 = .ok (.bipush 8, 2) := by decide +kernel
theorem d_Mo_scatter_159 : decode M_Mo_scatter.2.1 159 = .ok (.ishl, 1) := by decide +kernel
theorem d_Mo_scatter_160 : decode M_Mo_scatter.2.1 160 = .ok (.goto 5, 3) := by decide +kernel
theorem d_Mo_scatter_163 : decode M_Mo_scatter.2.1 163 = .ok (.iload 9, 2) := by decide +kernel
theorem d_Mo_scatter_165 : decode M_Mo_scatter.2.1 165 = .ok (.iastore, 1) := by decide +kernel
theorem d_Mo_scatter_166 : decode M_Mo_scatter.2.1 166 = .ok (.iload 8, 2) := by decide +kernel
theorem d_Mo_scatter_168 : decode M_Mo_scatter.2.1 168 = .ok (.aload_n 0, 1) := by decide +kernel
theorem d_Mo_scatter_169 : decode M_Mo_scatter.2.1 169 = .ok (.getfield 44, 3) := by decide +kernel
theorem d_Mo_scatter_172 : decode M_Mo_scatter.2.1 172 = .ok (.iload 5, 2) := by decide +kernel
theorem d_Mo_scatter_174 : decode M_Mo_scatter.2.1 174 = .ok (.iaload, 1) := by decide +kernel
theorem d_Mo_scatter_175 : decode M_Mo_scatter.2.1 175 = .ok (.iadd, 1) := by decide +kernel
theorem d_Mo_scatter_176 : decode M_Mo_scatter.2.1 176 = .ok (.istore 8, 2) := by decide +kernel
theorem d_Mo_scatter_178 : decode M_Mo_scatter.2.1 178 = .ok (.goto (-98), 3) := by decide +kernel
theorem d_Mo_scatter_181 : decode M_Mo_scatter.2.1 181 = .ok (.iinc 5 1, 3) := by decide +kernel
theorem d_Mo_scatter_184 : decode M_Mo_scatter.2.1 184 = .ok (.goto (-165), 3) := by decide +kernel
theorem d_Mo_scatter_187 : decode M_Mo_scatter.2.1 187 = .ok (.iinc 4 1, 3) := by decide +kernel
theorem d_Mo_scatter_190 : decode M_Mo_scatter.2.1 190 = .ok (.goto (-182), 3) := by decide +kernel
theorem d_Mo_scatter_193 : decode M_Mo_scatter.2.1 193 = .ok (.return_, 1) := by decide +kernel
theorem d_Mo_take_0 : decode M_Mo_take.2.1 0 = .ok (.iconst 0, 1) := by decide +kernel
theorem d_Mo_take_1 : decode M_Mo_take.2.1 1 = .ok (.istore_n 2, 1) := by decide +kernel
theorem d_Mo_take_2 : decode M_Mo_take.2.1 2 = .ok (.iconst 0, 1) := by decide +kernel
theorem d_Mo_take_3 : decode M_Mo_take.2.1 3 = .ok (.istore_n 3, 1) := by decide +kernel
theorem d_Mo_take_4 : decode M_Mo_take.2.1 4 = .ok (.iload_n 3, 1) := by decide +kernel
theorem d_Mo_take_5 : decode M_Mo_take.2.1 5 = .ok (.iload_n 1, 1) := by decide +kernel
theorem d_Mo_take_6 : decode M_Mo_take.2.1 6 = .ok (.if_icmp .ge 28, 3) := by decide +kernel
theorem d_Mo_take_9 : decode M_Mo_take.2.1 9 = .ok (.iload_n 2, 1) := by decide +kernel
theorem d_Mo_take_10 : decode M_Mo_take.2.1 10 = .ok (.aload_n 0, 1) := by decide +kernel
theorem d_Mo_take_11 : decode M_Mo_take.2.1 11 = .ok (.getfield 50, 3) := by decide +kernel
theorem d_Mo_take_14 : decode M_Mo_take.2.1 14 = .ok (.aload_n 0, 1) := by decide +kernel
theorem d_Mo_take_15 : decode M_Mo_take.2.1 15 = .ok (.getfield 207, 3) := by decide +kernel
theorem d_Mo_take_18 : decode M_Mo_take.2.1 18 = .ok (.iload_n 3, 1) := by decide +kernel
theorem d_Mo_take_19 : decode M_Mo_take.2.1 19 = .ok (.iadd, 1) := by decide +kernel
theorem d_Mo_take_20 : decode M_Mo_take.2.1 20 = .ok (.iaload, 1) := by decide +kernel
theorem d_Mo_take_21 : decode M_Mo_take.2.1 21 = .ok (.bipush 8, 2) := by decide +kernel
theorem d_Mo_take_23 : decode M_Mo_take.2.1 23 = .ok (.iload_n 3, 1) := by decide +kernel
theorem d_Mo_take_24 : decode M_Mo_take.2.1 24 = .ok (.imul, 1) := by decide +kernel
theorem d_Mo_take_25 : decode M_Mo_take.2.1 25 = .ok (.ishl, 1) := by decide +kernel
theorem d_Mo_take_26 : decode M_Mo_take.2.1 26 = .ok (.ior, 1) := by decide +kernel
theorem d_Mo_take_27 : decode M_Mo_take.2.1 27 = .ok (.istore_n 2, 1) := by decide +kernel
theorem d_Mo_take_28 : decode M_Mo_take.2.1 28 = .ok (.iinc 3 1, 3) := by decide +kernel
theorem d_Mo_take_31 : decode M_Mo_take.2.1 31 = .ok (.goto (-27), 3) := by decide +kernel
theorem d_Mo_take_34 : decode M_Mo_take.2.1 34 = .ok (.aload_n 0, 1) := by decide +kernel
theorem d_Mo_take_35 : decode M_Mo_take.2.1 35 = .ok (.dup, 1) := by decide +kernel
theorem d_Mo_take_36 : decode M_Mo_take.2.1 36 = .ok (.getfield 207, 3) := by decide +kernel
theorem d_Mo_take_39 : decode M_Mo_take.2.1 39 = .ok (.iload_n 1, 1) := by decide +kernel
theorem d_Mo_take_40 : decode M_Mo_take.2.1 40 = .ok (.iadd, 1) := by decide +kernel
theorem d_Mo_take_41 : decode M_Mo_take.2.1 41 = .ok (.putfield 207, 3) := by decide +kernel
theorem d_Mo_take_44 : decode M_Mo_take.2.1 44 = .ok (.iload_n 2, 1) := by decide +kernel
theorem d_Mo_take_45 : decode M_Mo_take.2.1 45 = .ok (.ireturn, 1) := by decide +kernel
theorem d_Mo_unpack_0 : decode M_Mo_unpack.2.1 0 = .ok (.aload_n 0, 1) := by decide +kernel
theorem d_Mo_unpack_1 : decode M_Mo_unpack.2.1 1 = .ok (.iconst 0, 1) := by decide +kernel
theorem d_Mo_unpack_2 : decode M_Mo_unpack.2.1 2 = .ok (.putfield 110, 3) := by decide +kernel
theorem d_Mo_unpack_5 : decode M_Mo_unpack.2.1 5 = .ok (.aload_n 0, 1) := by decide +kernel
theorem d_Mo_unpack_6 : decode M_Mo_unpack.2.1 6 = .ok (.getfield 182, 3) := by decide +kernel
theorem d_Mo_unpack_9 : decode M_Mo_unpack.2.1 9 = .ok (.iload_n 1, 1) := by decide +kernel
theorem d_Mo_unpack_10 : decode M_Mo_unpack.2.1 10 = .ok (.if_icmp .ge 163, 3) := by decide +kernel
theorem d_Mo_unpack_13 : decode M_Mo_unpack.2.1 13 = .ok (.aload_n 0, 1) := by decide +kernel
theorem d_Mo_unpack_14 : decode M_Mo_unpack.2.1 14 = .ok (.getfield 179, 3) := by decide +kernel
theorem d_Mo_unpack_17 : decode M_Mo_unpack.2.1 17 = .ok (.ifCond .ne 156, 3) := by decide +kernel
theorem d_Mo_unpack_20 : decode M_Mo_unpack.2.1 20 = .ok (.aload_n 0, 1) := by decide +kernel
theorem d_Mo_unpack_21 : decode M_Mo_unpack.2.1 21 = .ok (.getfield 35, 3) := by decide +kernel
theorem d_Mo_unpack_24 : decode M_Mo_unpack.2.1 24 = .ok (.aload_n 0, 1) := by decide +kernel
theorem d_Mo_unpack_25 : decode M_Mo_unpack.2.1 25 = .ok (.getfield 182, 3) := by decide +kernel
theorem d_Mo_unpack_28 : decode M_Mo_unpack.2.1 28 = .ok (.iaload, 1) := by decide +kernel
theorem d_Mo_unpack_29 : decode M_Mo_unpack.2.1 29 = .ok (.istore_n 3, 1) := by decide +kernel
theorem d_Mo_unpack_30 : decode M_Mo_unpack.2.1 30 = .ok (.iload_n 3, 1) := by decide +kernel
theorem d_Mo_unpack_31 : decode M_Mo_unpack.2.1 31 = .ok (.sipush 128, 3) := by decide +kernel
theorem d_Mo_unpack_34 : decode M_Mo_unpack.2.1 34 = .ok (.if_icmp .ge 9, 3) := by decide +kernel
theorem d_Mo_unpack_37 : decode M_Mo_unpack.2.1 37 = .ok (.iload_n 3, 1) := by decide +kernel
theorem d_Mo_unpack_38 : decode M_Mo_unpack.2.1 38 = .ok (.iconst 1, 1) := by decide +kernel
theorem d_Mo_unpack_39 : decode M_Mo_unpack.2.1 39 = .ok (.iadd, 1) := by decide +kernel
theorem d_Mo_unpack_40 : decode M_Mo_unpack.2.1 40 = .ok (.goto 8, 3) := by decide +kernel
theorem d_Mo_unpack_43 : decode M_Mo_unpack.2.1 43 = .ok (.sipush 256, 3) := by decide +kernel
theorem d_Mo_unpack_46 : decode M_Mo_unpack.2.1 46 = .ok (.iload_n 3, 1) := by decide +kernel
theorem d_Mo_unpack_47 : decode M_Mo_unpack.2.1 47 = .ok (.isub, 1) := by decide +kernel
theorem d_Mo_unpack_48 : decode M_Mo_unpack.2.1 48 = .ok (.istore 4, 2) := by decide +kernel
theorem d_Mo_unpack_50 : decode M_Mo_unpack.2.1 50 = .ok (.iload_n 3, 1) := by decide +kernel
theorem d_Mo_unpack_51 : decode M_Mo_unpack.2.1 51 = .ok (.sipush 128, 3) := by decide +kernel
theorem d_Mo_unpack_54 : decode M_Mo_unpack.2.1 54 = .ok (.if_icmp .ge 7, 3) := by decide +kernel
theorem d_Mo_unpack_57 : decode M_Mo_unpack.2.1 57 = .ok (.iconst 2, 1) := by decide +kernel
theorem d_Mo_unpack_58 : decode M_Mo_unpack.2.1 58 = .ok (.goto 7, 3) := by decide +kernel
theorem d_Mo_unpack_61 : decode M_Mo_unpack.2.1 61 = .ok (.iload 4, 2) := by decide +kernel
theorem d_Mo_unpack_63 : decode M_Mo_unpack.2.1 63 = .ok (.iconst 1, 1) := by decide +kernel
theorem d_Mo_unpack_64 : decode M_Mo_unpack.2.1 64 = .ok (.iadd, 1) := by decide +kernel
theorem d_Mo_unpack_65 : decode M_Mo_unpack.2.1 65 = .ok (.istore 5, 2) := by decide +kernel
theorem d_Mo_unpack_67 : decode M_Mo_unpack.2.1 67 = .ok (.aload_n 0, 1) := by decide +kernel
theorem d_Mo_unpack_68 : decode M_Mo_unpack.2.1 68 = .ok (.getfield 182, 3) := by decide +kernel
theorem d_Mo_unpack_71 : decode M_Mo_unpack.2.1 71 = .ok (.iload 5, 2) := by decide +kernel
theorem d_Mo_unpack_73 : decode M_Mo_unpack.2.1 73 = .ok (.iadd, 1) := by decide +kernel
theorem d_Mo_unpack_74 : decode M_Mo_unpack.2.1 74 = .ok (.iload_n 1, 1) := by decide +kernel
theorem d_Mo_unpack_75 : decode M_Mo_unpack.2.1 75 = .ok (.if_icmp .gt 14, 3) := by decide +kernel
theorem d_Mo_unpack_78 : decode M_Mo_unpack.2.1 78 = .ok (.aload_n 0, 1) := by decide +kernel
theorem d_Mo_unpack_79 : decode M_Mo_unpack.2.1 79 = .ok (.getfield 110, 3) := by decide +kernel
theorem d_Mo_unpack_82 : decode M_Mo_unpack.2.1 82 = .ok (.iload 4, 2) := by decide +kernel
theorem d_Mo_unpack_84 : decode M_Mo_unpack.2.1 84 = .ok (.iadd, 1) := by decide +kernel
theorem d_Mo_unpack_85 : decode M_Mo_unpack.2.1 85 = .ok (.iload_n 2, 1) := by decide +kernel
theorem d_Mo_unpack_86 : decode M_Mo_unpack.2.1 86 = .ok (.if_icmp .le 13, 3) := by decide +kernel
theorem d_Mo_unpack_89 : decode M_Mo_unpack.2.1 89 = .ok (.aload_n 0, 1) := by decide +kernel
theorem d_Mo_unpack_90 : decode M_Mo_unpack.2.1 90 = .ok (.aload_n 0, 1) := by decide +kernel
theorem d_Mo_unpack_91 : decode M_Mo_unpack.2.1 91 = .ok (.getfield 182, 3) := by decide +kernel
theorem d_Mo_unpack_94 : decode M_Mo_unpack.2.1 94 = .ok (.iconst 1, 1) := by decide +kernel
theorem d_Mo_unpack_95 : decode M_Mo_unpack.2.1 95 = .ok (.invokevirtual 185, 3) := by decide +kernel
theorem d_Mo_unpack_98 : decode M_Mo_unpack.2.1 98 = .ok (.return_, 1) := by decide +kernel
theorem d_Mo_unpack_99 : decode M_Mo_unpack.2.1 99 = .ok (.iconst 0, 1) := by decide +kernel
theorem d_Mo_unpack_100 : decode M_Mo_unpack.2.1 100 = .ok (.istore 6, 2) := by decide +kernel
theorem d_Mo_unpack_102 : decode M_Mo_unpack.2.1 102 = .ok (.iload 6, 2) := by decide +kernel
theorem d_Mo_unpack_104 : decode M_Mo_unpack.2.1 104 = .ok (.iload 4, 2) := by decide +kernel
theorem d_Mo_unpack_106 : decode M_Mo_unpack.2.1 106 = .ok (.if_icmp .ge 53, 3) := by decide +kernel
theorem d_Mo_unpack_109 : decode M_Mo_unpack.2.1 109 = .ok (.aload_n 0, 1) := by decide +kernel
theorem d_Mo_unpack_110 : decode M_Mo_unpack.2.1 110 = .ok (.getfield 53, 3) := by decide +kernel
theorem d_Mo_unpack_113 : decode M_Mo_unpack.2.1 113 = .ok (.aload_n 0, 1) := by decide +kernel
theorem d_Mo_unpack_114 : decode M_Mo_unpack.2.1 114 = .ok (.getfield 110, 3) := by decide +kernel
theorem d_Mo_unpack_117 : decode M_Mo_unpack.2.1 117 = .ok (.aload_n 0, 1) := by decide +kernel
theorem d_Mo_unpack_118 : decode M_Mo_unpack.2.1 118 = .ok (.getfield 35, 3) := by decide +kernel
theorem d_Mo_unpack_121 : decode M_Mo_unpack.2.1 121 = .ok (.aload_n 0, 1) := by decide +kernel
theorem d_Mo_unpack_122 : decode M_Mo_unpack.2.1 122 = .ok (.getfield 182, 3) := by decide +kernel
theorem d_Mo_unpack_125 : decode M_Mo_unpack.2.1 125 = .ok (.iload_n 3, 1) := by decide +kernel
theorem d_Mo_unpack_126 : decode M_Mo_unpack.2.1 126 = .ok (.sipush 128, 3) := by decide +kernel
theorem d_Mo_unpack_129 : decode M_Mo_unpack.2.1 129 = .ok (.if_icmp .ge 7, 3) := by decide +kernel
theorem d_Mo_unpack_132 : decode M_Mo_unpack.2.1 132 = .ok (.iconst 1, 1) := by decide +kernel
theorem d_Mo_unpack_133 : decode M_Mo_unpack.2.1 133 = .ok (.goto 7, 3) := by decide +kernel
theorem d_Mo_unpack_136 : decode M_Mo_unpack.2.1 136 = .ok (.iconst 1, 1) := by decide +kernel
theorem d_Mo_unpack_137 : decode M_Mo_unpack.2.1 137 = .ok (.iload 6, 2) := by decide +kernel
theorem d_Mo_unpack_139 : decode M_Mo_unpack.2.1 139 = .ok (.iadd, 1) := by decide +kernel
theorem d_Mo_unpack_140 : decode M_Mo_unpack.2.1 140 = .ok (.iadd, 1) := by decide +kernel
theorem d_Mo_unpack_141 : decode M_Mo_unpack.2.1 141 = .ok (.iaload, 1) := by decide +kernel
theorem d_Mo_unpack_142 : decode M_Mo_unpack.2.1 142 = .ok (.iastore, 1) := by decide +kernel
theorem d_Mo_unpack_143 : decode M_Mo_unpack.2.1 143 = .ok (.aload_n 0, 1) := by decide +kernel
theorem d_Mo_unpack_144 : decode M_Mo_unpack.2.1 144 = .ok (.dup, 1) := by decide +kernel
theorem d_Mo_unpack_145 : decode M_Mo_unpack.2.1 145 = .ok (.getfield 110, 3) := by decide +kernel
theorem d_Mo_unpack_148 : decode M_Mo_unpack.2.1 148 = .ok (.iconst 1, 1) := by decide +kernel
theorem d_Mo_unpack_149 : decode M_Mo_unpack.2.1 149 = .ok (.iadd, 1) := by decide +kernel
theorem d_Mo_unpack_150 : decode M_Mo_unpack.2.1 150 = .ok (.putfield 110, 3) := by decide +kernel
theorem d_Mo_unpack_153 : decode M_Mo_unpack.2.1 153 = .ok (.iinc 6 1, 3) := by decide +kernel
theorem d_Mo_unpack_156 : decode M_Mo_unpack.2.1 156 = .ok (.goto (-54), 3) := by decide +kernel
theorem d_Mo_unpack_159 : decode M_Mo_unpack.2.1 159 = .ok (.aload_n 0, 1) := by decide +kernel
theorem d_Mo_unpack_160 : decode M_Mo_unpack.2.1 160 = .ok (.dup, 1) := by decide +kernel
theorem d_Mo_unpack_161 : decode M_Mo_unpack.2.1 161 = .ok (.getfield 182, 3) := by decide +kernel
theorem d_Mo_unpack_164 : decode M_Mo_unpack.2.1 164 = .ok (.iload 5, 2) := by decide +kernel
theorem d_Mo_unpack_166 : decode M_Mo_unpack.2.1 166 = .ok (.iadd, 1) := by decide +kernel
theorem d_Mo_unpack_167 : decode M_Mo_unpack.2.1 167 = .ok (.putfield 182, 3) := by decide +kernel
theorem d_Mo_unpack_170 : decode M_Mo_unpack.2.1 170 = .ok (.goto (-165), 3) := by decide +kernel
theorem d_Mo_unpack_173 : decode M_Mo_unpack.2.1 173 = .ok (.aload_n 0, 1) := by decide +kernel
theorem d_Mo_unpack_174 : decode M_Mo_unpack.2.1 174 = .ok (.getfield 179, 3) := by decide +kernel
theorem d_Mo_unpack_177 : decode M_Mo_unpack.2.1 177 = .ok (.ifCond .ne 17, 3) := by decide +kernel
theorem d_Mo_unpack_180 : decode M_Mo_unpack.2.1 180 = .ok (.aload_n 0, 1) := by decide +kernel
theorem d_Mo_unpack_181 : decode M_Mo_unpack.2.1 181 = .ok (.getfield 110, 3) := by decide +kernel
theorem d_Mo_unpack_184 : decode M_Mo_unpack.2.1 184 = .ok (.iload_n 2, 1) := by decide +kernel
theorem d_Mo_unpack_185 : decode M_Mo_unpack.2.1 185 = .ok (.if_icmp .ge 9, 3) := by decide +kernel
theorem d_Mo_unpack_188 : decode M_Mo_unpack.2.1 188 = .ok (.aload_n 0, 1) := by decide +kernel
theorem d_Mo_unpack_189 : decode M_Mo_unpack.2.1 189 = .ok (.iload_n 1, 1) := by decide +kernel
theorem d_Mo_unpack_190 : decode M_Mo_unpack.2.1 190 = .ok (.iconst 1, 1) := by decide +kernel
theorem d_Mo_unpack_191 : decode M_Mo_unpack.2.1 191 = .ok (.invokevirtual 185, 3) := by decide +kernel
theorem d_Mo_unpack_194 : decode M_Mo_unpack.2.1 194 = .ok (.aload_n 0, 1) := by decide +kernel
theorem d_Mo_unpack_195 : decode M_Mo_unpack.2.1 195 = .ok (.getfield 179, 3) := by decide +kernel
theorem d_Mo_unpack_198 : decode M_Mo_unpack.2.1 198 = .ok (.ifCond .le 4, 3) := by decide +kernel
theorem d_Mo_unpack_201 : decode M_Mo_unpack.2.1 201 = .ok (.return_, 1) := by decide +kernel
theorem d_Mo_unpack_202 : decode M_Mo_unpack.2.1 202 = .ok (.iconst 1, 1) := by decide +kernel
theorem d_Mo_unpack_203 : decode M_Mo_unpack.2.1 203 = .ok (.istore_n 3, 1) := by decide +kernel
theorem d_Mo_unpack_204 : decode M_Mo_unpack.2.1 204 = .ok (.iload_n 3, 1) := by decide +kernel
theorem d_Mo_unpack_205 : decode M_Mo_unpack.2.1 205 = .ok (.aload_n 0, 1) := by decide +kernel
theorem d_Mo_unpack_206 : decode M_Mo_unpack.2.1 206 = .ok (.getfield 110, 3) := by decide +kernel
theorem d_Mo_unpack_209 : decode M_Mo_unpack.2.1 209 = .ok (.if_icmp .ge 38, 3) := by decide +kernel
theorem d_Mo_unpack_212 : decode M_Mo_unpack.2.1 212 = .ok (.aload_n 0, 1) := by decide +kernel
theorem d_Mo_unpack_213 : decode M_Mo_unpack.2.1 213 = .ok (.getfield 53, 3) := by decide +kernel
theorem d_Mo_unpack_216 : decode M_Mo_unpack.2.1 216 = .ok (.iload_n 3, 1) := by decide +kernel
theorem d_Mo_unpack_217 : decode M_Mo_unpack.2.1 217 = .ok (.aload_n 0, 1) := by decide +kernel
theorem d_Mo_unpack_218 : decode M_Mo_unpack.2.1 218 = .ok (.getfield 53, 3) := by decide +kernel
theorem d_Mo_unpack_221 : decode M_Mo_unpack.2.1 221 = .ok (.iload_n 3, 1) := by decide +kernel
theorem d_Mo_unpack_222 : decode M_Mo_unpack.2.1 222 = .ok (.iaload, 1) := by decide +kernel
theorem d_Mo_unpack_223 : decode M_Mo_unpack.2.1 223 = .ok (.aload_n 0, 1) := by decide +kernel
theorem d_Mo_unpack_224 : decode M_Mo_unpack.2.1 224 = .ok (.getfield 53, 3) := by decide +kernel
theorem d_Mo_unpack_227 : decode M_Mo_unpack.2.1 227 = .ok (.iload_n 3, 1) := by decide +kernel
theorem d_Mo_unpack_228 : decode M_Mo_unpack.2.1 228 = .ok (.iconst 1, 1) := by decide +kernel
theorem d_Mo_unpack_229 : decode M_Mo_unpack.2.1 229 = .ok (.isub, 1) := by decide +kernel
theorem d_Mo_unpack_230 : decode M_Mo_unpack.2.1 230 = .ok (.iaload, 1) := by decide +kernel
theorem d_Mo_unpack_231 : decode M_Mo_unpack.2.1 231 = .ok (.iadd, 1) := by decide +kernel
theorem d_Mo_unpack_232 : decode M_Mo_unpack.2.1 232 = .ok (.sipush 128, 3) := by decide +kernel
theorem d_Mo_unpack_235 : decode M_Mo_unpack.2.1 235 = .ok (.isub, 1) := by decide +kernel
theorem d_Mo_unpack_236 : decode M_Mo_unpack.2.1 236 = .ok (.sipush 255, 3) := by decide +kernel
theorem d_Mo_unpack_239 : decode M_Mo_unpack.2.1 239 = .ok (.iand, 1) := by decide +kernel
theorem d_Mo_unpack_240 : decode M_Mo_unpack.2.1 240 = .ok (.iastore, 1) := by decide +kernel
theorem d_Mo_unpack_241 : decode M_Mo_unpack.2.1 241 = .ok (.iinc 3 1, 3) := by decide +kernel
theorem d_Mo_unpack_244 : decode M_Mo_unpack.2.1 244 = .ok (.goto (-40), 3) := by decide +kernel
theorem d_Mo_unpack_247 : decode M_Mo_unpack.2.1 247 = .ok (.aload_n 0, 1) := by decide +kernel
theorem d_Mo_unpack_248 : decode M_Mo_unpack.2.1 248 = .ok (.getfield 110, 3) := by decide +kernel
theorem d_Mo_unpack_251 : decode M_Mo_unpack.2.1 251 = .ok (.iconst 1, 1) := by decide +kernel
theorem d_Mo_unpack_252 : decode M_Mo_unpack.2.1 252 = .ok (.iadd, 1) := by decide +kernel
theorem d_Mo_unpack_253 : decode M_Mo_unpack.2.1 253 = .ok (.iconst 2, 1) := by decide +kernel
theorem d_Mo_unpack_254 : decode M_Mo_unpack.2.1 254 = .ok (.idiv, 1) := by decide +kernel
theorem d_Mo_unpack_255 : decode M_Mo_unpack.2.1 255 = .ok (.istore_n 3, 1) := by decide +kernel
theorem d_Mo_unpack_256 : decode M_Mo_unpack.2.1 256 = .ok (.iconst 0, 1) := by decide +kernel
theorem d_Mo_unpack_257 : decode M_Mo_unpack.2.1 257 = .ok (.istore 4, 2) := by decide +kernel
theorem d_Mo_unpack_259 : decode M_Mo_unpack.2.1 259 = .ok (.iload 4, 2) := by decide +kernel
theorem d_Mo_unpack_261 : decode M_Mo_unpack.2.1 261 = .ok (.aload_n 0, 1) := by decide +kernel
theorem d_Mo_unpack_262 : decode M_Mo_unpack.2.1 262 = .ok (.getfield 110, 3) := by decide +kernel
theorem d_Mo_unpack_265 : decode M_Mo_unpack.2.1 265 = .ok (.if_icmp .ge 42, 3) := by decide +kernel
theorem d_Mo_unpack_268 : decode M_Mo_unpack.2.1 268 = .ok (.aload_n 0, 1) := by decide +kernel
theorem d_Mo_unpack_269 : decode M_Mo_unpack.2.1 269 = .ok (.getfield 50, 3) := by decide +kernel
theorem d_Mo_unpack_272 : decode M_Mo_unpack.2.1 272 = .ok (.iload 4, 2) := by decide +kernel
theorem d_Mo_unpack_274 : decode M_Mo_unpack.2.1 274 = .ok (.iload_n 3, 1) := by decide +kernel
theorem d_Mo_unpack_275 : decode M_Mo_unpack.2.1 275 = .ok (.if_icmp .ge 10, 3) := by decide +kernel
theorem d_Mo_unpack_278 : decode M_Mo_unpack.2.1 278 = .ok (.iconst 2, 1) := by decide +kernel
theorem d_Mo_unpack_279 : decode M_Mo_unpack.2.1 279 = .ok (.iload 4, 2) := by decide +kernel
theorem d_Mo_unpack_281 : decode M_Mo_unpack.2.1 281 = .ok (.imul, 1) := by decide +kernel
theorem d_Mo_unpack_282 : decode M_Mo_unpack.2.1 282 = .ok (.goto 11, 3) := by decide +kernel
theorem d_Mo_unpack_285 : decode M_Mo_unpack.2.1 285 = .ok (.iconst 2, 1) := by decide +kernel
theorem d_Mo_unpack_286 : decode M_Mo_unpack.2.1 286 = .ok (.iload 4, 2) := by decide +kernel
theorem d_Mo_unpack_288 : decode M_Mo_unpack.2.1 288 = .ok (.iload_n 3, 1) := by decide +kernel
theorem d_Mo_unpack_289 : decode M_Mo_unpack.2.1 289 = .ok (.isub, 1) := by decide +kernel
theorem d_Mo_unpack_290 : decode M_Mo_unpack.2.1 290 = .ok (.imul, 1) := by decide +kernel
theorem d_Mo_unpack_291 : decode M_Mo_unpack.2.1 291 = .ok (.iconst 1, 1) := by decide +kernel
theorem d_Mo_unpack_292 : decode M_Mo_unpack.2.1 292 = .ok (.iadd, 1) := by decide +kernel
theorem d_Mo_unpack_293 : decode M_Mo_unpack.2.1 293 = .ok (.aload_n 0, 1) := by decide +kernel
theorem d_Mo_unpack_294 : decode M_Mo_unpack.2.1 294 = .ok (.getfield 53, 3) := by decide +kernel
theorem d_Mo_unpack_297 : decode M_Mo_unpack.2.1 297 = .ok (.iload 4, 2) := by decide +kernel
theorem d_Mo_unpack_299 : decode M_Mo_unpack.2.1 299 = .ok (.iaload, 1) := by decide +kernel
theorem d_Mo_unpack_300 : decode M_Mo_unpack.2.1 300 = .ok (.iastore, 1) := by decide +kernel
theorem d_Mo_unpack_301 : decode M_Mo_unpack.2.1 301 = .ok (.iinc 4 1, 3) := by decide +kernel
theorem d_Mo_unpack_304 : decode M_Mo_unpack.2.1 304 = .ok (.goto (-45), 3) := by decide +kernel
theorem d_Mo_unpack_307 : decode M_Mo_unpack.2.1 307 = .ok (.return_, 1) := by decide +kernel
theorem d_Mo_unwaves_0 : decode M_Mo_unwaves.2.1 0 = .ok (.aload_n 0, 1) := by decide +kernel
theorem d_Mo_unwaves_1 : decode M_Mo_unwaves.2.1 1 = .ok (.iconst 0, 1) := by decide +kernel
theorem d_Mo_unwaves_2 : decode M_Mo_unwaves.2.1 2 = .ok (.putfield 207, 3) := by decide +kernel
theorem d_Mo_unwaves_5 : decode M_Mo_unwaves.2.1 5 = .ok (.iconst 0, 1) := by decide +kernel
theorem d_Mo_unwaves_6 : decode M_Mo_unwaves.2.1 6 = .ok (.istore_n 3, 1) := by decide +kernel
theorem d_Mo_unwaves_7 : decode M_Mo_unwaves.2.1 7 = .ok (.iload_n 3, 1) := by decide +kernel
theorem d_Mo_unwaves_8 : decode M_Mo_unwaves.2.1 8 = .ok (.aload_n 0, 1) := by decide +kernel
theorem d_Mo_unwaves_9 : decode M_Mo_unwaves.2.1 9 = .ok (.getfield 200, 3) := by decide +kernel
theorem d_Mo_unwaves_12 : decode M_Mo_unwaves.2.1 12 = .ok (.if_icmp .ge 308, 3) := by decide +kernel
theorem d_Mo_unwaves_15 : decode M_Mo_unwaves.2.1 15 = .ok (.aload_n 0, 1) := by decide +kernel
theorem d_Mo_unwaves_16 : decode M_Mo_unwaves.2.1 16 = .ok (.getfield 191, 3) := by decide +kernel
theorem d_Mo_unwaves_19 : decode M_Mo_unwaves.2.1 19 = .ok (.aload_n 0, 1) := by decide +kernel
theorem d_Mo_unwaves_20 : decode M_Mo_unwaves.2.1 20 = .ok (.getfield 44, 3) := by decide +kernel
theorem d_Mo_unwaves_23 : decode M_Mo_unwaves.2.1 23 = .ok (.iload_n 3, 1) := by decide +kernel
theorem d_Mo_unwaves_24 : decode M_Mo_unwaves.2.1 24 = .ok (.iaload, 1) := by decide +kernel
theorem d_Mo_unwaves_25 : decode M_Mo_unwaves.2.1 25 = .ok (.invokestatic 131, 3) := by decide +kernel
theorem d_Mo_unwaves_28 : decode M_Mo_unwaves.2.1 28 = .ok (.istore 4, 2) := by decide +kernel
theorem d_Mo_unwaves_30 : decode M_Mo_unwaves.2.1 30 = .ok (.iload_n 1, 1) := by decide +kernel
theorem d_Mo_unwaves_31 : decode M_Mo_unwaves.2.1 31 = .ok (.iload_n 2, 1) := by decide +kernel
theorem d_Mo_unwaves_32 : decode M_Mo_unwaves.2.1 32 = .ok (.aload_n 0, 1) := by decide +kernel
theorem d_Mo_unwaves_33 : decode M_Mo_unwaves.2.1 33 = .ok (.getfield 44, 3) := by decide +kernel
theorem d_Mo_unwaves_36 : decode M_Mo_unwaves.2.1 36 = .ok (.iload_n 3, 1) := by decide +kernel
theorem d_Mo_unwaves_37 : decode M_Mo_unwaves.2.1 37 = .ok (.iaload, 1) := by decide +kernel
theorem d_Mo_unwaves_38 : decode M_Mo_unwaves.2.1 38 = .ok (.invokestatic 135, 3) := by decide +kernel
theorem d_Mo_unwaves_41 : decode M_Mo_unwaves.2.1 41 = .ok (.istore 5, 2) := by decide +kernel
theorem d_Mo_unwaves_43 : decode M_Mo_unwaves.2.1 43 = .ok (.iconst 0, 1) := by decide +kernel
theorem d_Mo_unwaves_44 : decode M_Mo_unwaves.2.1 44 = .ok (.istore 6, 2) := by decide +kernel
theorem d_Mo_unwaves_46 : decode M_Mo_unwaves.2.1 46 = .ok (.iload 6, 2) := by decide +kernel
theorem d_Mo_unwaves_48 : decode M_Mo_unwaves.2.1 48 = .ok (.aload_n 0, 1) := by decide +kernel
theorem d_Mo_unwaves_49 : decode M_Mo_unwaves.2.1 49 = .ok (.getfield 41, 3) := by decide +kernel
theorem d_Mo_unwaves_52 : decode M_Mo_unwaves.2.1 52 = .ok (.iload_n 3, 1) := by decide +kernel
theorem d_Mo_unwaves_53 : decode M_Mo_unwaves.2.1 53 = .ok (.iaload, 1) := by decide +kernel
theorem d_Mo_unwaves_54 : decode M_Mo_unwaves.2.1 54 = .ok (.iconst 1, 1) := by decide +kernel
theorem d_Mo_unwaves_55 : decode M_Mo_unwaves.2.1 55 = .ok (.if_icmp .ne 7, 3) := by decide +kernel
theorem d_Mo_unwaves_58 : decode M_Mo_unwaves.2.1 58 = .ok (.iconst 2, 1) := by decide +kernel
theorem d_Mo_unwaves_59 : decode M_Mo_unwaves.2.1 59 = .ok (.goto 4, 3) := by decide +kernel
theorem d_Mo_unwaves_62 : decode M_Mo_unwaves.2.1 62 = .ok (.iconst 1, 1) := by decide +kernel
theorem d_Mo_unwaves_63 : decode M_Mo_unwaves.2.1 63 = .ok (.if_icmp .ge 251, 3) := by decide +kernel
theorem d_Mo_unwaves_66 : decode M_Mo_unwaves.2.1 66 = .ok (.iconst 0, 1) := by decide +kernel
theorem d_Mo_unwaves_67 : decode M_Mo_unwaves.2.1 67 = .ok (.istore 7, 2) := by decide +kernel
theorem d_Mo_unwaves_69 : decode M_Mo_unwaves.2.1 69 = .ok (.iload 7, 2) := by decide +kernel
theorem d_Mo_unwaves_71 : decode M_Mo_unwaves.2.1 71 = .ok (.iload 5, 2) := by decide +kernel
theorem d_Mo_unwaves_73 : decode M_Mo_unwaves.2.1 73 = .ok (.if_icmp .ge 43, 3) := by decide +kernel
theorem d_Mo_unwaves_76 : decode M_Mo_unwaves.2.1 76 = .ok (.iconst 0, 1) := by decide +kernel
theorem d_Mo_unwaves_77 : decode M_Mo_unwaves.2.1 77 = .ok (.istore 8, 2) := by decide +kernel
theorem d_Mo_unwaves_79 : decode M_Mo_unwaves.2.1 79 = .ok (.iload 8, 2) := by decide +kernel
theorem d_Mo_unwaves_81 : decode M_Mo_unwaves.2.1 81 = .ok (.iload 4, 2) := by decide +kernel
theorem d_Mo_unwaves_83 : decode M_Mo_unwaves.2.1 83 = .ok (.if_icmp .ge 27, 3) := by decide +kernel
theorem d_Mo_unwaves_86 : decode M_Mo_unwaves.2.1 86 = .ok (.aload_n 0, 1) := by decide +kernel
theorem d_Mo_unwaves_87 : decode M_Mo_unwaves.2.1 87 = .ok (.getfield 56, 3) := by decide +kernel
theorem d_Mo_unwaves_90 : decode M_Mo_unwaves.2.1 90 = .ok (.bipush 8, 2) := by decide +kernel
theorem d_Mo_unwaves_92 : decode M_Mo_unwaves.2.1 92 = .ok (.iload 7, 2) := by decide +kernel
theorem d_Mo_unwaves_94 : decode M_Mo_unwaves.2.1 94 = .ok (.imul, 1) := by decide +kernel
theorem d_Mo_unwaves_95 : decode M_Mo_unwaves.2.1 95 = .ok (.iload 8, 2) := by decide +kernel
theorem d_Mo_unwaves_97 : decode M_Mo_unwaves.2.1 97 = .ok (.iadd, 1) := by decide +kernel
theorem d_Mo_unwaves_98 : decode M_Mo_unwaves.2.1 98 = .ok (.aload_n 0, 1) := by decide +kernel
theorem d_Mo_unwaves_99 : decode M_Mo_unwaves.2.1 99 = .ok (.iconst 2, 1) := by decide +kernel
theorem d_Mo_unwaves_100 : decode M_Mo_unwaves.2.1 100 = .ok (.invokevirtual 210, 3) := by decide +kernel
theorem d_Mo_unwaves_103 : decode M_Mo_unwaves.2.1 103 = .ok (.iastore, 1) := by decide +kernel
theorem d_Mo_unwaves_104 : decode M_Mo_unwaves.2.1 104 = .ok (.iinc 8 1, 3) := by decide +kernel
theorem d_Mo_unwaves_107 : decode M_Mo_unwaves.2.1 107 = .ok (.goto (-28), 3) := by decide +kernel
theorem d_Mo_unwaves_110 : decode M_Mo_unwaves.2.1 110 = .ok (.iinc 7 1, 3) := by decide +kernel
theorem d_Mo_unwaves_113 : decode M_Mo_unwaves.2.1 113 = .ok (.goto (-44), 3) := by decide +kernel
theorem d_Mo_unwaves_116 : decode M_Mo_unwaves.2.1 116 = .ok (.iconst 1, 1) := by decide +kernel
theorem d_Mo_unwaves_117 : decode M_Mo_unwaves.2.1 117 = .ok (.istore 7, 2) := by decide +kernel
theorem d_Mo_unwaves_119 : decode M_Mo_unwaves.2.1 119 = .ok (.iconst 4, 1) := by decide +kernel
theorem d_Mo_unwaves_120 : decode M_Mo_unwaves.2.1 120 = .ok (.iload 7, 2) := by decide +kernel
theorem d_Mo_unwaves_122 : decode M_Mo_unwaves.2.1 122 = .ok (.imul, 1) := by decide +kernel
theorem d_Mo_unwaves_123 : decode M_Mo_unwaves.2.1 123 = .ok (.iload 4, 2) := by decide +kernel
theorem d_Mo_unwaves_125 : decode M_Mo_unwaves.2.1 125 = .ok (.iload 5, 2) := by decide +kernel
theorem d_Mo_unwaves_127 : decode M_Mo_unwaves.2.1 127 = .ok (.invokestatic 139, 3) := by decide +kernel
theorem d_Mo_unwaves_130 : decode M_Mo_unwaves.2.1 130 = .ok (.if_icmp .gt 12, 3) := by decide +kernel
theorem d_Mo_unwaves_133 : decode M_Mo_unwaves.2.1 133 = .ok (.iconst 2, 1) := by decide +kernel
theorem d_Mo_unwaves_134 : decode M_Mo_unwaves.2.1 134 = .ok (.iload 7, 2) := by decide +kernel
theorem d_Mo_unwaves_136 : decode M_Mo_unwaves.2.1 136 = .ok (.imul, 1) := by decide +kernel
theorem d_Mo_unwaves_137 : decode M_Mo_unwaves.2.1 137 = .ok (.istore 7, 2) := by decide +kernel
theorem d_Mo_unwaves_139 : decode M_Mo_unwaves.2.1 139 = .ok (.goto (-20), 3) := by decide +kernel
theorem d_Mo_unwaves_142 : decode M_Mo_unwaves.2.1 142 = .ok (.iload 7, 2) := by decide +kernel
theorem d_Mo_unwaves_144 : decode M_Mo_unwaves.2.1 144 = .ok (.ifCond .le 36, 3) := by decide +kernel
theorem d_Mo_unwaves_147 : decode M_Mo_unwaves.2.1 147 = .ok (.iconst 2, 1) := by decide +kernel
theorem d_Mo_unwaves_148 : decode M_Mo_unwaves.2.1 148 = .ok (.iload 7, 2) := by decide +kernel
theorem d_Mo_unwaves_150 : decode M_Mo_unwaves.2.1 150 = .ok (.imul, 1) := by decide +kernel
theorem d_Mo_unwaves_151 : decode M_Mo_unwaves.2.1 151 = .ok (.iload 4, 2) := by decide +kernel
theorem d_Mo_unwaves_153 : decode M_Mo_unwaves.2.1 153 = .ok (.iload 5, 2) := by decide +kernel
theorem d_Mo_unwaves_155 : decode M_Mo_unwaves.2.1 155 = .ok (.invokestatic 139, 3) := by decide +kernel
theorem d_Mo_unwaves_158 : decode M_Mo_unwaves.2.1 158 = .ok (.if_icmp .gt 22, 3) := by decide +kernel
theorem d_Mo_unwaves_161 : decode M_Mo_unwaves.2.1 161 = .ok (.aload_n 0, 1) := by decide +kernel
theorem d_Mo_unwaves_162 : decode M_Mo_unwaves.2.1 162 = .ok (.iload 4, 2) := by decide +kernel
theorem d_Mo_unwaves_164 : decode M_Mo_unwaves.2.1 164 = .ok (.iload 5, 2) := by decide +kernel
theorem d_Mo_unwaves_166 : decode M_Mo_unwaves.2.1 166 = .ok (.iload 7, 2) := by decide +kernel
theorem d_Mo_unwaves_168 : decode M_Mo_unwaves.2.1 168 = .ok (.invokevirtual 214, 3) := by decide +kernel
theorem d_Mo_unwaves_171 : decode M_Mo_unwaves.2.1 171 = .ok (.iload 7, 2) := by decide +kernel
theorem d_Mo_unwaves_173 : decode M_Mo_unwaves.2.1 173 = .ok (.iconst 2, 1) := by decide +kernel
theorem d_Mo_unwaves_174 : decode M_Mo_unwaves.2.1 174 = .ok (.idiv, 1) := by decide +kernel
theorem d_Mo_unwaves_175 : decode M_Mo_unwaves.2.1 175 = .ok (.istore 7, 2) := by decide +kernel
theorem d_Mo_unwaves_177 : decode M_Mo_unwaves.2.1 177 = .ok (.goto (-35), 3) := by decide +kernel
theorem d_Mo_unwaves_180 : decode M_Mo_unwaves.2.1 180 = .ok (.iconst 0, 1) := by decide +kernel
theorem d_Mo_unwaves_181 : decode M_Mo_unwaves.2.1 181 = .ok (.istore 8, 2) := by decide +kernel
theorem d_Mo_unwaves_183 : decode M_Mo_unwaves.2.1 183 = .ok (.iload_n 1, 1) := by decide +kernel
theorem d_Mo_unwaves_184 : decode M_Mo_unwaves.2.1 184 = .ok (.istore 9, 2) := by decide +kernel
theorem d_Mo_unwaves_186 : decode M_Mo_unwaves.2.1 186 = .ok (.iload 9, 2) := by decide +kernel
theorem d_Mo_unwaves_188 : decode M_Mo_unwaves.2.1 188 = .ok (.iload_n 1, 1) := by decide +kernel
theorem d_Mo_unwaves_189 : decode M_Mo_unwaves.2.1 189 = .ok (.iload_n 2, 1) := by decide +kernel
theorem d_Mo_unwaves_190 : decode M_Mo_unwaves.2.1 190 = .ok (.iadd, 1) := by decide +kernel
theorem d_Mo_unwaves_191 : decode M_Mo_unwaves.2.1 191 = .ok (.if_icmp .ge 117, 3) := by decide +kernel
theorem d_Mo_unwaves_194 : decode M_Mo_unwaves.2.1 194 = .ok (.iload 9, 2) := by decide +kernel
theorem d_Mo_unwaves_196 : decode M_Mo_unwaves.2.1 196 = .ok (.aload_n 0, 1) := by decide +kernel
theorem d_Mo_unwaves_197 : decode M_Mo_unwaves.2.1 197 = .ok (.getfield 44, 3) := by decide +kernel
theorem d_Mo_unwaves_200 : decode M_Mo_unwaves.2.1 200 = .ok (.iload_n 3, 1) := by decide +kernel
theorem d_Mo_unwaves_201 : decode M_Mo_unwaves.2.1 201 = .ok (.iaload, 1) := by decide +kernel
theorem d_Mo_unwaves_202 : decode M_Mo_unwaves.2.1 202 = .ok (.irem, 1) := by decide +kernel
theorem d_Mo_unwaves_203 : decode M_Mo_unwaves.2.1 203 = .ok (.ifCond .eq 6, 3) := by decide +kernel
theorem d_Mo_unwaves_206 : decode M_Mo_unwaves.2.1 206 = .ok (.goto 96, 3) := by decide +kernel
theorem d_Mo_unwaves_209 : decode M_Mo_unwaves.2.1 209 = .ok (.iconst 0, 1) := by decide +kernel
theorem d_Mo_unwaves_210 : decode M_Mo_unwaves.2.1 210 = .ok (.istore 10, 2) := by decide +kernel
theorem d_Mo_unwaves_212 : decode M_Mo_unwaves.2.1 212 = .ok (.iload 10, 2) := by decide +kernel
theorem d_Mo_unwaves_214 : decode M_Mo_unwaves.2.1 214 = .ok (.iload 4, 2) := by decide +kernel
theorem d_Mo_unwaves_216 : decode M_Mo_unwaves.2.1 216 = .ok (.if_icmp .ge 83, 3) := by decide +kernel
theorem d_Mo_unwaves_219 : decode M_Mo_unwaves.2.1 219 = .ok (.bipush 64, 2) := by decide +kernel
theorem d_Mo_unwaves_221 : decode M_Mo_unwaves.2.1 221 = .ok (.iload_n 3, 1) := by decide +kernel
theorem d_Mo_unwaves_222 : decode M_Mo_unwaves.2.1 222 = .ok (.imul, 1) := by decide +kernel
theorem d_Mo_unwaves_223 : decode M_Mo_unwaves.2.1 223 = .ok (.bipush 8, 2) := by decide +kernel
theorem d_Mo_unwaves_225 : decode M_Mo_unwaves.2.1 225 = .ok (.iload 9, 2) := by decide +kernel
theorem d_Mo_unwaves_227 : decode M_Mo_unwaves.2.1 227 = .ok (.imul, 1) := by decide +kernel
theorem d_Mo_unwaves_228 : decode M_Mo_unwaves.2.1 228 = .ok (.iadd, 1) := by decide +kernel
theorem d_Mo_unwaves_229 : decode M_Mo_unwaves.2.1 229 = .ok (.aload_n 0, 1) := by decide +kernel
theorem d_Mo_unwaves_230 : decode M_Mo_unwaves.2.1 230 = .ok (.getfield 44, 3) := by decide +kernel
theorem d_Mo_unwaves_233 : decode M_Mo_unwaves.2.1 233 = .ok (.iload_n 3, 1) := by decide +kernel
theorem d_Mo_unwaves_234 : decode M_Mo_unwaves.2.1 234 = .ok (.iaload, 1) := by decide +kernel
theorem d_Mo_unwaves_235 : decode M_Mo_unwaves.2.1 235 = .ok (.iload 10, 2) := by decide +kernel
theorem d_Mo_unwaves_237 : decode M_Mo_unwaves.2.1 237 = .ok (.imul, 1) := by decide +kernel
theorem d_Mo_unwaves_238 : decode M_Mo_unwaves.2.1 238 = .ok (.iadd, 1) := by decide +kernel
theorem d_Mo_unwaves_239 : decode M_Mo_unwaves.2.1 239 = .ok (.istore 11, 2) := by decide +kernel
theorem d_Mo_unwaves_241 : decode M_Mo_unwaves.2.1 241 = .ok (.aload_n 0, 1) := by decide +kernel
theorem d_Mo_unwaves_242 : decode M_Mo_unwaves.2.1 242 = .ok (.getfield 47, 3) := by decide +kernel
theorem d_Mo_unwaves_245 : decode M_Mo_unwaves.2.1 245 = .ok (.iload 11, 2) := by decide +kernel
theorem d_Mo_unwaves_247 : decode M_Mo_unwaves.2.1 247 = .ok (.iload 6, 2) := by decide +kernel
theorem d_Mo_unwaves_249 : decode M_Mo_unwaves.2.1 249 = .ok (.ifCond .ne 19, 3) := by decide +kernel
theorem d_Mo_unwaves_252 : decode M_Mo_unwaves.2.1 252 = .ok (.aload_n 0, 1) := by decide +kernel
theorem d_Mo_unwaves_253 : decode M_Mo_unwaves.2.1 253 = .ok (.getfield 56, 3) := by decide +kernel
theorem d_Mo_unwaves_256 : decode M_Mo_unwaves.2.1 256 = .ok (.bipush 8, 2) := by decide +kernel
theorem d_Mo_unwaves_258 : decode M_Mo_unwaves.2.1 258 = .ok (.iload 8, 2) := by decide +kernel
theorem d_Mo_unwaves_260 : decode M_Mo_unwaves.2.1 260 = .ok (.imul, 1) := by decide +kernel
theorem d_Mo_unwaves_261 : decode M_Mo_unwaves.2.1 261 = .ok (.iload 10, 2) := by decide +kernel
theorem d_Mo_unwaves_263 : decode M_Mo_unwaves.2.1 263 = .ok (.iadd, 1) := by decide +kernel
theorem d_Mo_unwaves_264 : decode M_Mo_unwaves.2.1 264 = .ok (.iaload, 1) := by decide +kernel
theorem d_Mo_unwaves_265 : decode M_Mo_unwaves.2.1 265 = .ok (.goto 27, 3) := by decide +kernel
theorem d_Mo_unwaves_268 : decode M_Mo_unwaves.2.1 268 = .ok (.aload_n 0, 1) := by decide +kernel
theorem d_Mo_unwaves_269 : decode M_Mo_unwaves.2.1 269 = .ok (.getfield 47, 3) := by decide +kernel
theorem d_Mo_unwaves_272 : decode M_Mo_unwaves.2.1 272 = .ok (.iload 11, 2) := by decide +kernel
theorem d_Mo_unwaves_274 : decode M_Mo_unwaves.2.1 274 = .ok (.iaload, 1) := by decide +kernel
theorem d_Mo_unwaves_275 : decode M_Mo_unwaves.2.1 275 = .ok (.aload_n 0, 1) := by decide +kernel
theorem d_Mo_unwaves_276 : decode M_Mo_unwaves.2.1 276 = .ok (.getfield 56, 3) := by decide +kernel
theorem d_Mo_unwaves_279 : decode M_Mo_unwaves.2.1 279 = .ok (.bipush 8, 2) := by decide +kernel
theorem d_Mo_unwaves_281 : decode M_Mo_unwaves.2.1 281 = .ok (.iload 8, 2) := by decide +kernel
theorem d_Mo_unwaves_283 : decode M_Mo_unwaves.2.1 283 = .ok (.imul, 1) := by decide +kernel
theorem d_Mo_unwaves_284 : decode M_Mo_unwaves.2.1 284 = .ok (.iload 10, 2) := by decide +kernel
theorem d_Mo_unwaves_286 : decode M_Mo_unwaves.2.1 286 = .ok (.iadd, 1) := by decide +kernel
theorem d_Mo_unwaves_287 : decode M_Mo_unwaves.2.1 287 = .ok (.iaload, 1) := by decide +kernel
theorem d_Mo_unwaves_288 : decode M_Mo_unwaves.2.1 288 = .ok (.bipush 16, 2) := by decide +kernel
theorem d_Mo_unwaves_290 : decode M_Mo_unwaves.2.1 290 = .ok (.ishl, 1) := by decide +kernel
theorem d_Mo_unwaves_291 : decode M_Mo_unwaves.2.1 291 = .ok (.ior, 1) := by decide +kernel
theorem d_Mo_unwaves_292 : decode M_Mo_unwaves.2.1 292 = .ok (.iastore, 1) := by decide +kernel
theorem d_Mo_unwaves_293 : decode M_Mo_unwaves.2.1 293 = .ok (.iinc 10 1, 3) := by decide +kernel
theorem d_Mo_unwaves_296 : decode M_Mo_unwaves.2.1 296 = .ok (.goto (-84), 3) := by decide +kernel
theorem d_Mo_unwaves_299 : decode M_Mo_unwaves.2.1 299 = .ok (.iinc 8 1, 3) := by decide +kernel
theorem d_Mo_unwaves_302 : decode M_Mo_unwaves.2.1 302 = .ok (.iinc 9 1, 3) := by decide +kernel
theorem d_Mo_unwaves_305 : decode M_Mo_unwaves.2.1 305 = .ok (.goto (-119), 3) := by decide +kernel
theorem d_Mo_unwaves_308 : decode M_Mo_unwaves.2.1 308 = .ok (.iinc 6 1, 3) := by decide +kernel
theorem d_Mo_unwaves_311 : decode M_Mo_unwaves.2.1 311 = .ok (.goto (-265), 3) := by decide +kernel
theorem d_Mo_unwaves_314 : decode M_Mo_unwaves.2.1 314 = .ok (.iinc 3 1, 3) := by decide +kernel
theorem d_Mo_unwaves_317 : decode M_Mo_unwaves.2.1 317 = .ok (.goto (-310), 3) := by decide +kernel
theorem d_Mo_unwaves_320 : decode M_Mo_unwaves.2.1 320 = .ok (.return_, 1) := by decide +kernel
theorem d_Mo_unwave_0 : decode M_Mo_unwave.2.1 0 = .ok (.iconst 0, 1) := by decide +kernel
theorem d_Mo_unwave_1 : decode M_Mo_unwave.2.1 1 = .ok (.istore 4, 2) := by decide +kernel
theorem d_Mo_unwave_3 : decode M_Mo_unwave.2.1 3 = .ok (.iload 4, 2) := by decide +kernel
theorem d_Mo_unwave_5 : decode M_Mo_unwave.2.1 5 = .ok (.iload_n 3, 1) := by decide +kernel
theorem d_Mo_unwave_6 : decode M_Mo_unwave.2.1 6 = .ok (.iadd, 1) := by decide +kernel
theorem d_Mo_unwave_7 : decode M_Mo_unwave.2.1 7 = .ok (.iload_n 2, 1) := by decide +kernel
theorem d_Mo_unwave_8 : decode M_Mo_unwave.2.1 8 = .ok (.if_icmp .ge 207, 3) := by decide +kernel
theorem d_Mo_unwave_11 : decode M_Mo_unwave.2.1 11 = .ok (.iconst 0, 1) := by decide +kernel
theorem d_Mo_unwave_12 : decode M_Mo_unwave.2.1 12 = .ok (.istore 5, 2) := by decide +kernel
theorem d_Mo_unwave_14 : decode M_Mo_unwave.2.1 14 = .ok (.iload 5, 2) := by decide +kernel
theorem d_Mo_unwave_16 : decode M_Mo_unwave.2.1 16 = .ok (.iload_n 3, 1) := by decide +kernel
theorem d_Mo_unwave_17 : decode M_Mo_unwave.2.1 17 = .ok (.iadd, 1) := by decide +kernel
theorem d_Mo_unwave_18 : decode M_Mo_unwave.2.1 18 = .ok (.iload_n 1, 1) := by decide +kernel
theorem d_Mo_unwave_19 : decode M_Mo_unwave.2.1 19 = .ok (.if_icmp .ge 185, 3) := by decide +kernel
theorem d_Mo_unwave_22 : decode M_Mo_unwave.2.1 22 = .ok (.bipush 8, 2) := by decide +kernel
theorem d_Mo_unwave_24 : decode M_Mo_unwave.2.1 24 = .ok (.iload 4, 2) := by decide +kernel
