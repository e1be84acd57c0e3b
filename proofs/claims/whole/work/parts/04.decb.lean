theorem d_Co_makeReady_25 : decode M_Co_makeReady.2.1 25 = .ok (.aload_n 0, 1) := by decide +kernel
theorem d_Co_makeReady_26 : decode M_Co_makeReady.2.1 26 = .ok (.getfield 14, 3) := by decide +kernel
theorem d_Co_makeReady_29 : decode M_Co_makeReady.2.1 29 = .ok (.invokevirtual 57, 3) := by decide +kernel
theorem d_Co_makeReady_32 : decode M_Co_makeReady.2.1 32 = .ok (.aload_n 0, 1) := by decide +kernel
theorem d_Co_makeReady_33 : decode M_Co_makeReady.2.1 33 = .ok (.getfield 14, 3) := by decide +kernel
theorem d_Co_makeReady_36 : decode M_Co_makeReady.2.1 36 = .ok (.aload_n 1, 1) := by decide +kernel
theorem d_Co_makeReady_37 : decode M_Co_makeReady.2.1 37 = .ok (.iload_n 2, 1) := by decide +kernel
theorem d_Co_makeReady_38 : decode M_Co_makeReady.2.1 38 = .ok (.iload_n 3, 1) := by decide +kernel
theorem d_Co_makeReady_39 : decode M_Co_makeReady.2.1 39 = .ok (.invokevirtual 60, 3) := by decide +kernel
theorem d_Co_makeReady_42 : decode M_Co_makeReady.2.1 42 = .ok (.bipush (-2), 2) := by decide +kernel
theorem d_Co_makeReady_44 : decode M_Co_makeReady.2.1 44 = .ok (.ireturn, 1) := by decide +kernel
theorem d_Co_takeReady_0 : decode M_Co_takeReady.2.1 0 = .ok (.iload 4, 2) := by decide +kernel
theorem d_Co_takeReady_2 : decode M_Co_takeReady.2.1 2 = .ok (.ifCond .eq 17, 3) := by decide +kernel
theorem d_Co_takeReady_5 : decode M_Co_takeReady.2.1 5 = .ok (.iload_n 2, 1) := by decide +kernel
theorem d_Co_takeReady_6 : decode M_Co_takeReady.2.1 6 = .ok (.iconst 3, 1) := by decide +kernel
theorem d_Co_takeReady_7 : decode M_Co_takeReady.2.1 7 = .ok (.if_icmp .ne 12, 3) := by decide +kernel
theorem d_Co_takeReady_10 : decode M_Co_takeReady.2.1 10 = .ok (.aload_n 0, 1) := by decide +kernel
theorem d_Co_takeReady_11 : decode M_Co_takeReady.2.1 11 = .ok (.aload_n 1, 1) := by decide +kernel
theorem d_Co_takeReady_12 : decode M_Co_takeReady.2.1 12 = .ok (.iload_n 3, 1) := by decide +kernel
theorem d_Co_takeReady_13 : decode M_Co_takeReady.2.1 13 = .ok (.invokevirtual 64, 3) := by decide +kernel
theorem d_Co_takeReady_16 : decode M_Co_takeReady.2.1 16 = .ok (.goto 25, 3) := by decide +kernel
theorem d_Co_takeReady_19 : decode M_Co_takeReady.2.1 19 = .ok (.aload_n 0, 1) := by decide +kernel
theorem d_Co_takeReady_20 : decode M_Co_takeReady.2.1 20 = .ok (.aload_n 1, 1) := by decide +kernel
theorem d_Co_takeReady_21 : decode M_Co_takeReady.2.1 21 = .ok (.iload_n 2, 1) := by decide +kernel
theorem d_Co_takeReady_22 : decode M_Co_takeReady.2.1 22 = .ok (.iload_n 3, 1) := by decide +kernel
theorem d_Co_takeReady_23 : decode M_Co_takeReady.2.1 23 = .ok (.iload 4, 2) := by decide +kernel
theorem d_Co_takeReady_25 : decode M_Co_takeReady.2.1 25 = .ok (.ifCond .eq 12, 3) := by decide +kernel
theorem d_Co_takeReady_28 : decode M_Co_takeReady.2.1 28 = .ok (.iload_n 2, 1) := by decide +kernel
theorem d_Co_takeReady_29 : decode M_Co_takeReady.2.1 29 = .ok (.iconst 2, 1) := by decide +kernel
theorem d_Co_takeReady_30 : decode M_Co_takeReady.2.1 30 = .ok (.if_icmp .ne 7, 3) := by decide +kernel
theorem d_Co_takeReady_33 : decode M_Co_takeReady.2.1 33 = .ok (.iconst 1, 1) := by decide +kernel
theorem d_Co_takeReady_34 : decode M_Co_takeReady.2.1 34 = .ok (.goto 4, 3) := by decide +kernel
theorem d_Co_takeReady_37 : decode M_Co_takeReady.2.1 37 = .ok (.iconst 0, 1) := by decide +kernel
theorem d_Co_takeReady_38 : decode M_Co_takeReady.2.1 38 = .ok (.invokevirtual 67, 3) := by decide +kernel
theorem d_Co_takeReady_41 : decode M_Co_takeReady.2.1 41 = .ok (.return_, 1) := by decide +kernel
theorem d_Co_takeTables_0 : decode M_Co_takeTables.2.1 0 = .ok (.iconst 0, 1) := by decide +kernel
theorem d_Co_takeTables_1 : decode M_Co_takeTables.2.1 1 = .ok (.istore_n 3, 1) := by decide +kernel
theorem d_Co_takeTables_2 : decode M_Co_takeTables.2.1 2 = .ok (.iload_n 3, 1) := by decide +kernel
theorem d_Co_takeTables_3 : decode M_Co_takeTables.2.1 3 = .ok (.aload_n 1, 1) := by decide +kernel
theorem d_Co_takeTables_4 : decode M_Co_takeTables.2.1 4 = .ok (.getfield 76, 3) := by decide +kernel
theorem d_Co_takeTables_7 : decode M_Co_takeTables.2.1 7 = .ok (.if_icmp .ge 36, 3) := by decide +kernel
theorem d_Co_takeTables_10 : decode M_Co_takeTables.2.1 10 = .ok (.aload_n 0, 1) := by decide +kernel
theorem d_Co_takeTables_11 : decode M_Co_takeTables.2.1 11 = .ok (.aload_n 1, 1) := by decide +kernel
theorem d_Co_takeTables_12 : decode M_Co_takeTables.2.1 12 = .ok (.iload_n 3, 1) := by decide +kernel
theorem d_Co_takeTables_13 : decode M_Co_takeTables.2.1 13 = .ok (.iload_n 2, 1) := by decide +kernel
theorem d_Co_takeTables_14 : decode M_Co_takeTables.2.1 14 = .ok (.iconst 0, 1) := by decide +kernel
theorem d_Co_takeTables_15 : decode M_Co_takeTables.2.1 15 = .ok (.invokevirtual 140, 3) := by decide +kernel
theorem d_Co_takeTables_18 : decode M_Co_takeTables.2.1 18 = .ok (.aload_n 1, 1) := by decide +kernel
theorem d_Co_takeTables_19 : decode M_Co_takeTables.2.1 19 = .ok (.getfield 87, 3) := by decide +kernel
theorem d_Co_takeTables_22 : decode M_Co_takeTables.2.1 22 = .ok (.iload_n 3, 1) := by decide +kernel
theorem d_Co_takeTables_23 : decode M_Co_takeTables.2.1 23 = .ok (.iaload, 1) := by decide +kernel
theorem d_Co_takeTables_24 : decode M_Co_takeTables.2.1 24 = .ok (.iconst 1, 1) := by decide +kernel
theorem d_Co_takeTables_25 : decode M_Co_takeTables.2.1 25 = .ok (.if_icmp .ne 12, 3) := by decide +kernel
theorem d_Co_takeTables_28 : decode M_Co_takeTables.2.1 28 = .ok (.aload_n 0, 1) := by decide +kernel
theorem d_Co_takeTables_29 : decode M_Co_takeTables.2.1 29 = .ok (.aload_n 1, 1) := by decide +kernel
theorem d_Co_takeTables_30 : decode M_Co_takeTables.2.1 30 = .ok (.iload_n 3, 1) := by decide +kernel
theorem d_Co_takeTables_31 : decode M_Co_takeTables.2.1 31 = .ok (.iload_n 2, 1) := by decide +kernel
theorem d_Co_takeTables_32 : decode M_Co_takeTables.2.1 32 = .ok (.bipush 16, 2) := by decide +kernel
theorem d_Co_takeTables_34 : decode M_Co_takeTables.2.1 34 = .ok (.invokevirtual 140, 3) := by decide +kernel
theorem d_Co_takeTables_37 : decode M_Co_takeTables.2.1 37 = .ok (.iinc 3 1, 3) := by decide +kernel
theorem d_Co_takeTables_40 : decode M_Co_takeTables.2.1 40 = .ok (.goto (-38), 3) := by decide +kernel
theorem d_Co_takeTables_43 : decode M_Co_takeTables.2.1 43 = .ok (.return_, 1) := by decide +kernel
theorem d_Co_takeTable_0 : decode M_Co_takeTable.2.1 0 = .ok (.aload_n 1, 1) := by decide +kernel
theorem d_Co_takeTable_1 : decode M_Co_takeTable.2.1 1 = .ok (.iload_n 2, 1) := by decide +kernel
theorem d_Co_takeTable_2 : decode M_Co_takeTable.2.1 2 = .ok (.invokevirtual 94, 3) := by decide +kernel
theorem d_Co_takeTable_5 : decode M_Co_takeTable.2.1 5 = .ok (.istore 5, 2) := by decide +kernel
theorem d_Co_takeTable_7 : decode M_Co_takeTable.2.1 7 = .ok (.aload_n 1, 1) := by decide +kernel
theorem d_Co_takeTable_8 : decode M_Co_takeTable.2.1 8 = .ok (.iload_n 2, 1) := by decide +kernel
theorem d_Co_takeTable_9 : decode M_Co_takeTable.2.1 9 = .ok (.aload_n 1, 1) := by decide +kernel
theorem d_Co_takeTable_10 : decode M_Co_takeTable.2.1 10 = .ok (.iload_n 3, 1) := by decide +kernel
theorem d_Co_takeTable_11 : decode M_Co_takeTable.2.1 11 = .ok (.iconst 3, 1) := by decide +kernel
theorem d_Co_takeTable_12 : decode M_Co_takeTable.2.1 12 = .ok (.invokevirtual 70, 3) := by decide +kernel
theorem d_Co_takeTable_15 : decode M_Co_takeTable.2.1 15 = .ok (.iload_n 3, 1) := by decide +kernel
theorem d_Co_takeTable_16 : decode M_Co_takeTable.2.1 16 = .ok (.isub, 1) := by decide +kernel
theorem d_Co_takeTable_17 : decode M_Co_takeTable.2.1 17 = .ok (.invokevirtual 129, 3) := by decide +kernel
theorem d_Co_takeTable_20 : decode M_Co_takeTable.2.1 20 = .ok (.istore 6, 2) := by decide +kernel
theorem d_Co_takeTable_22 : decode M_Co_takeTable.2.1 22 = .ok (.aload_n 1, 1) := by decide +kernel
theorem d_Co_takeTable_23 : decode M_Co_takeTable.2.1 23 = .ok (.getfield 98, 3) := by decide +kernel
theorem d_Co_takeTable_26 : decode M_Co_takeTable.2.1 26 = .ok (.iload_n 2, 1) := by decide +kernel
theorem d_Co_takeTable_27 : decode M_Co_takeTable.2.1 27 = .ok (.iaload, 1) := by decide +kernel
theorem d_Co_takeTable_28 : decode M_Co_takeTable.2.1 28 = .ok (.istore 7, 2) := by decide +kernel
theorem d_Co_takeTable_30 : decode M_Co_takeTable.2.1 30 = .ok (.iconst 0, 1) := by decide +kernel
theorem d_Co_takeTable_31 : decode M_Co_takeTable.2.1 31 = .ok (.istore 8, 2) := by decide +kernel
theorem d_Co_takeTable_33 : decode M_Co_takeTable.2.1 33 = .ok (.iload 8, 2) := by decide +kernel
theorem d_Co_takeTable_35 : decode M_Co_takeTable.2.1 35 = .ok (.iload 6, 2) := by decide +kernel
theorem d_Co_takeTable_37 : decode M_Co_takeTable.2.1 37 = .ok (.if_icmp .ge 44, 3) := by decide +kernel
theorem d_Co_takeTable_40 : decode M_Co_takeTable.2.1 40 = .ok (.iconst 0, 1) := by decide +kernel
theorem d_Co_takeTable_41 : decode M_Co_takeTable.2.1 41 = .ok (.istore 9, 2) := by decide +kernel
theorem d_Co_takeTable_43 : decode M_Co_takeTable.2.1 43 = .ok (.iload 9, 2) := by decide +kernel
theorem d_Co_takeTable_45 : decode M_Co_takeTable.2.1 45 = .ok (.iload 5, 2) := by decide +kernel
theorem d_Co_takeTable_47 : decode M_Co_takeTable.2.1 47 = .ok (.if_icmp .ge 28, 3) := by decide +kernel
theorem d_Co_takeTable_50 : decode M_Co_takeTable.2.1 50 = .ok (.aload_n 0, 1) := by decide +kernel
theorem d_Co_takeTable_51 : decode M_Co_takeTable.2.1 51 = .ok (.getfield 33, 3) := by decide +kernel
theorem d_Co_takeTable_54 : decode M_Co_takeTable.2.1 54 = .ok (.iload 9, 2) := by decide +kernel
theorem d_Co_takeTable_56 : decode M_Co_takeTable.2.1 56 = .ok (.iload 8, 2) := by decide +kernel
theorem d_Co_takeTable_58 : decode M_Co_takeTable.2.1 58 = .ok (.aload_n 0, 1) := by decide +kernel
theorem d_Co_takeTable_59 : decode M_Co_takeTable.2.1 59 = .ok (.getfield 14, 3) := by decide +kernel
theorem d_Co_takeTable_62 : decode M_Co_takeTable.2.1 62 = .ok (.iconst 2, 1) := by decide +kernel
theorem d_Co_takeTable_63 : decode M_Co_takeTable.2.1 63 = .ok (.invokevirtual 117, 3) := by decide +kernel
theorem d_Co_takeTable_66 : decode M_Co_takeTable.2.1 66 = .ok (.invokevirtual 132, 3) := by decide +kernel
theorem d_Co_takeTable_69 : decode M_Co_takeTable.2.1 69 = .ok (.iinc 9 1, 3) := by decide +kernel
theorem d_Co_takeTable_72 : decode M_Co_takeTable.2.1 72 = .ok (.goto (-29), 3) := by decide +kernel
theorem d_Co_takeTable_75 : decode M_Co_takeTable.2.1 75 = .ok (.iinc 8 1, 3) := by decide +kernel
theorem d_Co_takeTable_78 : decode M_Co_takeTable.2.1 78 = .ok (.goto (-45), 3) := by decide +kernel
theorem d_Co_takeTable_81 : decode M_Co_takeTable.2.1 81 = .ok (.aload_n 0, 1) := by decide +kernel
theorem d_Co_takeTable_82 : decode M_Co_takeTable.2.1 82 = .ok (.getfield 33, 3) := by decide +kernel
theorem d_Co_takeTable_85 : decode M_Co_takeTable.2.1 85 = .ok (.iload 5, 2) := by decide +kernel
theorem d_Co_takeTable_87 : decode M_Co_takeTable.2.1 87 = .ok (.iload 6, 2) := by decide +kernel
theorem d_Co_takeTable_89 : decode M_Co_takeTable.2.1 89 = .ok (.invokevirtual 143, 3) := by decide +kernel
theorem d_Co_takeTable_92 : decode M_Co_takeTable.2.1 92 = .ok (.iconst 0, 1) := by decide +kernel
theorem d_Co_takeTable_93 : decode M_Co_takeTable.2.1 93 = .ok (.istore 8, 2) := by decide +kernel
theorem d_Co_takeTable_95 : decode M_Co_takeTable.2.1 95 = .ok (.iload 8, 2) := by decide +kernel
theorem d_Co_takeTable_97 : decode M_Co_takeTable.2.1 97 = .ok (.iload 6, 2) := by decide +kernel
theorem d_Co_takeTable_99 : decode M_Co_takeTable.2.1 99 = .ok (.if_icmp .ge 73, 3) := by decide +kernel
theorem d_Co_takeTable_102 : decode M_Co_takeTable.2.1 102 = .ok (.iconst 0, 1) := by decide +kernel
theorem d_Co_takeTable_103 : decode M_Co_takeTable.2.1 103 = .ok (.istore 9, 2) := by decide +kernel
theorem d_Co_takeTable_105 : decode M_Co_takeTable.2.1 105 = .ok (.iload 9, 2) := by decide +kernel
theorem d_Co_takeTable_107 : decode M_Co_takeTable.2.1 107 = .ok (.iload 5, 2) := by decide +kernel
theorem d_Co_takeTable_109 : decode M_Co_takeTable.2.1 109 = .ok (.if_icmp .ge 57, 3) := by decide +kernel
theorem d_Co_takeTable_112 : decode M_Co_takeTable.2.1 112 = .ok (.iload_n 3, 1) := by decide +kernel
theorem d_Co_takeTable_113 : decode M_Co_takeTable.2.1 113 = .ok (.iload 8, 2) := by decide +kernel
theorem d_Co_takeTable_115 : decode M_Co_takeTable.2.1 115 = .ok (.iload 7, 2) := by decide +kernel
theorem d_Co_takeTable_117 : decode M_Co_takeTable.2.1 117 = .ok (.imul, 1) := by decide +kernel
theorem d_Co_takeTable_118 : decode M_Co_takeTable.2.1 118 = .ok (.iadd, 1) := by decide +kernel
theorem d_Co_takeTable_119 : decode M_Co_takeTable.2.1 119 = .ok (.istore 10, 2) := by decide +kernel
theorem d_Co_takeTable_121 : decode M_Co_takeTable.2.1 121 = .ok (.aload_n 1, 1) := by decide +kernel
theorem d_Co_takeTable_122 : decode M_Co_takeTable.2.1 122 = .ok (.iload_n 2, 1) := by decide +kernel
theorem d_Co_takeTable_123 : decode M_Co_takeTable.2.1 123 = .ok (.iload 9, 2) := by decide +kernel
theorem d_Co_takeTable_125 : decode M_Co_takeTable.2.1 125 = .ok (.iload 7, 2) := by decide +kernel
theorem d_Co_takeTable_127 : decode M_Co_takeTable.2.1 127 = .ok (.imul, 1) := by decide +kernel
theorem d_Co_takeTable_128 : decode M_Co_takeTable.2.1 128 = .ok (.iload 10, 2) := by decide +kernel
theorem d_Co_takeTable_130 : decode M_Co_takeTable.2.1 130 = .ok (.aload_n 1, 1) := by decide +kernel
theorem d_Co_takeTable_131 : decode M_Co_takeTable.2.1 131 = .ok (.iload_n 2, 1) := by decide +kernel
theorem d_Co_takeTable_132 : decode M_Co_takeTable.2.1 132 = .ok (.iload 9, 2) := by decide +kernel
theorem d_Co_takeTable_134 : decode M_Co_takeTable.2.1 134 = .ok (.iload 7, 2) := by decide +kernel
theorem d_Co_takeTable_136 : decode M_Co_takeTable.2.1 136 = .ok (.imul, 1) := by decide +kernel
theorem d_Co_takeTable_137 : decode M_Co_takeTable.2.1 137 = .ok (.iload 10, 2) := by decide +kernel
theorem d_Co_takeTable_139 : decode M_Co_takeTable.2.1 139 = .ok (.invokevirtual 101, 3) := by decide +kernel
theorem d_Co_takeTable_142 : decode M_Co_takeTable.2.1 142 = .ok (.aload_n 0, 1) := by decide +kernel
theorem d_Co_takeTable_143 : decode M_Co_takeTable.2.1 143 = .ok (.getfield 33, 3) := by decide +kernel
theorem d_Co_takeTable_146 : decode M_Co_takeTable.2.1 146 = .ok (.iload 9, 2) := by decide +kernel
theorem d_Co_takeTable_148 : decode M_Co_takeTable.2.1 148 = .ok (.iload 8, 2) := by decide +kernel
theorem d_Co_takeTable_150 : decode M_Co_takeTable.2.1 150 = .ok (.invokevirtual 138, 3) := by decide +kernel
theorem d_Co_takeTable_153 : decode M_Co_takeTable.2.1 153 = .ok (.iload 4, 2) := by decide +kernel
theorem d_Co_takeTable_155 : decode M_Co_takeTable.2.1 155 = .ok (.ishl, 1) := by decide +kernel
theorem d_Co_takeTable_156 : decode M_Co_takeTable.2.1 156 = .ok (.ior, 1) := by decide +kernel
theorem d_Co_takeTable_157 : decode M_Co_takeTable.2.1 157 = .ok (.invokevirtual 121, 3) := by decide +kernel
theorem d_Co_takeTable_160 : decode M_Co_takeTable.2.1 160 = .ok (.iinc 9 1, 3) := by decide +kernel
theorem d_Co_takeTable_163 : decode M_Co_takeTable.2.1 163 = .ok (.goto (-58), 3) := by decide +kernel
theorem d_Co_takeTable_166 : decode M_Co_takeTable.2.1 166 = .ok (.iinc 8 1, 3) := by decide +kernel
theorem d_Co_takeTable_169 : decode M_Co_takeTable.2.1 169 = .ok (.goto (-74), 3) := by decide +kernel
theorem d_Co_takeTable_172 : decode M_Co_takeTable.2.1 172 = .ok (.return_, 1) := by decide +kernel
theorem d_Co_takeLines_0 : decode M_Co_takeLines.2.1 0 = .ok (.aload_n 1, 1) := by decide +kernel
theorem d_Co_takeLines_1 : decode M_Co_takeLines.2.1 1 = .ok (.iload_n 3, 1) := by decide +kernel
theorem d_Co_takeLines_2 : decode M_Co_takeLines.2.1 2 = .ok (.iload_n 2, 1) := by decide +kernel
theorem d_Co_takeLines_3 : decode M_Co_takeLines.2.1 3 = .ok (.invokevirtual 70, 3) := by decide +kernel
theorem d_Co_takeLines_6 : decode M_Co_takeLines.2.1 6 = .ok (.istore 5, 2) := by decide +kernel
theorem d_Co_takeLines_8 : decode M_Co_takeLines.2.1 8 = .ok (.iload_n 3, 1) := by decide +kernel
theorem d_Co_takeLines_9 : decode M_Co_takeLines.2.1 9 = .ok (.istore 6, 2) := by decide +kernel
theorem d_Co_takeLines_11 : decode M_Co_takeLines.2.1 11 = .ok (.iload 6, 2) := by decide +kernel
theorem d_Co_takeLines_13 : decode M_Co_takeLines.2.1 13 = .ok (.iload 5, 2) := by decide +kernel
theorem d_Co_takeLines_15 : decode M_Co_takeLines.2.1 15 = .ok (.if_icmp .ge 50, 3) := by decide +kernel
theorem d_Co_takeLines_18 : decode M_Co_takeLines.2.1 18 = .ok (.iconst 0, 1) := by decide +kernel
theorem d_Co_takeLines_19 : decode M_Co_takeLines.2.1 19 = .ok (.istore 7, 2) := by decide +kernel
theorem d_Co_takeLines_21 : decode M_Co_takeLines.2.1 21 = .ok (.iload 7, 2) := by decide +kernel
theorem d_Co_takeLines_23 : decode M_Co_takeLines.2.1 23 = .ok (.aload_n 1, 1) := by decide +kernel
theorem d_Co_takeLines_24 : decode M_Co_takeLines.2.1 24 = .ok (.getfield 76, 3) := by decide +kernel
theorem d_Co_takeLines_27 : decode M_Co_takeLines.2.1 27 = .ok (.if_icmp .ge 32, 3) := by decide +kernel
theorem d_Co_takeLines_30 : decode M_Co_takeLines.2.1 30 = .ok (.aload_n 1, 1) := by decide +kernel
theorem d_Co_takeLines_31 : decode M_Co_takeLines.2.1 31 = .ok (.iload 7, 2) := by decide +kernel
theorem d_Co_takeLines_33 : decode M_Co_takeLines.2.1 33 = .ok (.iload 6, 2) := by decide +kernel
theorem d_Co_takeLines_35 : decode M_Co_takeLines.2.1 35 = .ok (.invokevirtual 79, 3) := by decide +kernel
theorem d_Co_takeLines_38 : decode M_Co_takeLines.2.1 38 = .ok (.ifCond .eq 15, 3) := by decide +kernel
theorem d_Co_takeLines_41 : decode M_Co_takeLines.2.1 41 = .ok (.aload_n 0, 1) := by decide +kernel
theorem d_Co_takeLines_42 : decode M_Co_takeLines.2.1 42 = .ok (.aload_n 1, 1) := by decide +kernel
theorem d_Co_takeLines_43 : decode M_Co_takeLines.2.1 43 = .ok (.iload 7, 2) := by decide +kernel
theorem d_Co_takeLines_45 : decode M_Co_takeLines.2.1 45 = .ok (.iload 6, 2) := by decide +kernel
theorem d_Co_takeLines_47 : decode M_Co_takeLines.2.1 47 = .ok (.iload_n 2, 1) := by decide +kernel
theorem d_Co_takeLines_48 : decode M_Co_takeLines.2.1 48 = .ok (.iload 4, 2) := by decide +kernel
theorem d_Co_takeLines_50 : decode M_Co_takeLines.2.1 50 = .ok (.invokevirtual 114, 3) := by decide +kernel
theorem d_Co_takeLines_53 : decode M_Co_takeLines.2.1 53 = .ok (.iinc 7 1, 3) := by decide +kernel
theorem d_Co_takeLines_56 : decode M_Co_takeLines.2.1 56 = .ok (.goto (-35), 3) := by decide +kernel
theorem d_Co_takeLines_59 : decode M_Co_takeLines.2.1 59 = .ok (.iinc 6 1, 3) := by decide +kernel
theorem d_Co_takeLines_62 : decode M_Co_takeLines.2.1 62 = .ok (.goto (-51), 3) := by decide +kernel
theorem d_Co_takeLines_65 : decode M_Co_takeLines.2.1 65 = .ok (.return_, 1) := by decide +kernel
theorem d_Co_takeLine_0 : decode M_Co_takeLine.2.1 0 = .ok (.aload_n 1, 1) := by decide +kernel
theorem d_Co_takeLine_1 : decode M_Co_takeLine.2.1 1 = .ok (.getfield 87, 3) := by decide +kernel
theorem d_Co_takeLine_4 : decode M_Co_takeLine.2.1 4 = .ok (.iload_n 2, 1) := by decide +kernel
theorem d_Co_takeLine_5 : decode M_Co_takeLine.2.1 5 = .ok (.iaload, 1) := by decide +kernel
theorem d_Co_takeLine_6 : decode M_Co_takeLine.2.1 6 = .ok (.iload 4, 2) := by decide +kernel
theorem d_Co_takeLine_8 : decode M_Co_takeLine.2.1 8 = .ok (.invokestatic 91, 3) := by decide +kernel
theorem d_Co_takeLine_11 : decode M_Co_takeLine.2.1 11 = .ok (.istore 6, 2) := by decide +kernel
theorem d_Co_takeLine_13 : decode M_Co_takeLine.2.1 13 = .ok (.aload_n 1, 1) := by decide +kernel
theorem d_Co_takeLine_14 : decode M_Co_takeLine.2.1 14 = .ok (.iload_n 2, 1) := by decide +kernel
theorem d_Co_takeLine_15 : decode M_Co_takeLine.2.1 15 = .ok (.invokevirtual 94, 3) := by decide +kernel
theorem d_Co_takeLine_18 : decode M_Co_takeLine.2.1 18 = .ok (.istore 7, 2) := by decide +kernel
theorem d_Co_takeLine_20 : decode M_Co_takeLine.2.1 20 = .ok (.iconst 0, 1) := by decide +kernel
theorem d_Co_takeLine_21 : decode M_Co_takeLine.2.1 21 = .ok (.istore 8, 2) := by decide +kernel
theorem d_Co_takeLine_23 : decode M_Co_takeLine.2.1 23 = .ok (.iconst 0, 1) := by decide +kernel
theorem d_Co_takeLine_24 : decode M_Co_takeLine.2.1 24 = .ok (.istore 9, 2) := by decide +kernel
theorem d_Co_takeLine_26 : decode M_Co_takeLine.2.1 26 = .ok (.iload 9, 2) := by decide +kernel
theorem d_Co_takeLine_28 : decode M_Co_takeLine.2.1 28 = .ok (.iload 7, 2) := by decide +kernel
theorem d_Co_takeLine_30 : decode M_Co_takeLine.2.1 30 = .ok (.if_icmp .ge 82, 3) := by decide +kernel
theorem d_Co_takeLine_33 : decode M_Co_takeLine.2.1 33 = .ok (.aload_n 0, 1) := by decide +kernel
theorem d_Co_takeLine_34 : decode M_Co_takeLine.2.1 34 = .ok (.getfield 14, 3) := by decide +kernel
theorem d_Co_takeLine_37 : decode M_Co_takeLine.2.1 37 = .ok (.iload 6, 2) := by decide +kernel
theorem d_Co_takeLine_39 : decode M_Co_takeLine.2.1 39 = .ok (.invokevirtual 117, 3) := by decide +kernel
theorem d_Co_takeLine_42 : decode M_Co_takeLine.2.1 42 = .ok (.iload 5, 2) := by decide +kernel
theorem d_Co_takeLine_44 : decode M_Co_takeLine.2.1 44 = .ok (.ifCond .eq 8, 3) := by decide +kernel
theorem d_Co_takeLine_47 : decode M_Co_takeLine.2.1 47 = .ok (.iload 8, 2) := by decide +kernel
theorem d_Co_takeLine_49 : decode M_Co_takeLine.2.1 49 = .ok (.goto 4, 3) := by decide +kernel
theorem d_Co_takeLine_52 : decode M_Co_takeLine.2.1 52 = .ok (.iconst 0, 1) := by decide +kernel
theorem d_Co_takeLine_53 : decode M_Co_takeLine.2.1 53 = .ok (.iadd, 1) := by decide +kernel
theorem d_Co_takeLine_54 : decode M_Co_takeLine.2.1 54 = .ok (.istore 10, 2) := by decide +kernel
theorem d_Co_takeLine_56 : decode M_Co_takeLine.2.1 56 = .ok (.iload 10, 2) := by decide +kernel
theorem d_Co_takeLine_58 : decode M_Co_takeLine.2.1 58 = .ok (.istore 8, 2) := by decide +kernel
theorem d_Co_takeLine_60 : decode M_Co_takeLine.2.1 60 = .ok (.iload 6, 2) := by decide +kernel
theorem d_Co_takeLine_62 : decode M_Co_takeLine.2.1 62 = .ok (.iconst 2, 1) := by decide +kernel
theorem d_Co_takeLine_63 : decode M_Co_takeLine.2.1 63 = .ok (.if_icmp .ne 13, 3) := by decide +kernel
theorem d_Co_takeLine_66 : decode M_Co_takeLine.2.1 66 = .ok (.iload 10, 2) := by decide +kernel
theorem d_Co_takeLine_68 : decode M_Co_takeLine.2.1 68 = .ok (.ldc 120, 2) := by decide +kernel
theorem d_Co_takeLine_70 : decode M_Co_takeLine.2.1 70 = .ok (.iand, 1) := by decide +kernel
theorem d_Co_takeLine_71 : decode M_Co_takeLine.2.1 71 = .ok (.istore 10, 2) := by decide +kernel
theorem d_Co_takeLine_73 : decode M_Co_takeLine.2.1 73 = .ok (.goto 16, 3) := by decide +kernel
theorem d_Co_takeLine_76 : decode M_Co_takeLine.2.1 76 = .ok (.iload 6, 2) := by decide +kernel
theorem d_Co_takeLine_78 : decode M_Co_takeLine.2.1 78 = .ok (.iconst 3, 1) := by decide +kernel
theorem d_Co_takeLine_79 : decode M_Co_takeLine.2.1 79 = .ok (.if_icmp .ne 10, 3) := by decide +kernel
theorem d_Co_takeLine_82 : decode M_Co_takeLine.2.1 82 = .ok (.iload 10, 2) := by decide +kernel
theorem d_Co_takeLine_84 : decode M_Co_takeLine.2.1 84 = .ok (.bipush 8, 2) := by decide +kernel
theorem d_Co_takeLine_86 : decode M_Co_takeLine.2.1 86 = .ok (.ishl, 1) := by decide +kernel
theorem d_Co_takeLine_87 : decode M_Co_takeLine.2.1 87 = .ok (.istore 10, 2) := by decide +kernel
theorem d_Co_takeLine_89 : decode M_Co_takeLine.2.1 89 = .ok (.aload_n 1, 1) := by decide +kernel
theorem d_Co_takeLine_90 : decode M_Co_takeLine.2.1 90 = .ok (.iload_n 2, 1) := by decide +kernel
theorem d_Co_takeLine_91 : decode M_Co_takeLine.2.1 91 = .ok (.iload 9, 2) := by decide +kernel
theorem d_Co_takeLine_93 : decode M_Co_takeLine.2.1 93 = .ok (.aload_n 1, 1) := by decide +kernel
theorem d_Co_takeLine_94 : decode M_Co_takeLine.2.1 94 = .ok (.getfield 98, 3) := by decide +kernel
theorem d_Co_takeLine_97 : decode M_Co_takeLine.2.1 97 = .ok (.iload_n 2, 1) := by decide +kernel
theorem d_Co_takeLine_98 : decode M_Co_takeLine.2.1 98 = .ok (.iaload, 1) := by decide +kernel
theorem d_Co_takeLine_99 : decode M_Co_takeLine.2.1 99 = .ok (.imul, 1) := by decide +kernel
theorem d_Co_takeLine_100 : decode M_Co_takeLine.2.1 100 = .ok (.iload_n 3, 1) := by decide +kernel
theorem d_Co_takeLine_101 : decode M_Co_takeLine.2.1 101 = .ok (.iload 10, 2) := by decide +kernel
theorem d_Co_takeLine_103 : decode M_Co_takeLine.2.1 103 = .ok (.invokevirtual 121, 3) := by decide +kernel
theorem d_Co_takeLine_106 : decode M_Co_takeLine.2.1 106 = .ok (.iinc 9 1, 3) := by decide +kernel
theorem d_Co_takeLine_109 : decode M_Co_takeLine.2.1 109 = .ok (.goto (-83), 3) := by decide +kernel
theorem d_Co_takeLine_112 : decode M_Co_takeLine.2.1 112 = .ok (.return_, 1) := by decide +kernel
theorem d_Pa_init_0 : decode M_Pa_init.2.1 0 = .ok (.aload_n 0, 1) := by decide +kernel
theorem d_Pa_init_1 : decode M_Pa_init.2.1 1 = .ok (.invokespecial 3, 3) := by decide +kernel
theorem d_Pa_init_4 : decode M_Pa_init.2.1 4 = .ok (.aload_n 0, 1) := by decide +kernel
theorem d_Pa_init_5 : decode M_Pa_init.2.1 5 = .ok (.new 9, 3) := by decide +kernel
theorem d_Pa_init_8 : decode M_Pa_init.2.1 8 = .ok (.dup, 1) := by decide +kernel
theorem d_Pa_init_9 : decode M_Pa_init.2.1 9 = .ok (.sipush 384, 3) := by decide +kernel
theorem d_Pa_init_12 : decode M_Pa_init.2.1 12 = .ok (.invokespecial 11, 3) := by decide +kernel
theorem d_Pa_init_15 : decode M_Pa_init.2.1 15 = .ok (.putfield 14, 3) := by decide +kernel
theorem d_Pa_init_18 : decode M_Pa_init.2.1 18 = .ok (.return_, 1) := by decide +kernel
theorem d_Pa_pack_0 : decode M_Pa_pack.2.1 0 = .ok (.aload_n 0, 1) := by decide +kernel
theorem d_Pa_pack_1 : decode M_Pa_pack.2.1 1 = .ok (.aload_n 1, 1) := by decide +kernel
theorem d_Pa_pack_2 : decode M_Pa_pack.2.1 2 = .ok (.invokevirtual 20, 3) := by decide +kernel
theorem d_Pa_pack_5 : decode M_Pa_pack.2.1 5 = .ok (.aload_n 0, 1) := by decide +kernel
theorem d_Pa_pack_6 : decode M_Pa_pack.2.1 6 = .ok (.getfield 14, 3) := by decide +kernel
theorem d_Pa_pack_9 : decode M_Pa_pack.2.1 9 = .ok (.getfield 24, 3) := by decide +kernel
theorem d_Pa_pack_12 : decode M_Pa_pack.2.1 12 = .ok (.iconst 1, 1) := by decide +kernel
theorem d_Pa_pack_13 : decode M_Pa_pack.2.1 13 = .ok (.isub, 1) := by decide +kernel
theorem d_Pa_pack_14 : decode M_Pa_pack.2.1 14 = .ok (.istore_n 3, 1) := by decide +kernel
theorem d_Pa_pack_15 : decode M_Pa_pack.2.1 15 = .ok (.iload_n 3, 1) := by decide +kernel
theorem d_Pa_pack_16 : decode M_Pa_pack.2.1 16 = .ok (.ifCond .le 40, 3) := by decide +kernel
theorem d_Pa_pack_19 : decode M_Pa_pack.2.1 19 = .ok (.aload_n 0, 1) := by decide +kernel
theorem d_Pa_pack_20 : decode M_Pa_pack.2.1 20 = .ok (.getfield 14, 3) := by decide +kernel
theorem d_Pa_pack_23 : decode M_Pa_pack.2.1 23 = .ok (.iload_n 3, 1) := by decide +kernel
theorem d_Pa_pack_24 : decode M_Pa_pack.2.1 24 = .ok (.aload_n 0, 1) := by decide +kernel
theorem d_Pa_pack_25 : decode M_Pa_pack.2.1 25 = .ok (.getfield 14, 3) := by decide +kernel
theorem d_Pa_pack_28 : decode M_Pa_pack.2.1 28 = .ok (.iload_n 3, 1) := by decide +kernel
theorem d_Pa_pack_29 : decode M_Pa_pack.2.1 29 = .ok (.invokevirtual 28, 3) := by decide +kernel
theorem d_Pa_pack_32 : decode M_Pa_pack.2.1 32 = .ok (.aload_n 0, 1) := by decide +kernel
theorem d_Pa_pack_33 : decode M_Pa_pack.2.1 33 = .ok (.getfield 14, 3) := by decide +kernel
theorem d_Pa_pack_36 : decode M_Pa_pack.2.1 36 = .ok (.iload_n 3, 1) := by decide +kernel
theorem d_Pa_pack_37 : decode M_Pa_pack.2.1 37 = .ok (.iconst 1, 1) := by decide +kernel
theorem d_Pa_pack_38 : decode M_Pa_pack.2.1 38 = .ok (.isub, 1) := by decide +kernel
theorem d_Pa_pack_39 : decode M_Pa_pack.2.1 39 = .ok (.invokevirtual 28, 3) := by decide +kernel
theorem d_Pa_pack_42 : decode M_Pa_pack.2.1 42 = .ok (.isub, 1) := by decide +kernel
theorem d_Pa_pack_43 : decode M_Pa_pack.2.1 43 = .ok (.sipush 128, 3) := by decide +kernel
theorem d_Pa_pack_46 : decode M_Pa_pack.2.1 46 = .ok (.iadd, 1) := by decide +kernel
theorem d_Pa_pack_47 : decode M_Pa_pack.2.1 47 = .ok (.invokevirtual 32, 3) := by decide +kernel
theorem d_Pa_pack_50 : decode M_Pa_pack.2.1 50 = .ok (.iinc 3 (-1), 3) := by decide +kernel
theorem d_Pa_pack_53 : decode M_Pa_pack.2.1 53 = .ok (.goto (-38), 3) := by decide +kernel
theorem d_Pa_pack_56 : decode M_Pa_pack.2.1 56 = .ok (.aload_n 2, 1) := by decide +kernel
theorem d_Pa_pack_57 : decode M_Pa_pack.2.1 57 = .ok (.invokevirtual 36, 3) := by decide +kernel
theorem d_Pa_pack_60 : decode M_Pa_pack.2.1 60 = .ok (.iconst 0, 1) := by decide +kernel
theorem d_Pa_pack_61 : decode M_Pa_pack.2.1 61 = .ok (.istore_n 3, 1) := by decide +kernel
theorem d_Pa_pack_62 : decode M_Pa_pack.2.1 62 = .ok (.iconst 0, 1) := by decide +kernel
theorem d_Pa_pack_63 : decode M_Pa_pack.2.1 63 = .ok (.istore 4, 2) := by decide +kernel
theorem d_Pa_pack_65 : decode M_Pa_pack.2.1 65 = .ok (.iload 4, 2) := by decide +kernel
theorem d_Pa_pack_67 : decode M_Pa_pack.2.1 67 = .ok (.sipush 384, 3) := by decide +kernel
theorem d_Pa_pack_70 : decode M_Pa_pack.2.1 70 = .ok (.if_icmp .ge 94, 3) := by decide +kernel
theorem d_Pa_pack_73 : decode M_Pa_pack.2.1 73 = .ok (.iload_n 3, 1) := by decide +kernel
theorem d_Pa_pack_74 : decode M_Pa_pack.2.1 74 = .ok (.aload_n 0, 1) := by decide +kernel
theorem d_Pa_pack_75 : decode M_Pa_pack.2.1 75 = .ok (.getfield 14, 3) := by decide +kernel
theorem d_Pa_pack_78 : decode M_Pa_pack.2.1 78 = .ok (.getfield 24, 3) := by decide +kernel
theorem d_Pa_pack_81 : decode M_Pa_pack.2.1 81 = .ok (.if_icmp .ge 83, 3) := by decide +kernel
theorem d_Pa_pack_84 : decode M_Pa_pack.2.1 84 = .ok (.aload_n 0, 1) := by decide +kernel
theorem d_Pa_pack_85 : decode M_Pa_pack.2.1 85 = .ok (.iload_n 3, 1) := by decide +kernel
theorem d_Pa_pack_86 : decode M_Pa_pack.2.1 86 = .ok (.invokevirtual 39, 3) := by decide +kernel
theorem d_Pa_pack_89 : decode M_Pa_pack.2.1 89 = .ok (.istore 5, 2) := by decide +kernel
theorem d_Pa_pack_91 : decode M_Pa_pack.2.1 91 = .ok (.iload 5, 2) := by decide +kernel
theorem d_Pa_pack_93 : decode M_Pa_pack.2.1 93 = .ok (.iconst 3, 1) := by decide +kernel
theorem d_Pa_pack_94 : decode M_Pa_pack.2.1 94 = .ok (.if_icmp .lt 31, 3) := by decide +kernel
theorem d_Pa_pack_97 : decode M_Pa_pack.2.1 97 = .ok (.aload_n 2, 1) := by decide +kernel
theorem d_Pa_pack_98 : decode M_Pa_pack.2.1 98 = .ok (.iload 5, 2) := by decide +kernel
theorem d_Pa_pack_100 : decode M_Pa_pack.2.1 100 = .ok (.iconst 1, 1) := by decide +kernel
theorem d_Pa_pack_101 : decode M_Pa_pack.2.1 101 = .ok (.isub, 1) := by decide +kernel
theorem d_Pa_pack_102 : decode M_Pa_pack.2.1 102 = .ok (.invokevirtual 42, 3) := by decide +kernel
theorem d_Pa_pack_105 : decode M_Pa_pack.2.1 105 = .ok (.aload_n 2, 1) := by decide +kernel
theorem d_Pa_pack_106 : decode M_Pa_pack.2.1 106 = .ok (.aload_n 0, 1) := by decide +kernel
theorem d_Pa_pack_107 : decode M_Pa_pack.2.1 107 = .ok (.getfield 14, 3) := by decide +kernel
theorem d_Pa_pack_110 : decode M_Pa_pack.2.1 110 = .ok (.iload_n 3, 1) := by decide +kernel
theorem d_Pa_pack_111 : decode M_Pa_pack.2.1 111 = .ok (.invokevirtual 28, 3) := by decide +kernel
theorem d_Pa_pack_114 : decode M_Pa_pack.2.1 114 = .ok (.invokevirtual 42, 3) := by decide +kernel
theorem d_Pa_pack_117 : decode M_Pa_pack.2.1 117 = .ok (.iload_n 3, 1) := by decide +kernel
theorem d_Pa_pack_118 : decode M_Pa_pack.2.1 118 = .ok (.iload 5, 2) := by decide +kernel
theorem d_Pa_pack_120 : decode M_Pa_pack.2.1 120 = .ok (.iadd, 1) := by decide +kernel
theorem d_Pa_pack_121 : decode M_Pa_pack.2.1 121 = .ok (.istore_n 3, 1) := by decide +kernel
theorem d_Pa_pack_122 : decode M_Pa_pack.2.1 122 = .ok (.goto 36, 3) := by decide +kernel
theorem d_Pa_pack_125 : decode M_Pa_pack.2.1 125 = .ok (.aload_n 0, 1) := by decide +kernel
theorem d_Pa_pack_126 : decode M_Pa_pack.2.1 126 = .ok (.iload_n 3, 1) := by decide +kernel
theorem d_Pa_pack_127 : decode M_Pa_pack.2.1 127 = .ok (.invokevirtual 45, 3) := by decide +kernel
theorem d_Pa_pack_130 : decode M_Pa_pack.2.1 130 = .ok (.istore 6, 2) := by decide +kernel
theorem d_Pa_pack_132 : decode M_Pa_pack.2.1 132 = .ok (.aload_n 2, 1) := by decide +kernel
theorem d_Pa_pack_133 : decode M_Pa_pack.2.1 133 = .ok (.sipush 256, 3) := by decide +kernel
theorem d_Pa_pack_136 : decode M_Pa_pack.2.1 136 = .ok (.iload 6, 2) := by decide +kernel
theorem d_Pa_pack_138 : decode M_Pa_pack.2.1 138 = .ok (.iload_n 3, 1) := by decide +kernel
theorem d_Pa_pack_139 : decode M_Pa_pack.2.1 139 = .ok (.isub, 1) := by decide +kernel
theorem d_Pa_pack_140 : decode M_Pa_pack.2.1 140 = .ok (.isub, 1) := by decide +kernel
theorem d_Pa_pack_141 : decode M_Pa_pack.2.1 141 = .ok (.invokevirtual 42, 3) := by decide +kernel
theorem d_Pa_pack_144 : decode M_Pa_pack.2.1 144 = .ok (.aload_n 2, 1) := by decide +kernel
theorem d_Pa_pack_145 : decode M_Pa_pack.2.1 145 = .ok (.aload_n 0, 1) := by decide +kernel
theorem d_Pa_pack_146 : decode M_Pa_pack.2.1 146 = .ok (.getfield 14, 3) := by decide +kernel
theorem d_Pa_pack_149 : decode M_Pa_pack.2.1 149 = .ok (.iload_n 3, 1) := by decide +kernel
theorem d_Pa_pack_150 : decode M_Pa_pack.2.1 150 = .ok (.iload 6, 2) := by decide +kernel
theorem d_Pa_pack_152 : decode M_Pa_pack.2.1 152 = .ok (.invokevirtual 48, 3) := by decide +kernel
theorem d_Pa_pack_155 : decode M_Pa_pack.2.1 155 = .ok (.iload 6, 2) := by decide +kernel
theorem d_Pa_pack_157 : decode M_Pa_pack.2.1 157 = .ok (.istore_n 3, 1) := by decide +kernel
theorem d_Pa_pack_158 : decode M_Pa_pack.2.1 158 = .ok (.iinc 4 1, 3) := by decide +kernel
theorem d_Pa_pack_161 : decode M_Pa_pack.2.1 161 = .ok (.goto (-96), 3) := by decide +kernel
theorem d_Pa_pack_164 : decode M_Pa_pack.2.1 164 = .ok (.return_, 1) := by decide +kernel
theorem d_Pa_sort_0 : decode M_Pa_sort.2.1 0 = .ok (.aload_n 0, 1) := by decide +kernel
theorem d_Pa_sort_1 : decode M_Pa_sort.2.1 1 = .ok (.getfield 14, 3) := by decide +kernel
theorem d_Pa_sort_4 : decode M_Pa_sort.2.1 4 = .ok (.invokevirtual 36, 3) := by decide +kernel
theorem d_Pa_sort_7 : decode M_Pa_sort.2.1 7 = .ok (.iconst 0, 1) := by decide +kernel
theorem d_Pa_sort_8 : decode M_Pa_sort.2.1 8 = .ok (.istore_n 2, 1) := by decide +kernel
theorem d_Pa_sort_9 : decode M_Pa_sort.2.1 9 = .ok (.iload_n 2, 1) := by decide +kernel
theorem d_Pa_sort_10 : decode M_Pa_sort.2.1 10 = .ok (.aload_n 1, 1) := by decide +kernel
theorem d_Pa_sort_11 : decode M_Pa_sort.2.1 11 = .ok (.getfield 24, 3) := by decide +kernel
theorem d_Pa_sort_14 : decode M_Pa_sort.2.1 14 = .ok (.if_icmp .ge 21, 3) := by decide +kernel
theorem d_Pa_sort_17 : decode M_Pa_sort.2.1 17 = .ok (.aload_n 0, 1) := by decide +kernel
theorem d_Pa_sort_18 : decode M_Pa_sort.2.1 18 = .ok (.getfield 14, 3) := by decide +kernel
theorem d_Pa_sort_21 : decode M_Pa_sort.2.1 21 = .ok (.aload_n 1, 1) := by decide +kernel
theorem d_Pa_sort_22 : decode M_Pa_sort.2.1 22 = .ok (.iload_n 2, 1) := by decide +kernel
theorem d_Pa_sort_23 : decode M_Pa_sort.2.1 23 = .ok (.invokevirtual 28, 3) := by decide +kernel
theorem d_Pa_sort_26 : decode M_Pa_sort.2.1 26 = .ok (.invokevirtual 42, 3) := by decide +kernel
theorem d_Pa_sort_29 : decode M_Pa_sort.2.1 29 = .ok (.iinc 2 2, 3) := by decide +kernel
theorem d_Pa_sort_32 : decode M_Pa_sort.2.1 32 = .ok (.goto (-23), 3) := by decide +kernel
theorem d_Pa_sort_35 : decode M_Pa_sort.2.1 35 = .ok (.iconst 1, 1) := by decide +kernel
theorem d_Pa_sort_36 : decode M_Pa_sort.2.1 36 = .ok (.istore_n 2, 1) := by decide +kernel
theorem d_Pa_sort_37 : decode M_Pa_sort.2.1 37 = .ok (.iload_n 2, 1) := by decide +kernel
theorem d_Pa_sort_38 : decode M_Pa_sort.2.1 38 = .ok (.aload_n 1, 1) := by decide +kernel
theorem d_Pa_sort_39 : decode M_Pa_sort.2.1 39 = .ok (.getfield 24, 3) := by decide +kernel
theorem d_Pa_sort_42 : decode M_Pa_sort.2.1 42 = .ok (.if_icmp .ge 21, 3) := by decide +kernel
theorem d_Pa_sort_45 : decode M_Pa_sort.2.1 45 = .ok (.aload_n 0, 1) := by decide +kernel
theorem d_Pa_sort_46 : decode M_Pa_sort.2.1 46 = .ok (.getfield 14, 3) := by decide +kernel
theorem d_Pa_sort_49 : decode M_Pa_sort.2.1 49 = .ok (.aload_n 1, 1) := by decide +kernel
theorem d_Pa_sort_50 : decode M_Pa_sort.2.1 50 = .ok (.iload_n 2, 1) := by decide +kernel
theorem d_Pa_sort_51 : decode M_Pa_sort.2.1 51 = .ok (.invokevirtual 28, 3) := by decide +kernel
theorem d_Pa_sort_54 : decode M_Pa_sort.2.1 54 = .ok (.invokevirtual 42, 3) := by decide +kernel
theorem d_Pa_sort_57 : decode M_Pa_sort.2.1 57 = .ok (.iinc 2 2, 3) := by decide +kernel
theorem d_Pa_sort_60 : decode M_Pa_sort.2.1 60 = .ok (.goto (-23), 3) := by decide +kernel
theorem d_Pa_sort_63 : decode M_Pa_sort.2.1 63 = .ok (.return_, 1) := by decide +kernel
theorem d_Pa_alikeFrom_0 : decode M_Pa_alikeFrom.2.1 0 = .ok (.iload_n 1, 1) := by decide +kernel
theorem d_Pa_alikeFrom_1 : decode M_Pa_alikeFrom.2.1 1 = .ok (.iconst 1, 1) := by decide +kernel
theorem d_Pa_alikeFrom_2 : decode M_Pa_alikeFrom.2.1 2 = .ok (.iadd, 1) := by decide +kernel
theorem d_Pa_alikeFrom_3 : decode M_Pa_alikeFrom.2.1 3 = .ok (.istore_n 2, 1) := by decide +kernel
theorem d_Pa_alikeFrom_4 : decode M_Pa_alikeFrom.2.1 4 = .ok (.iload_n 2, 1) := by decide +kernel
theorem d_Pa_alikeFrom_5 : decode M_Pa_alikeFrom.2.1 5 = .ok (.aload_n 0, 1) := by decide +kernel
theorem d_Pa_alikeFrom_6 : decode M_Pa_alikeFrom.2.1 6 = .ok (.getfield 14, 3) := by decide +kernel
theorem d_Pa_alikeFrom_9 : decode M_Pa_alikeFrom.2.1 9 = .ok (.getfield 24, 3) := by decide +kernel
theorem d_Pa_alikeFrom_12 : decode M_Pa_alikeFrom.2.1 12 = .ok (.if_icmp .ge 37, 3) := by decide +kernel
theorem d_Pa_alikeFrom_15 : decode M_Pa_alikeFrom.2.1 15 = .ok (.iload_n 2, 1) := by decide +kernel
theorem d_Pa_alikeFrom_16 : decode M_Pa_alikeFrom.2.1 16 = .ok (.iload_n 1, 1) := by decide +kernel
theorem d_Pa_alikeFrom_17 : decode M_Pa_alikeFrom.2.1 17 = .ok (.isub, 1) := by decide +kernel
theorem d_Pa_alikeFrom_18 : decode M_Pa_alikeFrom.2.1 18 = .ok (.sipush 128, 3) := by decide +kernel
theorem d_Pa_alikeFrom_21 : decode M_Pa_alikeFrom.2.1 21 = .ok (.if_icmp .ge 28, 3) := by decide +kernel
theorem d_Pa_alikeFrom_24 : decode M_Pa_alikeFrom.2.1 24 = .ok (.aload_n 0, 1) := by decide +kernel
theorem d_Pa_alikeFrom_25 : decode M_Pa_alikeFrom.2.1 25 = .ok (.getfield 14, 3) := by decide +kernel
theorem d_Pa_alikeFrom_28 : decode M_Pa_alikeFrom.2.1 28 = .ok (.iload_n 2, 1) := by decide +kernel
theorem d_Pa_alikeFrom_29 : decode M_Pa_alikeFrom.2.1 29 = .ok (.invokevirtual 28, 3) := by decide +kernel
theorem d_Pa_alikeFrom_32 : decode M_Pa_alikeFrom.2.1 32 = .ok (.aload_n 0, 1) := by decide +kernel
theorem d_Pa_alikeFrom_33 : decode M_Pa_alikeFrom.2.1 33 = .ok (.getfield 14, 3) := by decide +kernel
theorem d_Pa_alikeFrom_36 : decode M_Pa_alikeFrom.2.1 36 = .ok (.iload_n 1, 1) := by decide +kernel
theorem d_Pa_alikeFrom_37 : decode M_Pa_alikeFrom.2.1 37 = .ok (.invokevirtual 28, 3) := by decide +kernel
theorem d_Pa_alikeFrom_40 : decode M_Pa_alikeFrom.2.1 40 = .ok (.if_icmp .ne 9, 3) := by decide +kernel
theorem d_Pa_alikeFrom_43 : decode M_Pa_alikeFrom.2.1 43 = .ok (.iinc 2 1, 3) := by decide +kernel
theorem d_Pa_alikeFrom_46 : decode M_Pa_alikeFrom.2.1 46 = .ok (.goto (-42), 3) := by decide +kernel
theorem d_Pa_alikeFrom_49 : decode M_Pa_alikeFrom.2.1 49 = .ok (.iload_n 2, 1) := by decide +kernel
theorem d_Pa_alikeFrom_50 : decode M_Pa_alikeFrom.2.1 50 = .ok (.iload_n 1, 1) := by decide +kernel
theorem d_Pa_alikeFrom_51 : decode M_Pa_alikeFrom.2.1 51 = .ok (.isub, 1) := by decide +kernel
theorem d_Pa_alikeFrom_52 : decode M_Pa_alikeFrom.2.1 52 = .ok (.ireturn, 1) := by decide +kernel
theorem d_Pa_endOfUnlike_0 : decode M_Pa_endOfUnlike.2.1 0 = .ok (.iload_n 1, 1) := by decide +kernel
theorem d_Pa_endOfUnlike_1 : decode M_Pa_endOfUnlike.2.1 1 = .ok (.iconst 1, 1) := by decide +kernel
theorem d_Pa_endOfUnlike_2 : decode M_Pa_endOfUnlike.2.1 2 = .ok (.iadd, 1) := by decide +kernel
theorem d_Pa_endOfUnlike_3 : decode M_Pa_endOfUnlike.2.1 3 = .ok (.istore_n 2, 1) := by decide +kernel
theorem d_Pa_endOfUnlike_4 : decode M_Pa_endOfUnlike.2.1 4 = .ok (.iload_n 2, 1) := by decide +kernel
theorem d_Pa_endOfUnlike_5 : decode M_Pa_endOfUnlike.2.1 5 = .ok (.aload_n 0, 1) := by decide +kernel
theorem d_Pa_endOfUnlike_6 : decode M_Pa_endOfUnlike.2.1 6 = .ok (.getfield 14, 3) := by decide +kernel
theorem d_Pa_endOfUnlike_9 : decode M_Pa_endOfUnlike.2.1 9 = .ok (.getfield 24, 3) := by decide +kernel
theorem d_Pa_endOfUnlike_12 : decode M_Pa_endOfUnlike.2.1 12 = .ok (.if_icmp .ge 26, 3) := by decide +kernel
theorem d_Pa_endOfUnlike_15 : decode M_Pa_endOfUnlike.2.1 15 = .ok (.iload_n 2, 1) := by decide +kernel
theorem d_Pa_endOfUnlike_16 : decode M_Pa_endOfUnlike.2.1 16 = .ok (.iload_n 1, 1) := by decide +kernel
theorem d_Pa_endOfUnlike_17 : decode M_Pa_endOfUnlike.2.1 17 = .ok (.isub, 1) := by decide +kernel
theorem d_Pa_endOfUnlike_18 : decode M_Pa_endOfUnlike.2.1 18 = .ok (.bipush 127, 2) := by decide +kernel
theorem d_Pa_endOfUnlike_20 : decode M_Pa_endOfUnlike.2.1 20 = .ok (.if_icmp .ge 18, 3) := by decide +kernel
theorem d_Pa_endOfUnlike_23 : decode M_Pa_endOfUnlike.2.1 23 = .ok (.aload_n 0, 1) := by decide +kernel
theorem d_Pa_endOfUnlike_24 : decode M_Pa_endOfUnlike.2.1 24 = .ok (.iload_n 2, 1) := by decide +kernel
theorem d_Pa_endOfUnlike_25 : decode M_Pa_endOfUnlike.2.1 25 = .ok (.invokevirtual 39, 3) := by decide +kernel
theorem d_Pa_endOfUnlike_28 : decode M_Pa_endOfUnlike.2.1 28 = .ok (.iconst 3, 1) := by decide +kernel
theorem d_Pa_endOfUnlike_29 : decode M_Pa_endOfUnlike.2.1 29 = .ok (.if_icmp .ge 9, 3) := by decide +kernel
theorem d_Pa_endOfUnlike_32 : decode M_Pa_endOfUnlike.2.1 32 = .ok (.iinc 2 1, 3) := by decide +kernel
theorem d_Pa_endOfUnlike_35 : decode M_Pa_endOfUnlike.2.1 35 = .ok (.goto (-31), 3) := by decide +kernel
theorem d_Pa_endOfUnlike_38 : decode M_Pa_endOfUnlike.2.1 38 = .ok (.iload_n 2, 1) := by decide +kernel
theorem d_Pa_endOfUnlike_39 : decode M_Pa_endOfUnlike.2.1 39 = .ok (.ireturn, 1) := by decide +kernel
theorem d_Pa_unpack_0 : decode M_Pa_unpack.2.1 0 = .ok (.aload_n 0, 1) := by decide +kernel
theorem d_Pa_unpack_1 : decode M_Pa_unpack.2.1 1 = .ok (.getfield 14, 3) := by decide +kernel
theorem d_Pa_unpack_4 : decode M_Pa_unpack.2.1 4 = .ok (.invokevirtual 36, 3) := by decide +kernel
theorem d_Pa_unpack_7 : decode M_Pa_unpack.2.1 7 = .ok (.iload_n 2, 1) := by decide +kernel
theorem d_Pa_unpack_8 : decode M_Pa_unpack.2.1 8 = .ok (.istore 6, 2) := by decide +kernel
theorem d_Pa_unpack_10 : decode M_Pa_unpack.2.1 10 = .ok (.iload 6, 2) := by decide +kernel
theorem d_Pa_unpack_12 : decode M_Pa_unpack.2.1 12 = .ok (.iload_n 3, 1) := by decide +kernel
theorem d_Pa_unpack_13 : decode M_Pa_unpack.2.1 13 = .ok (.if_icmp .ge 138, 3) := by decide +kernel
theorem d_Pa_unpack_16 : decode M_Pa_unpack.2.1 16 = .ok (.aload_n 1, 1) := by decide +kernel
theorem d_Pa_unpack_17 : decode M_Pa_unpack.2.1 17 = .ok (.iload 6, 2) := by decide +kernel
theorem d_Pa_unpack_19 : decode M_Pa_unpack.2.1 19 = .ok (.invokevirtual 28, 3) := by decide +kernel
theorem d_Pa_unpack_22 : decode M_Pa_unpack.2.1 22 = .ok (.istore 7, 2) := by decide +kernel
theorem d_Pa_unpack_24 : decode M_Pa_unpack.2.1 24 = .ok (.iload 7, 2) := by decide +kernel
theorem d_Pa_unpack_26 : decode M_Pa_unpack.2.1 26 = .ok (.sipush 128, 3) := by decide +kernel
theorem d_Pa_unpack_29 : decode M_Pa_unpack.2.1 29 = .ok (.if_icmp .ge 10, 3) := by decide +kernel
theorem d_Pa_unpack_32 : decode M_Pa_unpack.2.1 32 = .ok (.iload 7, 2) := by decide +kernel
theorem d_Pa_unpack_34 : decode M_Pa_unpack.2.1 34 = .ok (.iconst 1, 1) := by decide +kernel
theorem d_Pa_unpack_35 : decode M_Pa_unpack.2.1 35 = .ok (.iadd, 1) := by decide +kernel
theorem d_Pa_unpack_36 : decode M_Pa_unpack.2.1 36 = .ok (.goto 9, 3) := by decide +kernel
theorem d_Pa_unpack_39 : decode M_Pa_unpack.2.1 39 = .ok (.sipush 256, 3) := by decide +kernel
theorem d_Pa_unpack_42 : decode M_Pa_unpack.2.1 42 = .ok (.iload 7, 2) := by decide +kernel
theorem d_Pa_unpack_44 : decode M_Pa_unpack.2.1 44 = .ok (.isub, 1) := by decide +kernel
theorem d_Pa_unpack_45 : decode M_Pa_unpack.2.1 45 = .ok (.istore 8, 2) := by decide +kernel
theorem d_Pa_unpack_47 : decode M_Pa_unpack.2.1 47 = .ok (.iload 7, 2) := by decide +kernel
theorem d_Pa_unpack_49 : decode M_Pa_unpack.2.1 49 = .ok (.sipush 128, 3) := by decide +kernel
theorem d_Pa_unpack_52 : decode M_Pa_unpack.2.1 52 = .ok (.if_icmp .ge 7, 3) := by decide +kernel
theorem d_Pa_unpack_55 : decode M_Pa_unpack.2.1 55 = .ok (.iconst 2, 1) := by decide +kernel
theorem d_Pa_unpack_56 : decode M_Pa_unpack.2.1 56 = .ok (.goto 7, 3) := by decide +kernel
theorem d_Pa_unpack_59 : decode M_Pa_unpack.2.1 59 = .ok (.iconst 1, 1) := by decide +kernel
theorem d_Pa_unpack_60 : decode M_Pa_unpack.2.1 60 = .ok (.iload 8, 2) := by decide +kernel
theorem d_Pa_unpack_62 : decode M_Pa_unpack.2.1 62 = .ok (.iadd, 1) := by decide +kernel
theorem d_Pa_unpack_63 : decode M_Pa_unpack.2.1 63 = .ok (.istore 9, 2) := by decide +kernel
theorem d_Pa_unpack_65 : decode M_Pa_unpack.2.1 65 = .ok (.iload 6, 2) := by decide +kernel
theorem d_Pa_unpack_67 : decode M_Pa_unpack.2.1 67 = .ok (.iload 9, 2) := by decide +kernel
theorem d_Pa_unpack_69 : decode M_Pa_unpack.2.1 69 = .ok (.iadd, 1) := by decide +kernel
theorem d_Pa_unpack_70 : decode M_Pa_unpack.2.1 70 = .ok (.iload_n 3, 1) := by decide +kernel
theorem d_Pa_unpack_71 : decode M_Pa_unpack.2.1 71 = .ok (.if_icmp .gt 18, 3) := by decide +kernel
theorem d_Pa_unpack_74 : decode M_Pa_unpack.2.1 74 = .ok (.aload_n 0, 1) := by decide +kernel
theorem d_Pa_unpack_75 : decode M_Pa_unpack.2.1 75 = .ok (.getfield 14, 3) := by decide +kernel
theorem d_Pa_unpack_78 : decode M_Pa_unpack.2.1 78 = .ok (.getfield 24, 3) := by decide +kernel
theorem d_Pa_unpack_81 : decode M_Pa_unpack.2.1 81 = .ok (.iload 8, 2) := by decide +kernel
theorem d_Pa_unpack_83 : decode M_Pa_unpack.2.1 83 = .ok (.iadd, 1) := by decide +kernel
theorem d_Pa_unpack_84 : decode M_Pa_unpack.2.1 84 = .ok (.iload 4, 2) := by decide +kernel
theorem d_Pa_unpack_86 : decode M_Pa_unpack.2.1 86 = .ok (.if_icmp .le 6, 3) := by decide +kernel
theorem d_Pa_unpack_89 : decode M_Pa_unpack.2.1 89 = .ok (.iload 6, 2) := by decide +kernel
theorem d_Pa_unpack_91 : decode M_Pa_unpack.2.1 91 = .ok (.ireturn, 1) := by decide +kernel
theorem d_Pa_unpack_92 : decode M_Pa_unpack.2.1 92 = .ok (.iconst 0, 1) := by decide +kernel
theorem d_Pa_unpack_93 : decode M_Pa_unpack.2.1 93 = .ok (.istore 10, 2) := by decide +kernel
theorem d_Pa_unpack_95 : decode M_Pa_unpack.2.1 95 = .ok (.iload 10, 2) := by decide +kernel
theorem d_Pa_unpack_97 : decode M_Pa_unpack.2.1 97 = .ok (.iload 8, 2) := by decide +kernel
theorem d_Pa_unpack_99 : decode M_Pa_unpack.2.1 99 = .ok (.if_icmp .ge 42, 3) := by decide +kernel
theorem d_Pa_unpack_102 : decode M_Pa_unpack.2.1 102 = .ok (.aload_n 0, 1) := by decide +kernel
theorem d_Pa_unpack_103 : decode M_Pa_unpack.2.1 103 = .ok (.getfield 14, 3) := by decide +kernel
theorem d_Pa_unpack_106 : decode M_Pa_unpack.2.1 106 = .ok (.aload_n 1, 1) := by decide +kernel
theorem d_Pa_unpack_107 : decode M_Pa_unpack.2.1 107 = .ok (.iload 7, 2) := by decide +kernel
theorem d_Pa_unpack_109 : decode M_Pa_unpack.2.1 109 = .ok (.sipush 128, 3) := by decide +kernel
theorem d_Pa_unpack_112 : decode M_Pa_unpack.2.1 112 = .ok (.if_icmp .ge 10, 3) := by decide +kernel
theorem d_Pa_unpack_115 : decode M_Pa_unpack.2.1 115 = .ok (.iload 6, 2) := by decide +kernel
theorem d_Pa_unpack_117 : decode M_Pa_unpack.2.1 117 = .ok (.iconst 1, 1) := by decide +kernel
theorem d_Pa_unpack_118 : decode M_Pa_unpack.2.1 118 = .ok (.iadd, 1) := by decide +kernel
theorem d_Pa_unpack_119 : decode M_Pa_unpack.2.1 119 = .ok (.goto 10, 3) := by decide +kernel
theorem d_Pa_unpack_122 : decode M_Pa_unpack.2.1 122 = .ok (.iload 6, 2) := by decide +kernel
theorem d_Pa_unpack_124 : decode M_Pa_unpack.2.1 124 = .ok (.iconst 1, 1) := by decide +kernel
theorem d_Pa_unpack_125 : decode M_Pa_unpack.2.1 125 = .ok (.iadd, 1) := by decide +kernel
theorem d_Pa_unpack_126 : decode M_Pa_unpack.2.1 126 = .ok (.iload 10, 2) := by decide +kernel
theorem d_Pa_unpack_128 : decode M_Pa_unpack.2.1 128 = .ok (.iadd, 1) := by decide +kernel
theorem d_Pa_unpack_129 : decode M_Pa_unpack.2.1 129 = .ok (.invokevirtual 28, 3) := by decide +kernel
theorem d_Pa_unpack_132 : decode M_Pa_unpack.2.1 132 = .ok (.invokevirtual 42, 3) := by decide +kernel
theorem d_Pa_unpack_135 : decode M_Pa_unpack.2.1 135 = .ok (.iinc 10 1, 3) := by decide +kernel
theorem d_Pa_unpack_138 : decode M_Pa_unpack.2.1 138 = .ok (.goto (-43), 3) := by decide +kernel
theorem d_Pa_unpack_141 : decode M_Pa_unpack.2.1 141 = .ok (.iload 6, 2) := by decide +kernel
theorem d_Pa_unpack_143 : decode M_Pa_unpack.2.1 143 = .ok (.iload 9, 2) := by decide +kernel
theorem d_Pa_unpack_145 : decode M_Pa_unpack.2.1 145 = .ok (.iadd, 1) := by decide +kernel
theorem d_Pa_unpack_146 : decode M_Pa_unpack.2.1 146 = .ok (.istore 6, 2) := by decide +kernel
theorem d_Pa_unpack_148 : decode M_Pa_unpack.2.1 148 = .ok (.goto (-138), 3) := by decide +kernel
theorem d_Pa_unpack_151 : decode M_Pa_unpack.2.1 151 = .ok (.aload_n 0, 1) := by decide +kernel
theorem d_Pa_unpack_152 : decode M_Pa_unpack.2.1 152 = .ok (.getfield 14, 3) := by decide +kernel
theorem d_Pa_unpack_155 : decode M_Pa_unpack.2.1 155 = .ok (.getfield 24, 3) := by decide +kernel
theorem d_Pa_unpack_158 : decode M_Pa_unpack.2.1 158 = .ok (.iload 4, 2) := by decide +kernel
theorem d_Pa_unpack_160 : decode M_Pa_unpack.2.1 160 = .ok (.if_icmp .ge 5, 3) := by decide +kernel
theorem d_Pa_unpack_163 : decode M_Pa_unpack.2.1 163 = .ok (.iload_n 3, 1) := by decide +kernel
theorem d_Pa_unpack_164 : decode M_Pa_unpack.2.1 164 = .ok (.ireturn, 1) := by decide +kernel
theorem d_Pa_unpack_165 : decode M_Pa_unpack.2.1 165 = .ok (.aload_n 0, 1) := by decide +kernel
theorem d_Pa_unpack_166 : decode M_Pa_unpack.2.1 166 = .ok (.aload 5, 2) := by decide +kernel
theorem d_Pa_unpack_168 : decode M_Pa_unpack.2.1 168 = .ok (.invokevirtual 52, 3) := by decide +kernel
theorem d_Pa_unpack_171 : decode M_Pa_unpack.2.1 171 = .ok (.bipush (-2), 2) := by decide +kernel
theorem d_Pa_unpack_173 : decode M_Pa_unpack.2.1 173 = .ok (.ireturn, 1) := by decide +kernel
theorem d_Pa_unsort_0 : decode M_Pa_unsort.2.1 0 = .ok (.iconst 1, 1) := by decide +kernel
theorem d_Pa_unsort_1 : decode M_Pa_unsort.2.1 1 = .ok (.istore_n 2, 1) := by decide +kernel
theorem d_Pa_unsort_2 : decode M_Pa_unsort.2.1 2 = .ok (.iload_n 2, 1) := by decide +kernel
theorem d_Pa_unsort_3 : decode M_Pa_unsort.2.1 3 = .ok (.aload_n 0, 1) := by decide +kernel
theorem d_Pa_unsort_4 : decode M_Pa_unsort.2.1 4 = .ok (.getfield 14, 3) := by decide +kernel
theorem d_Pa_unsort_7 : decode M_Pa_unsort.2.1 7 = .ok (.getfield 24, 3) := by decide +kernel
theorem d_Pa_unsort_10 : decode M_Pa_unsort.2.1 10 = .ok (.if_icmp .ge 40, 3) := by decide +kernel
theorem d_Pa_unsort_13 : decode M_Pa_unsort.2.1 13 = .ok (.aload_n 0, 1) := by decide +kernel
theorem d_Pa_unsort_14 : decode M_Pa_unsort.2.1 14 = .ok (.getfield 14, 3) := by decide +kernel
theorem d_Pa_unsort_17 : decode M_Pa_unsort.2.1 17 = .ok (.iload_n 2, 1) := by decide +kernel
theorem d_Pa_unsort_18 : decode M_Pa_unsort.2.1 18 = .ok (.aload_n 0, 1) := by decide +kernel
theorem d_Pa_unsort_19 : decode M_Pa_unsort.2.1 19 = .ok (.getfield 14, 3) := by decide +kernel
theorem d_Pa_unsort_22 : decode M_Pa_unsort.2.1 22 = .ok (.iload_n 2, 1) := by decide +kernel
theorem d_Pa_unsort_23 : decode M_Pa_unsort.2.1 23 = .ok (.invokevirtual 28, 3) := by decide +kernel
theorem d_Pa_unsort_26 : decode M_Pa_unsort.2.1 26 = .ok (.aload_n 0, 1) := by decide +kernel
theorem d_Pa_unsort_27 : decode M_Pa_unsort.2.1 27 = .ok (.getfield 14, 3) := by decide +kernel
theorem d_Pa_unsort_30 : decode M_Pa_unsort.2.1 30 = .ok (.iload_n 2, 1) := by decide +kernel
theorem d_Pa_unsort_31 : decode M_Pa_unsort.2.1 31 = .ok (.iconst 1, 1) := by decide +kernel
theorem d_Pa_unsort_32 : decode M_Pa_unsort.2.1 32 = .ok (.isub, 1) := by decide +kernel
theorem d_Pa_unsort_33 : decode M_Pa_unsort.2.1 33 = .ok (.invokevirtual 28, 3) := by decide +kernel
theorem d_Pa_unsort_36 : decode M_Pa_unsort.2.1 36 = .ok (.iadd, 1) := by decide +kernel
theorem d_Pa_unsort_37 : decode M_Pa_unsort.2.1 37 = .ok (.sipush 128, 3) := by decide +kernel
theorem d_Pa_unsort_40 : decode M_Pa_unsort.2.1 40 = .ok (.isub, 1) := by decide +kernel
theorem d_Pa_unsort_41 : decode M_Pa_unsort.2.1 41 = .ok (.invokevirtual 32, 3) := by decide +kernel
theorem d_Pa_unsort_44 : decode M_Pa_unsort.2.1 44 = .ok (.iinc 2 1, 3) := by decide +kernel
theorem d_Pa_unsort_47 : decode M_Pa_unsort.2.1 47 = .ok (.goto (-45), 3) := by decide +kernel
theorem d_Pa_unsort_50 : decode M_Pa_unsort.2.1 50 = .ok (.aload_n 1, 1) := by decide +kernel
theorem d_Pa_unsort_51 : decode M_Pa_unsort.2.1 51 = .ok (.invokevirtual 36, 3) := by decide +kernel
theorem d_Pa_unsort_54 : decode M_Pa_unsort.2.1 54 = .ok (.aload_n 0, 1) := by decide +kernel
theorem d_Pa_unsort_55 : decode M_Pa_unsort.2.1 55 = .ok (.getfield 14, 3) := by decide +kernel
theorem d_Pa_unsort_58 : decode M_Pa_unsort.2.1 58 = .ok (.getfield 24, 3) := by decide +kernel
theorem d_Pa_unsort_61 : decode M_Pa_unsort.2.1 61 = .ok (.iconst 1, 1) := by decide +kernel
theorem d_Pa_unsort_62 : decode M_Pa_unsort.2.1 62 = .ok (.iadd, 1) := by decide +kernel
theorem d_Pa_unsort_63 : decode M_Pa_unsort.2.1 63 = .ok (.iconst 2, 1) := by decide +kernel
theorem d_Pa_unsort_64 : decode M_Pa_unsort.2.1 64 = .ok (.idiv, 1) := by decide +kernel
theorem d_Pa_unsort_65 : decode M_Pa_unsort.2.1 65 = .ok (.istore_n 2, 1) := by decide +kernel
theorem d_Pa_unsort_66 : decode M_Pa_unsort.2.1 66 = .ok (.iconst 0, 1) := by decide +kernel
theorem d_Pa_unsort_67 : decode M_Pa_unsort.2.1 67 = .ok (.istore_n 3, 1) := by decide +kernel
theorem d_Pa_unsort_68 : decode M_Pa_unsort.2.1 68 = .ok (.iload_n 3, 1) := by decide +kernel
theorem d_Pa_unsort_69 : decode M_Pa_unsort.2.1 69 = .ok (.aload_n 0, 1) := by decide +kernel
theorem d_Pa_unsort_70 : decode M_Pa_unsort.2.1 70 = .ok (.getfield 14, 3) := by decide +kernel
theorem d_Pa_unsort_73 : decode M_Pa_unsort.2.1 73 = .ok (.getfield 24, 3) := by decide +kernel
theorem d_Pa_unsort_76 : decode M_Pa_unsort.2.1 76 = .ok (.if_icmp .ge 37, 3) := by decide +kernel
theorem d_Pa_unsort_79 : decode M_Pa_unsort.2.1 79 = .ok (.aload_n 1, 1) := by decide +kernel
theorem d_Pa_unsort_80 : decode M_Pa_unsort.2.1 80 = .ok (.aload_n 0, 1) := by decide +kernel
theorem d_Pa_unsort_81 : decode M_Pa_unsort.2.1 81 = .ok (.getfield 14, 3) := by decide +kernel
theorem d_Pa_unsort_84 : decode M_Pa_unsort.2.1 84 = .ok (.iload_n 3, 1) := by decide +kernel
theorem d_Pa_unsort_85 : decode M_Pa_unsort.2.1 85 = .ok (.iconst 2, 1) := by decide +kernel
theorem d_Pa_unsort_86 : decode M_Pa_unsort.2.1 86 = .ok (.irem, 1) := by decide +kernel
theorem d_Pa_unsort_87 : decode M_Pa_unsort.2.1 87 = .ok (.ifCond .ne 9, 3) := by decide +kernel
theorem d_Pa_unsort_90 : decode M_Pa_unsort.2.1 90 = .ok (.iload_n 3, 1) := by decide +kernel
theorem d_Pa_unsort_91 : decode M_Pa_unsort.2.1 91 = .ok (.iconst 2, 1) := by decide +kernel
theorem d_Pa_unsort_92 : decode M_Pa_unsort.2.1 92 = .ok (.idiv, 1) := by decide +kernel
theorem d_Pa_unsort_93 : decode M_Pa_unsort.2.1 93 = .ok (.goto 8, 3) := by decide +kernel
theorem d_Pa_unsort_96 : decode M_Pa_unsort.2.1 96 = .ok (.iload_n 2, 1) := by decide +kernel
theorem d_Pa_unsort_97 : decode M_Pa_unsort.2.1 97 = .ok (.iload_n 3, 1) := by decide +kernel
theorem d_Pa_unsort_98 : decode M_Pa_unsort.2.1 98 = .ok (.iconst 2, 1) := by decide +kernel
theorem d_Pa_unsort_99 : decode M_Pa_unsort.2.1 99 = .ok (.idiv, 1) := by decide +kernel
theorem d_Pa_unsort_100 : decode M_Pa_unsort.2.1 100 = .ok (.iadd, 1) := by decide +kernel
theorem d_Pa_unsort_101 : decode M_Pa_unsort.2.1 101 = .ok (.invokevirtual 28, 3) := by decide +kernel
theorem d_Pa_unsort_104 : decode M_Pa_unsort.2.1 104 = .ok (.invokevirtual 42, 3) := by decide +kernel
theorem d_Pa_unsort_107 : decode M_Pa_unsort.2.1 107 = .ok (.iinc 3 1, 3) := by decide +kernel
theorem d_Pa_unsort_110 : decode M_Pa_unsort.2.1 110 = .ok (.goto (-42), 3) := by decide +kernel
theorem d_Pa_unsort_113 : decode M_Pa_unsort.2.1 113 = .ok (.return_, 1) := by decide +kernel
theorem d_Wv_init_0 : decode M_Wv_init.2.1 0 = .ok (.aload_n 0, 1) := by decide +kernel
theorem d_Wv_init_1 : decode M_Wv_init.2.1 1 = .ok (.invokespecial 3, 3) := by decide +kernel
theorem d_Wv_init_4 : decode M_Wv_init.2.1 4 = .ok (.aload_n 0, 1) := by decide +kernel
theorem d_Wv_init_5 : decode M_Wv_init.2.1 5 = .ok (.bipush 32, 2) := by decide +kernel
theorem d_Wv_init_7 : decode M_Wv_init.2.1 7 = .ok (.newarray .int, 2) := by decide +kernel
theorem d_Wv_init_9 : decode M_Wv_init.2.1 9 = .ok (.putfield 9, 3) := by decide +kernel
theorem d_Wv_init_12 : decode M_Wv_init.2.1 12 = .ok (.return_, 1) := by decide +kernel
theorem d_Wv_put_0 : decode M_Wv_put.2.1 0 = .ok (.aload_n 0, 1) := by decide +kernel
theorem d_Wv_put_1 : decode M_Wv_put.2.1 1 = .ok (.getfield 9, 3) := by decide +kernel
theorem d_Wv_put_4 : decode M_Wv_put.2.1 4 = .ok (.iload_n 2, 1) := by decide +kernel
theorem d_Wv_put_5 : decode M_Wv_put.2.1 5 = .ok (.bipush 8, 2) := by decide +kernel
theorem d_Wv_put_7 : decode M_Wv_put.2.1 7 = .ok (.imul, 1) := by decide +kernel
theorem d_Wv_put_8 : decode M_Wv_put.2.1 8 = .ok (.iload_n 1, 1) := by decide +kernel
theorem d_Wv_put_9 : decode M_Wv_put.2.1 9 = .ok (.iadd, 1) := by decide +kernel
theorem d_Wv_put_10 : decode M_Wv_put.2.1 10 = .ok (.iload_n 3, 1) := by decide +kernel
theorem d_Wv_put_11 : decode M_Wv_put.2.1 11 = .ok (.ldc 15, 2) := by decide +kernel
theorem d_Wv_put_13 : decode M_Wv_put.2.1 13 = .ok (.iand, 1) := by decide +kernel
theorem d_Wv_put_14 : decode M_Wv_put.2.1 14 = .ok (.iastore, 1) := by decide +kernel
theorem d_Wv_put_15 : decode M_Wv_put.2.1 15 = .ok (.return_, 1) := by decide +kernel
theorem d_Wv_forward_0 : decode M_Wv_forward.2.1 0 = .ok (.iconst 1, 1) := by decide +kernel
theorem d_Wv_forward_1 : decode M_Wv_forward.2.1 1 = .ok (.istore_n 3, 1) := by decide +kernel
theorem d_Wv_forward_2 : decode M_Wv_forward.2.1 2 = .ok (.iconst 2, 1) := by decide +kernel
theorem d_Wv_forward_3 : decode M_Wv_forward.2.1 3 = .ok (.iload_n 3, 1) := by decide +kernel
theorem d_Wv_forward_4 : decode M_Wv_forward.2.1 4 = .ok (.imul, 1) := by decide +kernel
theorem d_Wv_forward_5 : decode M_Wv_forward.2.1 5 = .ok (.iload_n 1, 1) := by decide +kernel
theorem d_Wv_forward_6 : decode M_Wv_forward.2.1 6 = .ok (.iload_n 2, 1) := by decide +kernel
theorem d_Wv_forward_7 : decode M_Wv_forward.2.1 7 = .ok (.invokestatic 16, 3) := by decide +kernel
theorem d_Wv_forward_10 : decode M_Wv_forward.2.1 10 = .ok (.if_icmp .gt 113, 3) := by decide +kernel
theorem d_Wv_forward_13 : decode M_Wv_forward.2.1 13 = .ok (.iconst 0, 1) := by decide +kernel
theorem d_Wv_forward_14 : decode M_Wv_forward.2.1 14 = .ok (.istore 4, 2) := by decide +kernel
theorem d_Wv_forward_16 : decode M_Wv_forward.2.1 16 = .ok (.iload 4, 2) := by decide +kernel
theorem d_Wv_forward_18 : decode M_Wv_forward.2.1 18 = .ok (.iload_n 3, 1) := by decide +kernel
theorem d_Wv_forward_19 : decode M_Wv_forward.2.1 19 = .ok (.iadd, 1) := by decide +kernel
theorem d_Wv_forward_20 : decode M_Wv_forward.2.1 20 = .ok (.iload_n 2, 1) := by decide +kernel
theorem d_Wv_forward_21 : decode M_Wv_forward.2.1 21 = .ok (.if_icmp .ge 95, 3) := by decide +kernel
theorem d_Wv_forward_24 : decode M_Wv_forward.2.1 24 = .ok (.iconst 0, 1) := by decide +kernel
theorem d_Wv_forward_25 : decode M_Wv_forward.2.1 25 = .ok (.istore 5, 2) := by decide +kernel
theorem d_Wv_forward_27 : decode M_Wv_forward.2.1 27 = .ok (.iload 5, 2) := by decide +kernel
theorem d_Wv_forward_29 : decode M_Wv_forward.2.1 29 = .ok (.iload_n 3, 1) := by decide +kernel
theorem d_Wv_forward_30 : decode M_Wv_forward.2.1 30 = .ok (.iadd, 1) := by decide +kernel
theorem d_Wv_forward_31 : decode M_Wv_forward.2.1 31 = .ok (.iload_n 1, 1) := by decide +kernel
theorem d_Wv_forward_32 : decode M_Wv_forward.2.1 32 = .ok (.if_icmp .ge 73, 3) := by decide +kernel
theorem d_Wv_forward_35 : decode M_Wv_forward.2.1 35 = .ok (.iload 4, 2) := by decide +kernel
theorem d_Wv_forward_37 : decode M_Wv_forward.2.1 37 = .ok (.bipush 8, 2) := by decide +kernel
theorem d_Wv_forward_39 : decode M_Wv_forward.2.1 39 = .ok (.imul, 1) := by decide +kernel
theorem d_Wv_forward_40 : decode M_Wv_forward.2.1 40 = .ok (.iload 5, 2) := by decide +kernel
theorem d_Wv_forward_42 : decode M_Wv_forward.2.1 42 = .ok (.iadd, 1) := by decide +kernel
theorem d_Wv_forward_43 : decode M_Wv_forward.2.1 43 = .ok (.istore 6, 2) := by decide +kernel
theorem d_Wv_forward_45 : decode M_Wv_forward.2.1 45 = .ok (.iload 6, 2) := by decide +kernel
theorem d_Wv_forward_47 : decode M_Wv_forward.2.1 47 = .ok (.iload_n 3, 1) := by decide +kernel
theorem d_Wv_forward_48 : decode M_Wv_forward.2.1 48 = .ok (.bipush 8, 2) := by decide +kernel
theorem d_Wv_forward_50 : decode M_Wv_forward.2.1 50 = .ok (.imul, 1) := by decide +kernel
theorem d_Wv_forward_51 : decode M_Wv_forward.2.1 51 = .ok (.iadd, 1) := by decide +kernel
theorem d_Wv_forward_52 : decode M_Wv_forward.2.1 52 = .ok (.istore 7, 2) := by decide +kernel
theorem d_Wv_forward_54 : decode M_Wv_forward.2.1 54 = .ok (.aload_n 0, 1) := by decide +kernel
theorem d_Wv_forward_55 : decode M_Wv_forward.2.1 55 = .ok (.iload 6, 2) := by decide +kernel
theorem d_Wv_forward_57 : decode M_Wv_forward.2.1 57 = .ok (.iload 6, 2) := by decide +kernel
theorem d_Wv_forward_59 : decode M_Wv_forward.2.1 59 = .ok (.iload_n 3, 1) := by decide +kernel
theorem d_Wv_forward_60 : decode M_Wv_forward.2.1 60 = .ok (.iadd, 1) := by decide +kernel
theorem d_Wv_forward_61 : decode M_Wv_forward.2.1 61 = .ok (.invokevirtual 22, 3) := by decide +kernel
theorem d_Wv_forward_64 : decode M_Wv_forward.2.1 64 = .ok (.aload_n 0, 1) := by decide +kernel
theorem d_Wv_forward_65 : decode M_Wv_forward.2.1 65 = .ok (.iload 7, 2) := by decide +kernel
theorem d_Wv_forward_67 : decode M_Wv_forward.2.1 67 = .ok (.iload 7, 2) := by decide +kernel
theorem d_Wv_forward_69 : decode M_Wv_forward.2.1 69 = .ok (.iload_n 3, 1) := by decide +kernel
theorem d_Wv_forward_70 : decode M_Wv_forward.2.1 70 = .ok (.iadd, 1) := by decide +kernel
theorem d_Wv_forward_71 : decode M_Wv_forward.2.1 71 = .ok (.invokevirtual 22, 3) := by decide +kernel
theorem d_Wv_forward_74 : decode M_Wv_forward.2.1 74 = .ok (.aload_n 0, 1) := by decide +kernel
theorem d_Wv_forward_75 : decode M_Wv_forward.2.1 75 = .ok (.iload 6, 2) := by decide +kernel
theorem d_Wv_forward_77 : decode M_Wv_forward.2.1 77 = .ok (.iload 7, 2) := by decide +kernel
theorem d_Wv_forward_79 : decode M_Wv_forward.2.1 79 = .ok (.invokevirtual 22, 3) := by decide +kernel
theorem d_Wv_forward_82 : decode M_Wv_forward.2.1 82 = .ok (.aload_n 0, 1) := by decide +kernel
theorem d_Wv_forward_83 : decode M_Wv_forward.2.1 83 = .ok (.iload 6, 2) := by decide +kernel
theorem d_Wv_forward_85 : decode M_Wv_forward.2.1 85 = .ok (.iload_n 3, 1) := by decide +kernel
theorem d_Wv_forward_86 : decode M_Wv_forward.2.1 86 = .ok (.iadd, 1) := by decide +kernel
theorem d_Wv_forward_87 : decode M_Wv_forward.2.1 87 = .ok (.iload 7, 2) := by decide +kernel
theorem d_Wv_forward_89 : decode M_Wv_forward.2.1 89 = .ok (.iload_n 3, 1) := by decide +kernel
theorem d_Wv_forward_90 : decode M_Wv_forward.2.1 90 = .ok (.iadd, 1) := by decide +kernel
theorem d_Wv_forward_91 : decode M_Wv_forward.2.1 91 = .ok (.invokevirtual 22, 3) := by decide +kernel
theorem d_Wv_forward_94 : decode M_Wv_forward.2.1 94 = .ok (.iload 5, 2) := by decide +kernel
theorem d_Wv_forward_96 : decode M_Wv_forward.2.1 96 = .ok (.iconst 2, 1) := by decide +kernel
theorem d_Wv_forward_97 : decode M_Wv_forward.2.1 97 = .ok (.iload_n 3, 1) := by decide +kernel
theorem d_Wv_forward_98 : decode M_Wv_forward.2.1 98 = .ok (.imul, 1) := by decide +kernel
theorem d_Wv_forward_99 : decode M_Wv_forward.2.1 99 = .ok (.iadd, 1) := by decide +kernel
theorem d_Wv_forward_100 : decode M_Wv_forward.2.1 100 = .ok (.istore 5, 2) := by decide +kernel
theorem d_Wv_forward_102 : decode M_Wv_forward.2.1 102 = .ok (.goto (-75), 3) := by decide +kernel
theorem d_Wv_forward_105 : decode M_Wv_forward.2.1 105 = .ok (.iload 4, 2) := by decide +kernel
theorem d_Wv_forward_107 : decode M_Wv_forward.2.1 107 = .ok (.iconst 2, 1) := by decide +kernel
theorem d_Wv_forward_108 : decode M_Wv_forward.2.1 108 = .ok (.iload_n 3, 1) := by decide +kernel
theorem d_Wv_forward_109 : decode M_Wv_forward.2.1 109 = .ok (.imul, 1) := by decide +kernel
theorem d_Wv_forward_110 : decode M_Wv_forward.2.1 110 = .ok (.iadd, 1) := by decide +kernel
theorem d_Wv_forward_111 : decode M_Wv_forward.2.1 111 = .ok (.istore 4, 2) := by decide +kernel
theorem d_Wv_forward_113 : decode M_Wv_forward.2.1 113 = .ok (.goto (-97), 3) := by decide +kernel
theorem d_Wv_forward_116 : decode M_Wv_forward.2.1 116 = .ok (.iload_n 3, 1) := by decide +kernel
theorem d_Wv_forward_117 : decode M_Wv_forward.2.1 117 = .ok (.iconst 2, 1) := by decide +kernel
theorem d_Wv_forward_118 : decode M_Wv_forward.2.1 118 = .ok (.imul, 1) := by decide +kernel
theorem d_Wv_forward_119 : decode M_Wv_forward.2.1 119 = .ok (.istore_n 3, 1) := by decide +kernel
theorem d_Wv_forward_120 : decode M_Wv_forward.2.1 120 = .ok (.goto (-118), 3) := by decide +kernel
theorem d_Wv_forward_123 : decode M_Wv_forward.2.1 123 = .ok (.return_, 1) := by decide +kernel
theorem d_Wv_mix_0 : decode M_Wv_mix.2.1 0 = .ok (.aload_n 0, 1) := by decide +kernel
theorem d_Wv_mix_1 : decode M_Wv_mix.2.1 1 = .ok (.getfield 9, 3) := by decide +kernel
theorem d_Wv_mix_4 : decode M_Wv_mix.2.1 4 = .ok (.iload_n 1, 1) := by decide +kernel
theorem d_Wv_mix_5 : decode M_Wv_mix.2.1 5 = .ok (.iaload, 1) := by decide +kernel
theorem d_Wv_mix_6 : decode M_Wv_mix.2.1 6 = .ok (.ldc 29, 2) := by decide +kernel
theorem d_Wv_mix_8 : decode M_Wv_mix.2.1 8 = .ok (.iadd, 1) := by decide +kernel
theorem d_Wv_mix_9 : decode M_Wv_mix.2.1 9 = .ok (.ldc 15, 2) := by decide +kernel
theorem d_Wv_mix_11 : decode M_Wv_mix.2.1 11 = .ok (.iand, 1) := by decide +kernel
theorem d_Wv_mix_12 : decode M_Wv_mix.2.1 12 = .ok (.istore_n 3, 1) := by decide +kernel
theorem d_Wv_mix_13 : decode M_Wv_mix.2.1 13 = .ok (.iload_n 3, 1) := by decide +kernel
theorem d_Wv_mix_14 : decode M_Wv_mix.2.1 14 = .ok (.aload_n 0, 1) := by decide +kernel
theorem d_Wv_mix_15 : decode M_Wv_mix.2.1 15 = .ok (.getfield 9, 3) := by decide +kernel
theorem d_Wv_mix_18 : decode M_Wv_mix.2.1 18 = .ok (.iload_n 2, 1) := by decide +kernel
theorem d_Wv_mix_19 : decode M_Wv_mix.2.1 19 = .ok (.iaload, 1) := by decide +kernel
theorem d_Wv_mix_20 : decode M_Wv_mix.2.1 20 = .ok (.iadd, 1) := by decide +kernel
theorem d_Wv_mix_21 : decode M_Wv_mix.2.1 21 = .ok (.iconst 2, 1) := by decide +kernel
theorem d_Wv_mix_22 : decode M_Wv_mix.2.1 22 = .ok (.idiv, 1) := by decide +kernel
theorem d_Wv_mix_23 : decode M_Wv_mix.2.1 23 = .ok (.istore 4, 2) := by decide +kernel
theorem d_Wv_mix_25 : decode M_Wv_mix.2.1 25 = .ok (.iload_n 3, 1) := by decide +kernel
theorem d_Wv_mix_26 : decode M_Wv_mix.2.1 26 = .ok (.aload_n 0, 1) := by decide +kernel
theorem d_Wv_mix_27 : decode M_Wv_mix.2.1 27 = .ok (.getfield 9, 3) := by decide +kernel
theorem d_Wv_mix_30 : decode M_Wv_mix.2.1 30 = .ok (.iload_n 2, 1) := by decide +kernel
theorem d_Wv_mix_31 : decode M_Wv_mix.2.1 31 = .ok (.iaload, 1) := by decide +kernel
theorem d_Wv_mix_32 : decode M_Wv_mix.2.1 32 = .ok (.isub, 1) := by decide +kernel
theorem d_Wv_mix_33 : decode M_Wv_mix.2.1 33 = .ok (.istore 5, 2) := by decide +kernel
theorem d_Wv_mix_35 : decode M_Wv_mix.2.1 35 = .ok (.aload_n 0, 1) := by decide +kernel
theorem d_Wv_mix_36 : decode M_Wv_mix.2.1 36 = .ok (.getfield 9, 3) := by decide +kernel
theorem d_Wv_mix_39 : decode M_Wv_mix.2.1 39 = .ok (.iload_n 1, 1) := by decide +kernel
theorem d_Wv_mix_40 : decode M_Wv_mix.2.1 40 = .ok (.iload 5, 2) := by decide +kernel
theorem d_Wv_mix_42 : decode M_Wv_mix.2.1 42 = .ok (.ifCond .ge 14, 3) := by decide +kernel
theorem d_Wv_mix_45 : decode M_Wv_mix.2.1 45 = .ok (.iload 4, 2) := by decide +kernel
theorem d_Wv_mix_47 : decode M_Wv_mix.2.1 47 = .ok (.ldc 29, 2) := by decide +kernel
theorem d_Wv_mix_49 : decode M_Wv_mix.2.1 49 = .ok (.iadd, 1) := by decide +kernel
theorem d_Wv_mix_50 : decode M_Wv_mix.2.1 50 = .ok (.ldc 15, 2) := by decide +kernel
theorem d_Wv_mix_52 : decode M_Wv_mix.2.1 52 = .ok (.iand, 1) := by decide +kernel
theorem d_Wv_mix_53 : decode M_Wv_mix.2.1 53 = .ok (.goto 5, 3) := by decide +kernel
theorem d_Wv_mix_56 : decode M_Wv_mix.2.1 56 = .ok (.iload 4, 2) := by decide +kernel
theorem d_Wv_mix_58 : decode M_Wv_mix.2.1 58 = .ok (.iastore, 1) := by decide +kernel
theorem d_Wv_mix_59 : decode M_Wv_mix.2.1 59 = .ok (.aload_n 0, 1) := by decide +kernel
theorem d_Wv_mix_60 : decode M_Wv_mix.2.1 60 = .ok (.getfield 9, 3) := by decide +kernel
theorem d_Wv_mix_63 : decode M_Wv_mix.2.1 63 = .ok (.iload_n 2, 1) := by decide +kernel
theorem d_Wv_mix_64 : decode M_Wv_mix.2.1 64 = .ok (.iload 5, 2) := by decide +kernel
theorem d_Wv_mix_66 : decode M_Wv_mix.2.1 66 = .ok (.ldc 15, 2) := by decide +kernel
theorem d_Wv_mix_68 : decode M_Wv_mix.2.1 68 = .ok (.iand, 1) := by decide +kernel
theorem d_Wv_mix_69 : decode M_Wv_mix.2.1 69 = .ok (.iastore, 1) := by decide +kernel
theorem d_Wv_mix_70 : decode M_Wv_mix.2.1 70 = .ok (.return_, 1) := by decide +kernel
theorem d_Wv_at_0 : decode M_Wv_at.2.1 0 = .ok (.aload_n 0, 1) := by decide +kernel
theorem d_Wv_at_1 : decode M_Wv_at.2.1 1 = .ok (.getfield 9, 3) := by decide +kernel
theorem d_Wv_at_4 : decode M_Wv_at.2.1 4 = .ok (.iload_n 2, 1) := by decide +kernel
theorem d_Wv_at_5 : decode M_Wv_at.2.1 5 = .ok (.bipush 8, 2) := by decide +kernel
theorem d_Wv_at_7 : decode M_Wv_at.2.1 7 = .ok (.imul, 1) := by decide +kernel
theorem d_Wv_at_8 : decode M_Wv_at.2.1 8 = .ok (.iload_n 1, 1) := by decide +kernel
theorem d_Wv_at_9 : decode M_Wv_at.2.1 9 = .ok (.iadd, 1) := by decide +kernel
theorem d_Wv_at_10 : decode M_Wv_at.2.1 10 = .ok (.iaload, 1) := by decide +kernel
theorem d_Wv_at_11 : decode M_Wv_at.2.1 11 = .ok (.ireturn, 1) := by decide +kernel
theorem d_Wv_backward_0 : decode M_Wv_backward.2.1 0 = .ok (.iconst 4, 1) := by decide +kernel
theorem d_Wv_backward_1 : decode M_Wv_backward.2.1 1 = .ok (.istore_n 3, 1) := by decide +kernel
theorem d_Wv_backward_2 : decode M_Wv_backward.2.1 2 = .ok (.iload_n 3, 1) := by decide +kernel
theorem d_Wv_backward_3 : decode M_Wv_backward.2.1 3 = .ok (.iconst 1, 1) := by decide +kernel
theorem d_Wv_backward_4 : decode M_Wv_backward.2.1 4 = .ok (.if_icmp .lt 136, 3) := by decide +kernel
theorem d_Wv_backward_7 : decode M_Wv_backward.2.1 7 = .ok (.iconst 2, 1) := by decide +kernel
theorem d_Wv_backward_8 : decode M_Wv_backward.2.1 8 = .ok (.iload_n 3, 1) := by decide +kernel
theorem d_Wv_backward_9 : decode M_Wv_backward.2.1 9 = .ok (.imul, 1) := by decide +kernel
theorem d_Wv_backward_10 : decode M_Wv_backward.2.1 10 = .ok (.iload_n 1, 1) := by decide +kernel
theorem d_Wv_backward_11 : decode M_Wv_backward.2.1 11 = .ok (.iload_n 2, 1) := by decide +kernel
theorem d_Wv_backward_12 : decode M_Wv_backward.2.1 12 = .ok (.invokestatic 16, 3) := by decide +kernel
theorem d_Wv_backward_15 : decode M_Wv_backward.2.1 15 = .ok (.if_icmp .gt 7, 3) := by decide +kernel
theorem d_Wv_backward_18 : decode M_Wv_backward.2.1 18 = .ok (.iconst 1, 1) := by decide +kernel
theorem d_Wv_backward_19 : decode M_Wv_backward.2.1 19 = .ok (.goto 4, 3) := by decide +kernel
theorem d_Wv_backward_22 : decode M_Wv_backward.2.1 22 = .ok (.iconst 0, 1) := by decide +kernel
theorem d_Wv_backward_23 : decode M_Wv_backward.2.1 23 = .ok (.istore 4, 2) := by decide +kernel
theorem d_Wv_backward_25 : decode M_Wv_backward.2.1 25 = .ok (.iconst 0, 1) := by decide +kernel
theorem d_Wv_backward_26 : decode M_Wv_backward.2.1 26 = .ok (.istore 5, 2) := by decide +kernel
theorem d_Wv_backward_28 : decode M_Wv_backward.2.1 28 = .ok (.iload 4, 2) := by decide +kernel
theorem d_Wv_backward_30 : decode M_Wv_backward.2.1 30 = .ok (.ifCond .eq 103, 3) := by decide +kernel
theorem d_Wv_backward_33 : decode M_Wv_backward.2.1 33 = .ok (.iload 5, 2) := by decide +kernel
theorem d_Wv_backward_35 : decode M_Wv_backward.2.1 35 = .ok (.iload_n 3, 1) := by decide +kernel
theorem d_Wv_backward_36 : decode M_Wv_backward.2.1 36 = .ok (.iadd, 1) := by decide +kernel
theorem d_Wv_backward_37 : decode M_Wv_backward.2.1 37 = .ok (.iload_n 2, 1) := by decide +kernel
theorem d_Wv_backward_38 : decode M_Wv_backward.2.1 38 = .ok (.if_icmp .ge 95, 3) := by decide +kernel
theorem d_Wv_backward_41 : decode M_Wv_backward.2.1 41 = .ok (.iconst 0, 1) := by decide +kernel
theorem d_Wv_backward_42 : decode M_Wv_backward.2.1 42 = .ok (.istore 6, 2) := by decide +kernel
theorem d_Wv_backward_44 : decode M_Wv_backward.2.1 44 = .ok (.iload 6, 2) := by decide +kernel
theorem d_Wv_backward_46 : decode M_Wv_backward.2.1 46 = .ok (.iload_n 3, 1) := by decide +kernel
theorem d_Wv_backward_47 : decode M_Wv_backward.2.1 47 = .ok (.iadd, 1) := by decide +kernel
theorem d_Wv_backward_48 : decode M_Wv_backward.2.1 48 = .ok (.iload_n 1, 1) := by decide +kernel
theorem d_Wv_backward_49 : decode M_Wv_backward.2.1 49 = .ok (.if_icmp .ge 73, 3) := by decide +kernel
theorem d_Wv_backward_52 : decode M_Wv_backward.2.1 52 = .ok (.iload 5, 2) := by decide +kernel
theorem d_Wv_backward_54 : decode M_Wv_backward.2.1 54 = .ok (.bipush 8, 2) := by decide +kernel
theorem d_Wv_backward_56 : decode M_Wv_backward.2.1 56 = .ok (.imul, 1) := by decide +kernel
theorem d_Wv_backward_57 : decode M_Wv_backward.2.1 57 = .ok (.iload 6, 2) := by decide +kernel
theorem d_Wv_backward_59 : decode M_Wv_backward.2.1 59 = .ok (.iadd, 1) := by decide +kernel
theorem d_Wv_backward_60 : decode M_Wv_backward.2.1 60 = .ok (.istore 7, 2) := by decide +kernel
theorem d_Wv_backward_62 : decode M_Wv_backward.2.1 62 = .ok (.iload 7, 2) := by decide +kernel
theorem d_Wv_backward_64 : decode M_Wv_backward.2.1 64 = .ok (.iload_n 3, 1) := by decide +kernel
theorem d_Wv_backward_65 : decode M_Wv_backward.2.1 65 = .ok (.bipush 8, 2) := by decide +kernel
theorem d_Wv_backward_67 : decode M_Wv_backward.2.1 67 = .ok (.imul, 1) := by decide +kernel
theorem d_Wv_backward_68 : decode M_Wv_backward.2.1 68 = .ok (.iadd, 1) := by decide +kernel
theorem d_Wv_backward_69 : decode M_Wv_backward.2.1 69 = .ok (.istore 8, 2) := by decide +kernel
theorem d_Wv_backward_71 : decode M_Wv_backward.2.1 71 = .ok (.aload_n 0, 1) := by decide +kernel
theorem d_Wv_backward_72 : decode M_Wv_backward.2.1 72 = .ok (.iload 7, 2) := by decide +kernel
theorem d_Wv_backward_74 : decode M_Wv_backward.2.1 74 = .ok (.iload 8, 2) := by decide +kernel
theorem d_Wv_backward_76 : decode M_Wv_backward.2.1 76 = .ok (.invokevirtual 26, 3) := by decide +kernel
theorem d_Wv_backward_79 : decode M_Wv_backward.2.1 79 = .ok (.aload_n 0, 1) := by decide +kernel
theorem d_Wv_backward_80 : decode M_Wv_backward.2.1 80 = .ok (.iload 7, 2) := by decide +kernel
theorem d_Wv_backward_82 : decode M_Wv_backward.2.1 82 = .ok (.iload_n 3, 1) := by decide +kernel
theorem d_Wv_backward_83 : decode M_Wv_backward.2.1 83 = .ok (.iadd, 1) := by decide +kernel
theorem d_Wv_backward_84 : decode M_Wv_backward.2.1 84 = .ok (.iload 8, 2) := by decide +kernel
theorem d_Wv_backward_86 : decode M_Wv_backward.2.1 86 = .ok (.iload_n 3, 1) := by decide +kernel
theorem d_Wv_backward_87 : decode M_Wv_backward.2.1 87 = .ok (.iadd, 1) := by decide +kernel
theorem d_Wv_backward_88 : decode M_Wv_backward.2.1 88 = .ok (.invokevirtual 26, 3) := by decide +kernel
theorem d_Wv_backward_91 : decode M_Wv_backward.2.1 91 = .ok (.aload_n 0, 1) := by decide +kernel
theorem d_Wv_backward_92 : decode M_Wv_backward.2.1 92 = .ok (.iload 7, 2) := by decide +kernel
theorem d_Wv_backward_94 : decode M_Wv_backward.2.1 94 = .ok (.iload 7, 2) := by decide +kernel
theorem d_Wv_backward_96 : decode M_Wv_backward.2.1 96 = .ok (.iload_n 3, 1) := by decide +kernel
theorem d_Wv_backward_97 : decode M_Wv_backward.2.1 97 = .ok (.iadd, 1) := by decide +kernel
theorem d_Wv_backward_98 : decode M_Wv_backward.2.1 98 = .ok (.invokevirtual 26, 3) := by decide +kernel
theorem d_Wv_backward_101 : decode M_Wv_backward.2.1 101 = .ok (.aload_n 0, 1) := by decide +kernel
theorem d_Wv_backward_102 : decode M_Wv_backward.2.1 102 = .ok (.iload 8, 2) := by decide +kernel
theorem d_Wv_backward_104 : decode M_Wv_backward.2.1 104 = .ok (.iload 8, 2) := by decide +kernel
theorem d_Wv_backward_106 : decode M_Wv_backward.2.1 106 = .ok (.iload_n 3, 1) := by decide +kernel
theorem d_Wv_backward_107 : decode M_Wv_backward.2.1 107 = .ok (.iadd, 1) := by decide +kernel
theorem d_Wv_backward_108 : decode M_Wv_backward.2.1 108 = .ok (.invokevirtual 26, 3) := by decide +kernel
theorem d_Wv_backward_111 : decode M_Wv_backward.2.1 111 = .ok (.iload 6, 2) := by decide +kernel
theorem d_Wv_backward_113 : decode M_Wv_backward.2.1 113 = .ok (.iconst 2, 1) := by decide +kernel
theorem d_Wv_backward_114 : decode M_Wv_backward.2.1 114 = .ok (.iload_n 3, 1) := by decide +kernel
theorem d_Wv_backward_115 : decode M_Wv_backward.2.1 115 = .ok (.imul, 1) := by decide +kernel
theorem d_Wv_backward_116 : decode M_Wv_backward.2.1 116 = .ok (.iadd, 1) := by decide +kernel
theorem d_Wv_backward_117 : decode M_Wv_backward.2.1 117 = .ok (.istore 6, 2) := by decide +kernel
theorem d_Wv_backward_119 : decode M_Wv_backward.2.1 119 = .ok (.goto (-75), 3) := by decide +kernel
theorem d_Wv_backward_122 : decode M_Wv_backward.2.1 122 = .ok (.iload 5, 2) := by decide +kernel
theorem d_Wv_backward_124 : decode M_Wv_backward.2.1 124 = .ok (.iconst 2, 1) := by decide +kernel
theorem d_Wv_backward_125 : decode M_Wv_backward.2.1 125 = .ok (.iload_n 3, 1) := by decide +kernel
theorem d_Wv_backward_126 : decode M_Wv_backward.2.1 126 = .ok (.imul, 1) := by decide +kernel
theorem d_Wv_backward_127 : decode M_Wv_backward.2.1 127 = .ok (.iadd, 1) := by decide +kernel
theorem d_Wv_backward_128 : decode M_Wv_backward.2.1 128 = .ok (.istore 5, 2) := by decide +kernel
theorem d_Wv_backward_130 : decode M_Wv_backward.2.1 130 = .ok (.goto (-102), 3) := by decide +kernel
theorem d_Wv_backward_133 : decode M_Wv_backward.2.1 133 = .ok (.iload_n 3, 1) := by decide +kernel
theorem d_Wv_backward_134 : decode M_Wv_backward.2.1 134 = .ok (.iconst 2, 1) := by decide +kernel
theorem d_Wv_backward_135 : decode M_Wv_backward.2.1 135 = .ok (.idiv, 1) := by decide +kernel
theorem d_Wv_backward_136 : decode M_Wv_backward.2.1 136 = .ok (.istore_n 3, 1) := by decide +kernel
theorem d_Wv_backward_137 : decode M_Wv_backward.2.1 137 = .ok (.goto (-135), 3) := by decide +kernel
theorem d_Wv_backward_140 : decode M_Wv_backward.2.1 140 = .ok (.return_, 1) := by decide +kernel
theorem d_Wv_unmix_0 : decode M_Wv_unmix.2.1 0 = .ok (.aload_n 0, 1) := by decide +kernel
theorem d_Wv_unmix_1 : decode M_Wv_unmix.2.1 1 = .ok (.getfield 9, 3) := by decide +kernel
theorem d_Wv_unmix_4 : decode M_Wv_unmix.2.1 4 = .ok (.iload_n 1, 1) := by decide +kernel
theorem d_Wv_unmix_5 : decode M_Wv_unmix.2.1 5 = .ok (.iaload, 1) := by decide +kernel
theorem d_Wv_unmix_6 : decode M_Wv_unmix.2.1 6 = .ok (.aload_n 0, 1) := by decide +kernel
theorem d_Wv_unmix_7 : decode M_Wv_unmix.2.1 7 = .ok (.getfield 9, 3) := by decide +kernel
theorem d_Wv_unmix_10 : decode M_Wv_unmix.2.1 10 = .ok (.iload_n 2, 1) := by decide +kernel
theorem d_Wv_unmix_11 : decode M_Wv_unmix.2.1 11 = .ok (.iaload, 1) := by decide +kernel
theorem d_Wv_unmix_12 : decode M_Wv_unmix.2.1 12 = .ok (.iconst 2, 1) := by decide +kernel
theorem d_Wv_unmix_13 : decode M_Wv_unmix.2.1 13 = .ok (.idiv, 1) := by decide +kernel
theorem d_Wv_unmix_14 : decode M_Wv_unmix.2.1 14 = .ok (.isub, 1) := by decide +kernel
theorem d_Wv_unmix_15 : decode M_Wv_unmix.2.1 15 = .ok (.ldc 15, 2) := by decide +kernel
theorem d_Wv_unmix_17 : decode M_Wv_unmix.2.1 17 = .ok (.iand, 1) := by decide +kernel
theorem d_Wv_unmix_18 : decode M_Wv_unmix.2.1 18 = .ok (.istore_n 3, 1) := by decide +kernel
theorem d_Wv_unmix_19 : decode M_Wv_unmix.2.1 19 = .ok (.aload_n 0, 1) := by decide +kernel
theorem d_Wv_unmix_20 : decode M_Wv_unmix.2.1 20 = .ok (.getfield 9, 3) := by decide +kernel
theorem d_Wv_unmix_23 : decode M_Wv_unmix.2.1 23 = .ok (.iload_n 2, 1) := by decide +kernel
theorem d_Wv_unmix_24 : decode M_Wv_unmix.2.1 24 = .ok (.iaload, 1) := by decide +kernel
theorem d_Wv_unmix_25 : decode M_Wv_unmix.2.1 25 = .ok (.iload_n 3, 1) := by decide +kernel
theorem d_Wv_unmix_26 : decode M_Wv_unmix.2.1 26 = .ok (.iadd, 1) := by decide +kernel
theorem d_Wv_unmix_27 : decode M_Wv_unmix.2.1 27 = .ok (.ldc 29, 2) := by decide +kernel
theorem d_Wv_unmix_29 : decode M_Wv_unmix.2.1 29 = .ok (.isub, 1) := by decide +kernel
theorem d_Wv_unmix_30 : decode M_Wv_unmix.2.1 30 = .ok (.ldc 15, 2) := by decide +kernel
theorem d_Wv_unmix_32 : decode M_Wv_unmix.2.1 32 = .ok (.iand, 1) := by decide +kernel
theorem d_Wv_unmix_33 : decode M_Wv_unmix.2.1 33 = .ok (.istore 4, 2) := by decide +kernel
theorem d_Wv_unmix_35 : decode M_Wv_unmix.2.1 35 = .ok (.aload_n 0, 1) := by decide +kernel
theorem d_Wv_unmix_36 : decode M_Wv_unmix.2.1 36 = .ok (.getfield 9, 3) := by decide +kernel
theorem d_Wv_unmix_39 : decode M_Wv_unmix.2.1 39 = .ok (.iload_n 1, 1) := by decide +kernel
theorem d_Wv_unmix_40 : decode M_Wv_unmix.2.1 40 = .ok (.iload 4, 2) := by decide +kernel
theorem d_Wv_unmix_42 : decode M_Wv_unmix.2.1 42 = .ok (.iastore, 1) := by decide +kernel
theorem d_Wv_unmix_43 : decode M_Wv_unmix.2.1 43 = .ok (.aload_n 0, 1) := by decide +kernel
theorem d_Wv_unmix_44 : decode M_Wv_unmix.2.1 44 = .ok (.getfield 9, 3) := by decide +kernel
theorem d_Wv_unmix_47 : decode M_Wv_unmix.2.1 47 = .ok (.iload_n 2, 1) := by decide +kernel
theorem d_Wv_unmix_48 : decode M_Wv_unmix.2.1 48 = .ok (.iload_n 3, 1) := by decide +kernel
theorem d_Wv_unmix_49 : decode M_Wv_unmix.2.1 49 = .ok (.iastore, 1) := by decide +kernel
theorem d_Wv_unmix_50 : decode M_Wv_unmix.2.1 50 = .ok (.return_, 1) := by decide +kernel
theorem d_Wr_init_0 : decode M_Wr_init.2.1 0 = .ok (.aload_n 0, 1) := by decide +kernel
theorem d_Wr_init_1 : decode M_Wr_init.2.1 1 = .ok (.invokespecial 3, 3) := by decide +kernel
theorem d_Wr_init_4 : decode M_Wr_init.2.1 4 = .ok (.return_, 1) := by decide +kernel
theorem d_Wr_write_0 : decode M_Wr_write.2.1 0 = .ok (.aload_n 3, 1) := by decide +kernel
theorem d_Wr_write_1 : decode M_Wr_write.2.1 1 = .ok (.invokevirtual 9, 3) := by decide +kernel
theorem d_Wr_write_4 : decode M_Wr_write.2.1 4 = .ok (.aload_n 0, 1) := by decide +kernel
theorem d_Wr_write_5 : decode M_Wr_write.2.1 5 = .ok (.aload_n 1, 1) := by decide +kernel
theorem d_Wr_write_6 : decode M_Wr_write.2.1 6 = .ok (.iload_n 2, 1) := by decide +kernel
theorem d_Wr_write_7 : decode M_Wr_write.2.1 7 = .ok (.aload_n 3, 1) := by decide +kernel
theorem d_Wr_write_8 : decode M_Wr_write.2.1 8 = .ok (.invokevirtual 14, 3) := by decide +kernel
theorem d_Wr_write_11 : decode M_Wr_write.2.1 11 = .ok (.aload_n 1, 1) := by decide +kernel
theorem d_Wr_write_12 : decode M_Wr_write.2.1 12 = .ok (.iload_n 2, 1) := by decide +kernel
theorem d_Wr_write_13 : decode M_Wr_write.2.1 13 = .ok (.invokevirtual 20, 3) := by decide +kernel
theorem d_Wr_write_16 : decode M_Wr_write.2.1 16 = .ok (.istore 5, 2) := by decide +kernel
theorem d_Wr_write_18 : decode M_Wr_write.2.1 18 = .ok (.aload_n 3, 1) := by decide +kernel
theorem d_Wr_write_19 : decode M_Wr_write.2.1 19 = .ok (.getfield 26, 3) := by decide +kernel
theorem d_Wr_write_22 : decode M_Wr_write.2.1 22 = .ok (.istore 6, 2) := by decide +kernel
theorem d_Wr_write_24 : decode M_Wr_write.2.1 24 = .ok (.aload_n 3, 1) := by decide +kernel
theorem d_Wr_write_25 : decode M_Wr_write.2.1 25 = .ok (.iconst 0, 1) := by decide +kernel
theorem d_Wr_write_26 : decode M_Wr_write.2.1 26 = .ok (.iconst 2, 1) := by decide +kernel
theorem d_Wr_write_27 : decode M_Wr_write.2.1 27 = .ok (.iload 5, 2) := by decide +kernel
theorem d_Wr_write_29 : decode M_Wr_write.2.1 29 = .ok (.imul, 1) := by decide +kernel
theorem d_Wr_write_30 : decode M_Wr_write.2.1 30 = .ok (.invokevirtual 30, 3) := by decide +kernel
theorem d_Wr_write_33 : decode M_Wr_write.2.1 33 = .ok (.iconst 0, 1) := by decide +kernel
theorem d_Wr_write_34 : decode M_Wr_write.2.1 34 = .ok (.istore 7, 2) := by decide +kernel
theorem d_Wr_write_36 : decode M_Wr_write.2.1 36 = .ok (.iload 7, 2) := by decide +kernel
theorem d_Wr_write_38 : decode M_Wr_write.2.1 38 = .ok (.iload 5, 2) := by decide +kernel
theorem d_Wr_write_40 : decode M_Wr_write.2.1 40 = .ok (.if_icmp .ge 92, 3) := by decide +kernel
theorem d_Wr_write_43 : decode M_Wr_write.2.1 43 = .ok (.aload_n 3, 1) := by decide +kernel
theorem d_Wr_write_44 : decode M_Wr_write.2.1 44 = .ok (.iload 6, 2) := by decide +kernel
theorem d_Wr_write_46 : decode M_Wr_write.2.1 46 = .ok (.iconst 2, 1) := by decide +kernel
theorem d_Wr_write_47 : decode M_Wr_write.2.1 47 = .ok (.iload 7, 2) := by decide +kernel
theorem d_Wr_write_49 : decode M_Wr_write.2.1 49 = .ok (.imul, 1) := by decide +kernel
theorem d_Wr_write_50 : decode M_Wr_write.2.1 50 = .ok (.iadd, 1) := by decide +kernel
theorem d_Wr_write_51 : decode M_Wr_write.2.1 51 = .ok (.aload_n 3, 1) := by decide +kernel
theorem d_Wr_write_52 : decode M_Wr_write.2.1 52 = .ok (.getfield 26, 3) := by decide +kernel
theorem d_Wr_write_55 : decode M_Wr_write.2.1 55 = .ok (.invokevirtual 34, 3) := by decide +kernel
theorem d_Wr_write_58 : decode M_Wr_write.2.1 58 = .ok (.aload_n 3, 1) := by decide +kernel
theorem d_Wr_write_59 : decode M_Wr_write.2.1 59 = .ok (.iload 6, 2) := by decide +kernel
theorem d_Wr_write_61 : decode M_Wr_write.2.1 61 = .ok (.iconst 2, 1) := by decide +kernel
theorem d_Wr_write_62 : decode M_Wr_write.2.1 62 = .ok (.iload 7, 2) := by decide +kernel
theorem d_Wr_write_64 : decode M_Wr_write.2.1 64 = .ok (.imul, 1) := by decide +kernel
theorem d_Wr_write_65 : decode M_Wr_write.2.1 65 = .ok (.iadd, 1) := by decide +kernel
theorem d_Wr_write_66 : decode M_Wr_write.2.1 66 = .ok (.iconst 1, 1) := by decide +kernel
theorem d_Wr_write_67 : decode M_Wr_write.2.1 67 = .ok (.iadd, 1) := by decide +kernel
