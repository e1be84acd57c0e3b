theorem d_Wr_write_68 : decode M_Wr_write.2.1 68 = .ok (.aload_n 3, 1) := by decide +kernel
theorem d_Wr_write_69 : decode M_Wr_write.2.1 69 = .ok (.getfield 26, 3) := by decide +kernel
theorem d_Wr_write_72 : decode M_Wr_write.2.1 72 = .ok (.bipush 8, 2) := by decide +kernel
theorem d_Wr_write_74 : decode M_Wr_write.2.1 74 = .ok (.iushr, 1) := by decide +kernel
theorem d_Wr_write_75 : decode M_Wr_write.2.1 75 = .ok (.invokevirtual 34, 3) := by decide +kernel
theorem d_Wr_write_78 : decode M_Wr_write.2.1 78 = .ok (.iload 7, 2) := by decide +kernel
theorem d_Wr_write_80 : decode M_Wr_write.2.1 80 = .ok (.iload_n 2, 1) := by decide +kernel
theorem d_Wr_write_81 : decode M_Wr_write.2.1 81 = .ok (.invokestatic 37, 3) := by decide +kernel
theorem d_Wr_write_84 : decode M_Wr_write.2.1 84 = .ok (.imul, 1) := by decide +kernel
theorem d_Wr_write_85 : decode M_Wr_write.2.1 85 = .ok (.istore 8, 2) := by decide +kernel
theorem d_Wr_write_87 : decode M_Wr_write.2.1 87 = .ok (.aload 4, 2) := by decide +kernel
theorem d_Wr_write_89 : decode M_Wr_write.2.1 89 = .ok (.aload_n 1, 1) := by decide +kernel
theorem d_Wr_write_90 : decode M_Wr_write.2.1 90 = .ok (.iload_n 2, 1) := by decide +kernel
theorem d_Wr_write_91 : decode M_Wr_write.2.1 91 = .ok (.iload 8, 2) := by decide +kernel
theorem d_Wr_write_93 : decode M_Wr_write.2.1 93 = .ok (.invokevirtual 40, 3) := by decide +kernel
theorem d_Wr_write_96 : decode M_Wr_write.2.1 96 = .ok (.astore 9, 2) := by decide +kernel
theorem d_Wr_write_98 : decode M_Wr_write.2.1 98 = .ok (.aload_n 3, 1) := by decide +kernel
theorem d_Wr_write_99 : decode M_Wr_write.2.1 99 = .ok (.iload 8, 2) := by decide +kernel
theorem d_Wr_write_101 : decode M_Wr_write.2.1 101 = .ok (.invokevirtual 46, 3) := by decide +kernel
theorem d_Wr_write_104 : decode M_Wr_write.2.1 104 = .ok (.aload_n 3, 1) := by decide +kernel
theorem d_Wr_write_105 : decode M_Wr_write.2.1 105 = .ok (.aload 9, 2) := by decide +kernel
theorem d_Wr_write_107 : decode M_Wr_write.2.1 107 = .ok (.getfield 26, 3) := by decide +kernel
theorem d_Wr_write_110 : decode M_Wr_write.2.1 110 = .ok (.iconst 2, 1) := by decide +kernel
theorem d_Wr_write_111 : decode M_Wr_write.2.1 111 = .ok (.invokevirtual 30, 3) := by decide +kernel
theorem d_Wr_write_114 : decode M_Wr_write.2.1 114 = .ok (.aload_n 3, 1) := by decide +kernel
theorem d_Wr_write_115 : decode M_Wr_write.2.1 115 = .ok (.aload 9, 2) := by decide +kernel
theorem d_Wr_write_117 : decode M_Wr_write.2.1 117 = .ok (.iconst 0, 1) := by decide +kernel
theorem d_Wr_write_118 : decode M_Wr_write.2.1 118 = .ok (.aload 9, 2) := by decide +kernel
theorem d_Wr_write_120 : decode M_Wr_write.2.1 120 = .ok (.getfield 26, 3) := by decide +kernel
theorem d_Wr_write_123 : decode M_Wr_write.2.1 123 = .ok (.invokevirtual 50, 3) := by decide +kernel
theorem d_Wr_write_126 : decode M_Wr_write.2.1 126 = .ok (.iinc 7 1, 3) := by decide +kernel
theorem d_Wr_write_129 : decode M_Wr_write.2.1 129 = .ok (.goto (-93), 3) := by decide +kernel
theorem d_Wr_write_132 : decode M_Wr_write.2.1 132 = .ok (.return_, 1) := by decide +kernel
theorem d_Wr_writeHead_0 : decode M_Wr_writeHead.2.1 0 = .ok (.iconst 0, 1) := by decide +kernel
theorem d_Wr_writeHead_1 : decode M_Wr_writeHead.2.1 1 = .ok (.istore 4, 2) := by decide +kernel
theorem d_Wr_writeHead_3 : decode M_Wr_writeHead.2.1 3 = .ok (.iload 4, 2) := by decide +kernel
theorem d_Wr_writeHead_5 : decode M_Wr_writeHead.2.1 5 = .ok (.getstatic 54, 3) := by decide +kernel
theorem d_Wr_writeHead_8 : decode M_Wr_writeHead.2.1 8 = .ok (.arraylength, 1) := by decide +kernel
theorem d_Wr_writeHead_9 : decode M_Wr_writeHead.2.1 9 = .ok (.if_icmp .ge 19, 3) := by decide +kernel
theorem d_Wr_writeHead_12 : decode M_Wr_writeHead.2.1 12 = .ok (.aload_n 3, 1) := by decide +kernel
theorem d_Wr_writeHead_13 : decode M_Wr_writeHead.2.1 13 = .ok (.getstatic 54, 3) := by decide +kernel
theorem d_Wr_writeHead_16 : decode M_Wr_writeHead.2.1 16 = .ok (.iload 4, 2) := by decide +kernel
theorem d_Wr_writeHead_18 : decode M_Wr_writeHead.2.1 18 = .ok (.iaload, 1) := by decide +kernel
theorem d_Wr_writeHead_19 : decode M_Wr_writeHead.2.1 19 = .ok (.invokevirtual 46, 3) := by decide +kernel
theorem d_Wr_writeHead_22 : decode M_Wr_writeHead.2.1 22 = .ok (.iinc 4 1, 3) := by decide +kernel
theorem d_Wr_writeHead_25 : decode M_Wr_writeHead.2.1 25 = .ok (.goto (-22), 3) := by decide +kernel
theorem d_Wr_writeHead_28 : decode M_Wr_writeHead.2.1 28 = .ok (.aload_n 3, 1) := by decide +kernel
theorem d_Wr_writeHead_29 : decode M_Wr_writeHead.2.1 29 = .ok (.iconst 2, 1) := by decide +kernel
theorem d_Wr_writeHead_30 : decode M_Wr_writeHead.2.1 30 = .ok (.invokevirtual 46, 3) := by decide +kernel
theorem d_Wr_writeHead_33 : decode M_Wr_writeHead.2.1 33 = .ok (.aload_n 3, 1) := by decide +kernel
theorem d_Wr_writeHead_34 : decode M_Wr_writeHead.2.1 34 = .ok (.aload_n 1, 1) := by decide +kernel
theorem d_Wr_writeHead_35 : decode M_Wr_writeHead.2.1 35 = .ok (.getfield 58, 3) := by decide +kernel
theorem d_Wr_writeHead_38 : decode M_Wr_writeHead.2.1 38 = .ok (.invokevirtual 46, 3) := by decide +kernel
theorem d_Wr_writeHead_41 : decode M_Wr_writeHead.2.1 41 = .ok (.aload_n 3, 1) := by decide +kernel
theorem d_Wr_writeHead_42 : decode M_Wr_writeHead.2.1 42 = .ok (.aload_n 1, 1) := by decide +kernel
theorem d_Wr_writeHead_43 : decode M_Wr_writeHead.2.1 43 = .ok (.getfield 61, 3) := by decide +kernel
theorem d_Wr_writeHead_46 : decode M_Wr_writeHead.2.1 46 = .ok (.invokevirtual 46, 3) := by decide +kernel
theorem d_Wr_writeHead_49 : decode M_Wr_writeHead.2.1 49 = .ok (.aload_n 3, 1) := by decide +kernel
theorem d_Wr_writeHead_50 : decode M_Wr_writeHead.2.1 50 = .ok (.iload_n 2, 1) := by decide +kernel
theorem d_Wr_writeHead_51 : decode M_Wr_writeHead.2.1 51 = .ok (.invokevirtual 46, 3) := by decide +kernel
theorem d_Wr_writeHead_54 : decode M_Wr_writeHead.2.1 54 = .ok (.aload_n 3, 1) := by decide +kernel
theorem d_Wr_writeHead_55 : decode M_Wr_writeHead.2.1 55 = .ok (.aload_n 1, 1) := by decide +kernel
theorem d_Wr_writeHead_56 : decode M_Wr_writeHead.2.1 56 = .ok (.getfield 64, 3) := by decide +kernel
theorem d_Wr_writeHead_59 : decode M_Wr_writeHead.2.1 59 = .ok (.invokevirtual 46, 3) := by decide +kernel
theorem d_Wr_writeHead_62 : decode M_Wr_writeHead.2.1 62 = .ok (.iconst 0, 1) := by decide +kernel
theorem d_Wr_writeHead_63 : decode M_Wr_writeHead.2.1 63 = .ok (.istore 4, 2) := by decide +kernel
theorem d_Wr_writeHead_65 : decode M_Wr_writeHead.2.1 65 = .ok (.iload 4, 2) := by decide +kernel
theorem d_Wr_writeHead_67 : decode M_Wr_writeHead.2.1 67 = .ok (.aload_n 1, 1) := by decide +kernel
theorem d_Wr_writeHead_68 : decode M_Wr_writeHead.2.1 68 = .ok (.getfield 64, 3) := by decide +kernel
theorem d_Wr_writeHead_71 : decode M_Wr_writeHead.2.1 71 = .ok (.if_icmp .ge 42, 3) := by decide +kernel
theorem d_Wr_writeHead_74 : decode M_Wr_writeHead.2.1 74 = .ok (.aload_n 3, 1) := by decide +kernel
theorem d_Wr_writeHead_75 : decode M_Wr_writeHead.2.1 75 = .ok (.aload_n 1, 1) := by decide +kernel
theorem d_Wr_writeHead_76 : decode M_Wr_writeHead.2.1 76 = .ok (.getfield 67, 3) := by decide +kernel
theorem d_Wr_writeHead_79 : decode M_Wr_writeHead.2.1 79 = .ok (.iload 4, 2) := by decide +kernel
theorem d_Wr_writeHead_81 : decode M_Wr_writeHead.2.1 81 = .ok (.iaload, 1) := by decide +kernel
theorem d_Wr_writeHead_82 : decode M_Wr_writeHead.2.1 82 = .ok (.invokevirtual 46, 3) := by decide +kernel
theorem d_Wr_writeHead_85 : decode M_Wr_writeHead.2.1 85 = .ok (.aload_n 3, 1) := by decide +kernel
theorem d_Wr_writeHead_86 : decode M_Wr_writeHead.2.1 86 = .ok (.aload_n 1, 1) := by decide +kernel
theorem d_Wr_writeHead_87 : decode M_Wr_writeHead.2.1 87 = .ok (.getfield 70, 3) := by decide +kernel
theorem d_Wr_writeHead_90 : decode M_Wr_writeHead.2.1 90 = .ok (.iload 4, 2) := by decide +kernel
theorem d_Wr_writeHead_92 : decode M_Wr_writeHead.2.1 92 = .ok (.iaload, 1) := by decide +kernel
theorem d_Wr_writeHead_93 : decode M_Wr_writeHead.2.1 93 = .ok (.invokevirtual 46, 3) := by decide +kernel
theorem d_Wr_writeHead_96 : decode M_Wr_writeHead.2.1 96 = .ok (.aload_n 3, 1) := by decide +kernel
theorem d_Wr_writeHead_97 : decode M_Wr_writeHead.2.1 97 = .ok (.aload_n 1, 1) := by decide +kernel
theorem d_Wr_writeHead_98 : decode M_Wr_writeHead.2.1 98 = .ok (.getfield 73, 3) := by decide +kernel
theorem d_Wr_writeHead_101 : decode M_Wr_writeHead.2.1 101 = .ok (.iload 4, 2) := by decide +kernel
theorem d_Wr_writeHead_103 : decode M_Wr_writeHead.2.1 103 = .ok (.iaload, 1) := by decide +kernel
theorem d_Wr_writeHead_104 : decode M_Wr_writeHead.2.1 104 = .ok (.invokevirtual 46, 3) := by decide +kernel
theorem d_Wr_writeHead_107 : decode M_Wr_writeHead.2.1 107 = .ok (.iinc 4 1, 3) := by decide +kernel
theorem d_Wr_writeHead_110 : decode M_Wr_writeHead.2.1 110 = .ok (.goto (-45), 3) := by decide +kernel
theorem d_Wr_writeHead_113 : decode M_Wr_writeHead.2.1 113 = .ok (.return_, 1) := by decide +kernel
theorem d_Re_init_0 : decode M_Re_init.2.1 0 = .ok (.aload_n 0, 1) := by decide +kernel
theorem d_Re_init_1 : decode M_Re_init.2.1 1 = .ok (.invokespecial 3, 3) := by decide +kernel
theorem d_Re_init_4 : decode M_Re_init.2.1 4 = .ok (.aload_n 0, 1) := by decide +kernel
theorem d_Re_init_5 : decode M_Re_init.2.1 5 = .ok (.bipush (-2), 2) := by decide +kernel
theorem d_Re_init_7 : decode M_Re_init.2.1 7 = .ok (.putfield 9, 3) := by decide +kernel
theorem d_Re_init_10 : decode M_Re_init.2.1 10 = .ok (.aload_n 0, 1) := by decide +kernel
theorem d_Re_init_11 : decode M_Re_init.2.1 11 = .ok (.new 15, 3) := by decide +kernel
theorem d_Re_init_14 : decode M_Re_init.2.1 14 = .ok (.dup, 1) := by decide +kernel
theorem d_Re_init_15 : decode M_Re_init.2.1 15 = .ok (.iconst 0, 1) := by decide +kernel
theorem d_Re_init_16 : decode M_Re_init.2.1 16 = .ok (.invokespecial 17, 3) := by decide +kernel
theorem d_Re_init_19 : decode M_Re_init.2.1 19 = .ok (.putfield 20, 3) := by decide +kernel
theorem d_Re_init_22 : decode M_Re_init.2.1 22 = .ok (.return_, 1) := by decide +kernel
theorem d_Re_read_0 : decode M_Re_read.2.1 0 = .ok (.aload_n 0, 1) := by decide +kernel
theorem d_Re_read_1 : decode M_Re_read.2.1 1 = .ok (.aload_n 1, 1) := by decide +kernel
theorem d_Re_read_2 : decode M_Re_read.2.1 2 = .ok (.putfield 20, 3) := by decide +kernel
theorem d_Re_read_5 : decode M_Re_read.2.1 5 = .ok (.aload_n 0, 1) := by decide +kernel
theorem d_Re_read_6 : decode M_Re_read.2.1 6 = .ok (.iconst 0, 1) := by decide +kernel
theorem d_Re_read_7 : decode M_Re_read.2.1 7 = .ok (.putfield 24, 3) := by decide +kernel
theorem d_Re_read_10 : decode M_Re_read.2.1 10 = .ok (.aload_n 0, 1) := by decide +kernel
theorem d_Re_read_11 : decode M_Re_read.2.1 11 = .ok (.bipush (-2), 2) := by decide +kernel
theorem d_Re_read_13 : decode M_Re_read.2.1 13 = .ok (.putfield 9, 3) := by decide +kernel
theorem d_Re_read_16 : decode M_Re_read.2.1 16 = .ok (.aload_n 0, 1) := by decide +kernel
theorem d_Re_read_17 : decode M_Re_read.2.1 17 = .ok (.iconst 0, 1) := by decide +kernel
theorem d_Re_read_18 : decode M_Re_read.2.1 18 = .ok (.putfield 27, 3) := by decide +kernel
theorem d_Re_read_21 : decode M_Re_read.2.1 21 = .ok (.aload_n 0, 1) := by decide +kernel
theorem d_Re_read_22 : decode M_Re_read.2.1 22 = .ok (.aload_n 2, 1) := by decide +kernel
theorem d_Re_read_23 : decode M_Re_read.2.1 23 = .ok (.invokevirtual 31, 3) := by decide +kernel
theorem d_Re_read_26 : decode M_Re_read.2.1 26 = .ok (.ifCond .eq 19, 3) := by decide +kernel
theorem d_Re_read_29 : decode M_Re_read.2.1 29 = .ok (.aload_n 0, 1) := by decide +kernel
theorem d_Re_read_30 : decode M_Re_read.2.1 30 = .ok (.aload_n 2, 1) := by decide +kernel
theorem d_Re_read_31 : decode M_Re_read.2.1 31 = .ok (.invokevirtual 35, 3) := by decide +kernel
theorem d_Re_read_34 : decode M_Re_read.2.1 34 = .ok (.ifCond .eq 11, 3) := by decide +kernel
theorem d_Re_read_37 : decode M_Re_read.2.1 37 = .ok (.aload_n 0, 1) := by decide +kernel
theorem d_Re_read_38 : decode M_Re_read.2.1 38 = .ok (.aload_n 2, 1) := by decide +kernel
theorem d_Re_read_39 : decode M_Re_read.2.1 39 = .ok (.invokevirtual 38, 3) := by decide +kernel
theorem d_Re_read_42 : decode M_Re_read.2.1 42 = .ok (.ifCond .ne 5, 3) := by decide +kernel
theorem d_Re_read_45 : decode M_Re_read.2.1 45 = .ok (.iconst 0, 1) := by decide +kernel
theorem d_Re_read_46 : decode M_Re_read.2.1 46 = .ok (.ireturn, 1) := by decide +kernel
theorem d_Re_read_47 : decode M_Re_read.2.1 47 = .ok (.aload_n 2, 1) := by decide +kernel
theorem d_Re_read_48 : decode M_Re_read.2.1 48 = .ok (.aload_n 0, 1) := by decide +kernel
theorem d_Re_read_49 : decode M_Re_read.2.1 49 = .ok (.getfield 41, 3) := by decide +kernel
theorem d_Re_read_52 : decode M_Re_read.2.1 52 = .ok (.invokevirtual 44, 3) := by decide +kernel
theorem d_Re_read_55 : decode M_Re_read.2.1 55 = .ok (.istore 4, 2) := by decide +kernel
theorem d_Re_read_57 : decode M_Re_read.2.1 57 = .ok (.iconst 0, 1) := by decide +kernel
theorem d_Re_read_58 : decode M_Re_read.2.1 58 = .ok (.istore 5, 2) := by decide +kernel
theorem d_Re_read_60 : decode M_Re_read.2.1 60 = .ok (.iload 5, 2) := by decide +kernel
theorem d_Re_read_62 : decode M_Re_read.2.1 62 = .ok (.iload 4, 2) := by decide +kernel
theorem d_Re_read_64 : decode M_Re_read.2.1 64 = .ok (.if_icmp .ge 30, 3) := by decide +kernel
theorem d_Re_read_67 : decode M_Re_read.2.1 67 = .ok (.aload_n 0, 1) := by decide +kernel
theorem d_Re_read_68 : decode M_Re_read.2.1 68 = .ok (.iload 5, 2) := by decide +kernel
theorem d_Re_read_70 : decode M_Re_read.2.1 70 = .ok (.aload_n 0, 1) := by decide +kernel
theorem d_Re_read_71 : decode M_Re_read.2.1 71 = .ok (.getfield 41, 3) := by decide +kernel
theorem d_Re_read_74 : decode M_Re_read.2.1 74 = .ok (.invokestatic 50, 3) := by decide +kernel
theorem d_Re_read_77 : decode M_Re_read.2.1 77 = .ok (.imul, 1) := by decide +kernel
theorem d_Re_read_78 : decode M_Re_read.2.1 78 = .ok (.aload_n 2, 1) := by decide +kernel
theorem d_Re_read_79 : decode M_Re_read.2.1 79 = .ok (.aload_n 3, 1) := by decide +kernel
theorem d_Re_read_80 : decode M_Re_read.2.1 80 = .ok (.invokevirtual 53, 3) := by decide +kernel
theorem d_Re_read_83 : decode M_Re_read.2.1 83 = .ok (.ifCond .ne 5, 3) := by decide +kernel
theorem d_Re_read_86 : decode M_Re_read.2.1 86 = .ok (.iconst 0, 1) := by decide +kernel
theorem d_Re_read_87 : decode M_Re_read.2.1 87 = .ok (.ireturn, 1) := by decide +kernel
theorem d_Re_read_88 : decode M_Re_read.2.1 88 = .ok (.iinc 5 1, 3) := by decide +kernel
theorem d_Re_read_91 : decode M_Re_read.2.1 91 = .ok (.goto (-31), 3) := by decide +kernel
theorem d_Re_read_94 : decode M_Re_read.2.1 94 = .ok (.aload_n 0, 1) := by decide +kernel
theorem d_Re_read_95 : decode M_Re_read.2.1 95 = .ok (.getfield 24, 3) := by decide +kernel
theorem d_Re_read_98 : decode M_Re_read.2.1 98 = .ok (.aload_n 0, 1) := by decide +kernel
theorem d_Re_read_99 : decode M_Re_read.2.1 99 = .ok (.getfield 20, 3) := by decide +kernel
theorem d_Re_read_102 : decode M_Re_read.2.1 102 = .ok (.getfield 57, 3) := by decide +kernel
theorem d_Re_read_105 : decode M_Re_read.2.1 105 = .ok (.if_icmp .eq 14, 3) := by decide +kernel
theorem d_Re_read_108 : decode M_Re_read.2.1 108 = .ok (.aload_n 0, 1) := by decide +kernel
theorem d_Re_read_109 : decode M_Re_read.2.1 109 = .ok (.aload_n 0, 1) := by decide +kernel
theorem d_Re_read_110 : decode M_Re_read.2.1 110 = .ok (.getfield 24, 3) := by decide +kernel
theorem d_Re_read_113 : decode M_Re_read.2.1 113 = .ok (.invokevirtual 60, 3) := by decide +kernel
theorem d_Re_read_116 : decode M_Re_read.2.1 116 = .ok (.ifCond .eq 7, 3) := by decide +kernel
theorem d_Re_read_119 : decode M_Re_read.2.1 119 = .ok (.iconst 1, 1) := by decide +kernel
theorem d_Re_read_120 : decode M_Re_read.2.1 120 = .ok (.goto 4, 3) := by decide +kernel
theorem d_Re_read_123 : decode M_Re_read.2.1 123 = .ok (.iconst 0, 1) := by decide +kernel
theorem d_Re_read_124 : decode M_Re_read.2.1 124 = .ok (.ireturn, 1) := by decide +kernel
theorem d_Re_readHead_0 : decode M_Re_readHead.2.1 0 = .ok (.iconst 0, 1) := by decide +kernel
theorem d_Re_readHead_1 : decode M_Re_readHead.2.1 1 = .ok (.istore_n 2, 1) := by decide +kernel
theorem d_Re_readHead_2 : decode M_Re_readHead.2.1 2 = .ok (.iload_n 2, 1) := by decide +kernel
theorem d_Re_readHead_3 : decode M_Re_readHead.2.1 3 = .ok (.getstatic 64, 3) := by decide +kernel
theorem d_Re_readHead_6 : decode M_Re_readHead.2.1 6 = .ok (.arraylength, 1) := by decide +kernel
theorem d_Re_readHead_7 : decode M_Re_readHead.2.1 7 = .ok (.if_icmp .ge 28, 3) := by decide +kernel
theorem d_Re_readHead_10 : decode M_Re_readHead.2.1 10 = .ok (.aload_n 0, 1) := by decide +kernel
theorem d_Re_readHead_11 : decode M_Re_readHead.2.1 11 = .ok (.getstatic 64, 3) := by decide +kernel
theorem d_Re_readHead_14 : decode M_Re_readHead.2.1 14 = .ok (.iload_n 2, 1) := by decide +kernel
theorem d_Re_readHead_15 : decode M_Re_readHead.2.1 15 = .ok (.iaload, 1) := by decide +kernel
theorem d_Re_readHead_16 : decode M_Re_readHead.2.1 16 = .ok (.getstatic 64, 3) := by decide +kernel
theorem d_Re_readHead_19 : decode M_Re_readHead.2.1 19 = .ok (.iload_n 2, 1) := by decide +kernel
theorem d_Re_readHead_20 : decode M_Re_readHead.2.1 20 = .ok (.iaload, 1) := by decide +kernel
theorem d_Re_readHead_21 : decode M_Re_readHead.2.1 21 = .ok (.invokevirtual 68, 3) := by decide +kernel
theorem d_Re_readHead_24 : decode M_Re_readHead.2.1 24 = .ok (.ifCond .ne 5, 3) := by decide +kernel
theorem d_Re_readHead_27 : decode M_Re_readHead.2.1 27 = .ok (.iconst 0, 1) := by decide +kernel
theorem d_Re_readHead_28 : decode M_Re_readHead.2.1 28 = .ok (.ireturn, 1) := by decide +kernel
theorem d_Re_readHead_29 : decode M_Re_readHead.2.1 29 = .ok (.iinc 2 1, 3) := by decide +kernel
theorem d_Re_readHead_32 : decode M_Re_readHead.2.1 32 = .ok (.goto (-30), 3) := by decide +kernel
theorem d_Re_readHead_35 : decode M_Re_readHead.2.1 35 = .ok (.aload_n 0, 1) := by decide +kernel
theorem d_Re_readHead_36 : decode M_Re_readHead.2.1 36 = .ok (.iconst 2, 1) := by decide +kernel
theorem d_Re_readHead_37 : decode M_Re_readHead.2.1 37 = .ok (.iconst 2, 1) := by decide +kernel
theorem d_Re_readHead_38 : decode M_Re_readHead.2.1 38 = .ok (.invokevirtual 72, 3) := by decide +kernel
theorem d_Re_readHead_41 : decode M_Re_readHead.2.1 41 = .ok (.ifCond .eq 32, 3) := by decide +kernel
theorem d_Re_readHead_44 : decode M_Re_readHead.2.1 44 = .ok (.aload_n 0, 1) := by decide +kernel
theorem d_Re_readHead_45 : decode M_Re_readHead.2.1 45 = .ok (.iconst 1, 1) := by decide +kernel
theorem d_Re_readHead_46 : decode M_Re_readHead.2.1 46 = .ok (.bipush 8, 2) := by decide +kernel
theorem d_Re_readHead_48 : decode M_Re_readHead.2.1 48 = .ok (.invokevirtual 68, 3) := by decide +kernel
theorem d_Re_readHead_51 : decode M_Re_readHead.2.1 51 = .ok (.ifCond .eq 22, 3) := by decide +kernel
theorem d_Re_readHead_54 : decode M_Re_readHead.2.1 54 = .ok (.aload_n 0, 1) := by decide +kernel
theorem d_Re_readHead_55 : decode M_Re_readHead.2.1 55 = .ok (.iconst 1, 1) := by decide +kernel
theorem d_Re_readHead_56 : decode M_Re_readHead.2.1 56 = .ok (.bipush 8, 2) := by decide +kernel
theorem d_Re_readHead_58 : decode M_Re_readHead.2.1 58 = .ok (.invokevirtual 68, 3) := by decide +kernel
theorem d_Re_readHead_61 : decode M_Re_readHead.2.1 61 = .ok (.ifCond .eq 12, 3) := by decide +kernel
theorem d_Re_readHead_64 : decode M_Re_readHead.2.1 64 = .ok (.aload_n 0, 1) := by decide +kernel
theorem d_Re_readHead_65 : decode M_Re_readHead.2.1 65 = .ok (.iconst 0, 1) := by decide +kernel
theorem d_Re_readHead_66 : decode M_Re_readHead.2.1 66 = .ok (.iconst 3, 1) := by decide +kernel
theorem d_Re_readHead_67 : decode M_Re_readHead.2.1 67 = .ok (.invokevirtual 72, 3) := by decide +kernel
theorem d_Re_readHead_70 : decode M_Re_readHead.2.1 70 = .ok (.ifCond .ne 5, 3) := by decide +kernel
theorem d_Re_readHead_73 : decode M_Re_readHead.2.1 73 = .ok (.iconst 0, 1) := by decide +kernel
theorem d_Re_readHead_74 : decode M_Re_readHead.2.1 74 = .ok (.ireturn, 1) := by decide +kernel
theorem d_Re_readHead_75 : decode M_Re_readHead.2.1 75 = .ok (.aload_n 1, 1) := by decide +kernel
theorem d_Re_readHead_76 : decode M_Re_readHead.2.1 76 = .ok (.aload_n 0, 1) := by decide +kernel
theorem d_Re_readHead_77 : decode M_Re_readHead.2.1 77 = .ok (.getfield 20, 3) := by decide +kernel
theorem d_Re_readHead_80 : decode M_Re_readHead.2.1 80 = .ok (.aload_n 0, 1) := by decide +kernel
theorem d_Re_readHead_81 : decode M_Re_readHead.2.1 81 = .ok (.getfield 24, 3) := by decide +kernel
theorem d_Re_readHead_84 : decode M_Re_readHead.2.1 84 = .ok (.iconst 3, 1) := by decide +kernel
theorem d_Re_readHead_85 : decode M_Re_readHead.2.1 85 = .ok (.isub, 1) := by decide +kernel
theorem d_Re_readHead_86 : decode M_Re_readHead.2.1 86 = .ok (.invokevirtual 75, 3) := by decide +kernel
theorem d_Re_readHead_89 : decode M_Re_readHead.2.1 89 = .ok (.aload_n 0, 1) := by decide +kernel
theorem d_Re_readHead_90 : decode M_Re_readHead.2.1 90 = .ok (.getfield 20, 3) := by decide +kernel
theorem d_Re_readHead_93 : decode M_Re_readHead.2.1 93 = .ok (.aload_n 0, 1) := by decide +kernel
theorem d_Re_readHead_94 : decode M_Re_readHead.2.1 94 = .ok (.getfield 24, 3) := by decide +kernel
theorem d_Re_readHead_97 : decode M_Re_readHead.2.1 97 = .ok (.iconst 2, 1) := by decide +kernel
theorem d_Re_readHead_98 : decode M_Re_readHead.2.1 98 = .ok (.isub, 1) := by decide +kernel
theorem d_Re_readHead_99 : decode M_Re_readHead.2.1 99 = .ok (.invokevirtual 75, 3) := by decide +kernel
theorem d_Re_readHead_102 : decode M_Re_readHead.2.1 102 = .ok (.invokevirtual 78, 3) := by decide +kernel
theorem d_Re_readHead_105 : decode M_Re_readHead.2.1 105 = .ok (.aload_n 0, 1) := by decide +kernel
theorem d_Re_readHead_106 : decode M_Re_readHead.2.1 106 = .ok (.aload_n 0, 1) := by decide +kernel
theorem d_Re_readHead_107 : decode M_Re_readHead.2.1 107 = .ok (.getfield 20, 3) := by decide +kernel
theorem d_Re_readHead_110 : decode M_Re_readHead.2.1 110 = .ok (.aload_n 0, 1) := by decide +kernel
theorem d_Re_readHead_111 : decode M_Re_readHead.2.1 111 = .ok (.getfield 24, 3) := by decide +kernel
theorem d_Re_readHead_114 : decode M_Re_readHead.2.1 114 = .ok (.iconst 1, 1) := by decide +kernel
theorem d_Re_readHead_115 : decode M_Re_readHead.2.1 115 = .ok (.isub, 1) := by decide +kernel
theorem d_Re_readHead_116 : decode M_Re_readHead.2.1 116 = .ok (.invokevirtual 75, 3) := by decide +kernel
theorem d_Re_readHead_119 : decode M_Re_readHead.2.1 119 = .ok (.putfield 41, 3) := by decide +kernel
theorem d_Re_readHead_122 : decode M_Re_readHead.2.1 122 = .ok (.iconst 1, 1) := by decide +kernel
theorem d_Re_readHead_123 : decode M_Re_readHead.2.1 123 = .ok (.ireturn, 1) := by decide +kernel
theorem d_Re_nextIs_0 : decode M_Re_nextIs.2.1 0 = .ok (.aload_n 0, 1) := by decide +kernel
theorem d_Re_nextIs_1 : decode M_Re_nextIs.2.1 1 = .ok (.iconst 1, 1) := by decide +kernel
theorem d_Re_nextIs_2 : decode M_Re_nextIs.2.1 2 = .ok (.invokevirtual 90, 3) := by decide +kernel
theorem d_Re_nextIs_5 : decode M_Re_nextIs.2.1 5 = .ok (.ifCond .eq 5, 3) := by decide +kernel
theorem d_Re_nextIs_8 : decode M_Re_nextIs.2.1 8 = .ok (.iconst 0, 1) := by decide +kernel
theorem d_Re_nextIs_9 : decode M_Re_nextIs.2.1 9 = .ok (.ireturn, 1) := by decide +kernel
theorem d_Re_nextIs_10 : decode M_Re_nextIs.2.1 10 = .ok (.aload_n 0, 1) := by decide +kernel
theorem d_Re_nextIs_11 : decode M_Re_nextIs.2.1 11 = .ok (.getfield 20, 3) := by decide +kernel
theorem d_Re_nextIs_14 : decode M_Re_nextIs.2.1 14 = .ok (.aload_n 0, 1) := by decide +kernel
theorem d_Re_nextIs_15 : decode M_Re_nextIs.2.1 15 = .ok (.getfield 24, 3) := by decide +kernel
theorem d_Re_nextIs_18 : decode M_Re_nextIs.2.1 18 = .ok (.invokevirtual 75, 3) := by decide +kernel
theorem d_Re_nextIs_21 : decode M_Re_nextIs.2.1 21 = .ok (.istore_n 3, 1) := by decide +kernel
theorem d_Re_nextIs_22 : decode M_Re_nextIs.2.1 22 = .ok (.iload_n 3, 1) := by decide +kernel
theorem d_Re_nextIs_23 : decode M_Re_nextIs.2.1 23 = .ok (.iload_n 1, 1) := by decide +kernel
theorem d_Re_nextIs_24 : decode M_Re_nextIs.2.1 24 = .ok (.if_icmp .lt 8, 3) := by decide +kernel
theorem d_Re_nextIs_27 : decode M_Re_nextIs.2.1 27 = .ok (.iload_n 3, 1) := by decide +kernel
theorem d_Re_nextIs_28 : decode M_Re_nextIs.2.1 28 = .ok (.iload_n 2, 1) := by decide +kernel
theorem d_Re_nextIs_29 : decode M_Re_nextIs.2.1 29 = .ok (.if_icmp .le 12, 3) := by decide +kernel
theorem d_Re_nextIs_32 : decode M_Re_nextIs.2.1 32 = .ok (.aload_n 0, 1) := by decide +kernel
theorem d_Re_nextIs_33 : decode M_Re_nextIs.2.1 33 = .ok (.aload_n 0, 1) := by decide +kernel
theorem d_Re_nextIs_34 : decode M_Re_nextIs.2.1 34 = .ok (.getfield 24, 3) := by decide +kernel
theorem d_Re_nextIs_37 : decode M_Re_nextIs.2.1 37 = .ok (.invokevirtual 60, 3) := by decide +kernel
theorem d_Re_nextIs_40 : decode M_Re_nextIs.2.1 40 = .ok (.ireturn, 1) := by decide +kernel
theorem d_Re_nextIs_41 : decode M_Re_nextIs.2.1 41 = .ok (.aload_n 0, 1) := by decide +kernel
theorem d_Re_nextIs_42 : decode M_Re_nextIs.2.1 42 = .ok (.dup, 1) := by decide +kernel
theorem d_Re_nextIs_43 : decode M_Re_nextIs.2.1 43 = .ok (.getfield 24, 3) := by decide +kernel
theorem d_Re_nextIs_46 : decode M_Re_nextIs.2.1 46 = .ok (.iconst 1, 1) := by decide +kernel
theorem d_Re_nextIs_47 : decode M_Re_nextIs.2.1 47 = .ok (.iadd, 1) := by decide +kernel
theorem d_Re_nextIs_48 : decode M_Re_nextIs.2.1 48 = .ok (.putfield 24, 3) := by decide +kernel
theorem d_Re_nextIs_51 : decode M_Re_nextIs.2.1 51 = .ok (.iconst 1, 1) := by decide +kernel
theorem d_Re_nextIs_52 : decode M_Re_nextIs.2.1 52 = .ok (.ireturn, 1) := by decide +kernel
theorem d_Re_lacks_0 : decode M_Re_lacks.2.1 0 = .ok (.aload_n 0, 1) := by decide +kernel
theorem d_Re_lacks_1 : decode M_Re_lacks.2.1 1 = .ok (.getfield 24, 3) := by decide +kernel
theorem d_Re_lacks_4 : decode M_Re_lacks.2.1 4 = .ok (.iload_n 1, 1) := by decide +kernel
theorem d_Re_lacks_5 : decode M_Re_lacks.2.1 5 = .ok (.iadd, 1) := by decide +kernel
theorem d_Re_lacks_6 : decode M_Re_lacks.2.1 6 = .ok (.aload_n 0, 1) := by decide +kernel
theorem d_Re_lacks_7 : decode M_Re_lacks.2.1 7 = .ok (.getfield 20, 3) := by decide +kernel
theorem d_Re_lacks_10 : decode M_Re_lacks.2.1 10 = .ok (.getfield 57, 3) := by decide +kernel
theorem d_Re_lacks_13 : decode M_Re_lacks.2.1 13 = .ok (.if_icmp .gt 5, 3) := by decide +kernel
theorem d_Re_lacks_16 : decode M_Re_lacks.2.1 16 = .ok (.iconst 0, 1) := by decide +kernel
theorem d_Re_lacks_17 : decode M_Re_lacks.2.1 17 = .ok (.ireturn, 1) := by decide +kernel
theorem d_Re_lacks_18 : decode M_Re_lacks.2.1 18 = .ok (.aload_n 0, 1) := by decide +kernel
theorem d_Re_lacks_19 : decode M_Re_lacks.2.1 19 = .ok (.aload_n 0, 1) := by decide +kernel
theorem d_Re_lacks_20 : decode M_Re_lacks.2.1 20 = .ok (.getfield 20, 3) := by decide +kernel
theorem d_Re_lacks_23 : decode M_Re_lacks.2.1 23 = .ok (.getfield 57, 3) := by decide +kernel
theorem d_Re_lacks_26 : decode M_Re_lacks.2.1 26 = .ok (.putfield 9, 3) := by decide +kernel
theorem d_Re_lacks_29 : decode M_Re_lacks.2.1 29 = .ok (.iconst 1, 1) := by decide +kernel
theorem d_Re_lacks_30 : decode M_Re_lacks.2.1 30 = .ok (.ireturn, 1) := by decide +kernel
theorem d_Re_failsAt_0 : decode M_Re_failsAt.2.1 0 = .ok (.aload_n 0, 1) := by decide +kernel
theorem d_Re_failsAt_1 : decode M_Re_failsAt.2.1 1 = .ok (.iload_n 1, 1) := by decide +kernel
theorem d_Re_failsAt_2 : decode M_Re_failsAt.2.1 2 = .ok (.putfield 9, 3) := by decide +kernel
theorem d_Re_failsAt_5 : decode M_Re_failsAt.2.1 5 = .ok (.iconst 0, 1) := by decide +kernel
theorem d_Re_failsAt_6 : decode M_Re_failsAt.2.1 6 = .ok (.ireturn, 1) := by decide +kernel
theorem d_Re_nextIsKnown_0 : decode M_Re_nextIsKnown.2.1 0 = .ok (.aload_n 0, 1) := by decide +kernel
theorem d_Re_nextIsKnown_1 : decode M_Re_nextIsKnown.2.1 1 = .ok (.getfield 24, 3) := by decide +kernel
theorem d_Re_nextIsKnown_4 : decode M_Re_nextIsKnown.2.1 4 = .ok (.aload_n 0, 1) := by decide +kernel
theorem d_Re_nextIsKnown_5 : decode M_Re_nextIsKnown.2.1 5 = .ok (.getfield 20, 3) := by decide +kernel
theorem d_Re_nextIsKnown_8 : decode M_Re_nextIsKnown.2.1 8 = .ok (.getfield 57, 3) := by decide +kernel
theorem d_Re_nextIsKnown_11 : decode M_Re_nextIsKnown.2.1 11 = .ok (.if_icmp .ge 7, 3) := by decide +kernel
theorem d_Re_nextIsKnown_14 : decode M_Re_nextIsKnown.2.1 14 = .ok (.iconst 1, 1) := by decide +kernel
theorem d_Re_nextIsKnown_15 : decode M_Re_nextIsKnown.2.1 15 = .ok (.goto 4, 3) := by decide +kernel
theorem d_Re_nextIsKnown_18 : decode M_Re_nextIsKnown.2.1 18 = .ok (.iconst 0, 1) := by decide +kernel
theorem d_Re_nextIsKnown_19 : decode M_Re_nextIsKnown.2.1 19 = .ok (.istore_n 3, 1) := by decide +kernel
theorem d_Re_nextIsKnown_20 : decode M_Re_nextIsKnown.2.1 20 = .ok (.aload_n 0, 1) := by decide +kernel
theorem d_Re_nextIsKnown_21 : decode M_Re_nextIsKnown.2.1 21 = .ok (.iload_n 1, 1) := by decide +kernel
theorem d_Re_nextIsKnown_22 : decode M_Re_nextIsKnown.2.1 22 = .ok (.iload_n 2, 1) := by decide +kernel
theorem d_Re_nextIsKnown_23 : decode M_Re_nextIsKnown.2.1 23 = .ok (.invokevirtual 68, 3) := by decide +kernel
theorem d_Re_nextIsKnown_26 : decode M_Re_nextIsKnown.2.1 26 = .ok (.istore 4, 2) := by decide +kernel
theorem d_Re_nextIsKnown_28 : decode M_Re_nextIsKnown.2.1 28 = .ok (.aload_n 0, 1) := by decide +kernel
theorem d_Re_nextIsKnown_29 : decode M_Re_nextIsKnown.2.1 29 = .ok (.iload_n 3, 1) := by decide +kernel
theorem d_Re_nextIsKnown_30 : decode M_Re_nextIsKnown.2.1 30 = .ok (.ifCond .eq 12, 3) := by decide +kernel
theorem d_Re_nextIsKnown_33 : decode M_Re_nextIsKnown.2.1 33 = .ok (.iload 4, 2) := by decide +kernel
theorem d_Re_nextIsKnown_35 : decode M_Re_nextIsKnown.2.1 35 = .ok (.ifCond .ne 7, 3) := by decide +kernel
theorem d_Re_nextIsKnown_38 : decode M_Re_nextIsKnown.2.1 38 = .ok (.iconst 1, 1) := by decide +kernel
theorem d_Re_nextIsKnown_39 : decode M_Re_nextIsKnown.2.1 39 = .ok (.goto 4, 3) := by decide +kernel
theorem d_Re_nextIsKnown_42 : decode M_Re_nextIsKnown.2.1 42 = .ok (.iconst 0, 1) := by decide +kernel
theorem d_Re_nextIsKnown_43 : decode M_Re_nextIsKnown.2.1 43 = .ok (.putfield 27, 3) := by decide +kernel
theorem d_Re_nextIsKnown_46 : decode M_Re_nextIsKnown.2.1 46 = .ok (.iload 4, 2) := by decide +kernel
theorem d_Re_nextIsKnown_48 : decode M_Re_nextIsKnown.2.1 48 = .ok (.ireturn, 1) := by decide +kernel
theorem d_Re_readChannels_0 : decode M_Re_readChannels.2.1 0 = .ok (.aload_n 0, 1) := by decide +kernel
theorem d_Re_readChannels_1 : decode M_Re_readChannels.2.1 1 = .ok (.iconst 1, 1) := by decide +kernel
theorem d_Re_readChannels_2 : decode M_Re_readChannels.2.1 2 = .ok (.iconst 3, 1) := by decide +kernel
theorem d_Re_readChannels_3 : decode M_Re_readChannels.2.1 3 = .ok (.invokevirtual 68, 3) := by decide +kernel
theorem d_Re_readChannels_6 : decode M_Re_readChannels.2.1 6 = .ok (.ifCond .ne 5, 3) := by decide +kernel
theorem d_Re_readChannels_9 : decode M_Re_readChannels.2.1 9 = .ok (.iconst 0, 1) := by decide +kernel
theorem d_Re_readChannels_10 : decode M_Re_readChannels.2.1 10 = .ok (.ireturn, 1) := by decide +kernel
theorem d_Re_readChannels_11 : decode M_Re_readChannels.2.1 11 = .ok (.aload_n 0, 1) := by decide +kernel
theorem d_Re_readChannels_12 : decode M_Re_readChannels.2.1 12 = .ok (.getfield 20, 3) := by decide +kernel
theorem d_Re_readChannels_15 : decode M_Re_readChannels.2.1 15 = .ok (.aload_n 0, 1) := by decide +kernel
theorem d_Re_readChannels_16 : decode M_Re_readChannels.2.1 16 = .ok (.getfield 24, 3) := by decide +kernel
theorem d_Re_readChannels_19 : decode M_Re_readChannels.2.1 19 = .ok (.iconst 1, 1) := by decide +kernel
theorem d_Re_readChannels_20 : decode M_Re_readChannels.2.1 20 = .ok (.isub, 1) := by decide +kernel
theorem d_Re_readChannels_21 : decode M_Re_readChannels.2.1 21 = .ok (.invokevirtual 75, 3) := by decide +kernel
theorem d_Re_readChannels_24 : decode M_Re_readChannels.2.1 24 = .ok (.istore_n 2, 1) := by decide +kernel
theorem d_Re_readChannels_25 : decode M_Re_readChannels.2.1 25 = .ok (.iconst 0, 1) := by decide +kernel
theorem d_Re_readChannels_26 : decode M_Re_readChannels.2.1 26 = .ok (.istore_n 3, 1) := by decide +kernel
theorem d_Re_readChannels_27 : decode M_Re_readChannels.2.1 27 = .ok (.iload_n 3, 1) := by decide +kernel
theorem d_Re_readChannels_28 : decode M_Re_readChannels.2.1 28 = .ok (.iload_n 2, 1) := by decide +kernel
theorem d_Re_readChannels_29 : decode M_Re_readChannels.2.1 29 = .ok (.if_icmp .ge 85, 3) := by decide +kernel
theorem d_Re_readChannels_32 : decode M_Re_readChannels.2.1 32 = .ok (.aload_n 0, 1) := by decide +kernel
theorem d_Re_readChannels_33 : decode M_Re_readChannels.2.1 33 = .ok (.aload_n 1, 1) := by decide +kernel
theorem d_Re_readChannels_34 : decode M_Re_readChannels.2.1 34 = .ok (.invokevirtual 82, 3) := by decide +kernel
theorem d_Re_readChannels_37 : decode M_Re_readChannels.2.1 37 = .ok (.bipush 122, 2) := by decide +kernel
theorem d_Re_readChannels_39 : decode M_Re_readChannels.2.1 39 = .ok (.invokevirtual 68, 3) := by decide +kernel
theorem d_Re_readChannels_42 : decode M_Re_readChannels.2.1 42 = .ok (.ifCond .eq 21, 3) := by decide +kernel
theorem d_Re_readChannels_45 : decode M_Re_readChannels.2.1 45 = .ok (.aload_n 0, 1) := by decide +kernel
theorem d_Re_readChannels_46 : decode M_Re_readChannels.2.1 46 = .ok (.iconst 0, 1) := by decide +kernel
theorem d_Re_readChannels_47 : decode M_Re_readChannels.2.1 47 = .ok (.iconst 2, 1) := by decide +kernel
theorem d_Re_readChannels_48 : decode M_Re_readChannels.2.1 48 = .ok (.invokevirtual 68, 3) := by decide +kernel
theorem d_Re_readChannels_51 : decode M_Re_readChannels.2.1 51 = .ok (.ifCond .eq 12, 3) := by decide +kernel
theorem d_Re_readChannels_54 : decode M_Re_readChannels.2.1 54 = .ok (.aload_n 0, 1) := by decide +kernel
theorem d_Re_readChannels_55 : decode M_Re_readChannels.2.1 55 = .ok (.iconst 1, 1) := by decide +kernel
theorem d_Re_readChannels_56 : decode M_Re_readChannels.2.1 56 = .ok (.iconst 2, 1) := by decide +kernel
theorem d_Re_readChannels_57 : decode M_Re_readChannels.2.1 57 = .ok (.invokevirtual 68, 3) := by decide +kernel
theorem d_Re_readChannels_60 : decode M_Re_readChannels.2.1 60 = .ok (.ifCond .ne 5, 3) := by decide +kernel
theorem d_Re_readChannels_63 : decode M_Re_readChannels.2.1 63 = .ok (.iconst 0, 1) := by decide +kernel
theorem d_Re_readChannels_64 : decode M_Re_readChannels.2.1 64 = .ok (.ireturn, 1) := by decide +kernel
theorem d_Re_readChannels_65 : decode M_Re_readChannels.2.1 65 = .ok (.aload_n 1, 1) := by decide +kernel
theorem d_Re_readChannels_66 : decode M_Re_readChannels.2.1 66 = .ok (.aload_n 0, 1) := by decide +kernel
theorem d_Re_readChannels_67 : decode M_Re_readChannels.2.1 67 = .ok (.getfield 20, 3) := by decide +kernel
theorem d_Re_readChannels_70 : decode M_Re_readChannels.2.1 70 = .ok (.aload_n 0, 1) := by decide +kernel
theorem d_Re_readChannels_71 : decode M_Re_readChannels.2.1 71 = .ok (.getfield 24, 3) := by decide +kernel
theorem d_Re_readChannels_74 : decode M_Re_readChannels.2.1 74 = .ok (.iconst 3, 1) := by decide +kernel
theorem d_Re_readChannels_75 : decode M_Re_readChannels.2.1 75 = .ok (.isub, 1) := by decide +kernel
theorem d_Re_readChannels_76 : decode M_Re_readChannels.2.1 76 = .ok (.invokevirtual 75, 3) := by decide +kernel
theorem d_Re_readChannels_79 : decode M_Re_readChannels.2.1 79 = .ok (.aload_n 0, 1) := by decide +kernel
theorem d_Re_readChannels_80 : decode M_Re_readChannels.2.1 80 = .ok (.getfield 20, 3) := by decide +kernel
theorem d_Re_readChannels_83 : decode M_Re_readChannels.2.1 83 = .ok (.aload_n 0, 1) := by decide +kernel
theorem d_Re_readChannels_84 : decode M_Re_readChannels.2.1 84 = .ok (.getfield 24, 3) := by decide +kernel
theorem d_Re_readChannels_87 : decode M_Re_readChannels.2.1 87 = .ok (.iconst 2, 1) := by decide +kernel
theorem d_Re_readChannels_88 : decode M_Re_readChannels.2.1 88 = .ok (.isub, 1) := by decide +kernel
theorem d_Re_readChannels_89 : decode M_Re_readChannels.2.1 89 = .ok (.invokevirtual 75, 3) := by decide +kernel
theorem d_Re_readChannels_92 : decode M_Re_readChannels.2.1 92 = .ok (.aload_n 0, 1) := by decide +kernel
theorem d_Re_readChannels_93 : decode M_Re_readChannels.2.1 93 = .ok (.getfield 20, 3) := by decide +kernel
theorem d_Re_readChannels_96 : decode M_Re_readChannels.2.1 96 = .ok (.aload_n 0, 1) := by decide +kernel
theorem d_Re_readChannels_97 : decode M_Re_readChannels.2.1 97 = .ok (.getfield 24, 3) := by decide +kernel
theorem d_Re_readChannels_100 : decode M_Re_readChannels.2.1 100 = .ok (.iconst 1, 1) := by decide +kernel
theorem d_Re_readChannels_101 : decode M_Re_readChannels.2.1 101 = .ok (.isub, 1) := by decide +kernel
theorem d_Re_readChannels_102 : decode M_Re_readChannels.2.1 102 = .ok (.invokevirtual 75, 3) := by decide +kernel
theorem d_Re_readChannels_105 : decode M_Re_readChannels.2.1 105 = .ok (.invokevirtual 86, 3) := by decide +kernel
theorem d_Re_readChannels_108 : decode M_Re_readChannels.2.1 108 = .ok (.iinc 3 1, 3) := by decide +kernel
theorem d_Re_readChannels_111 : decode M_Re_readChannels.2.1 111 = .ok (.goto (-84), 3) := by decide +kernel
theorem d_Re_readChannels_114 : decode M_Re_readChannels.2.1 114 = .ok (.iconst 1, 1) := by decide +kernel
theorem d_Re_readChannels_115 : decode M_Re_readChannels.2.1 115 = .ok (.ireturn, 1) := by decide +kernel
theorem d_Re_readTable_0 : decode M_Re_readTable.2.1 0 = .ok (.aload_n 1, 1) := by decide +kernel
theorem d_Re_readTable_1 : decode M_Re_readTable.2.1 1 = .ok (.aload_n 0, 1) := by decide +kernel
theorem d_Re_readTable_2 : decode M_Re_readTable.2.1 2 = .ok (.getfield 41, 3) := by decide +kernel
theorem d_Re_readTable_5 : decode M_Re_readTable.2.1 5 = .ok (.invokevirtual 44, 3) := by decide +kernel
theorem d_Re_readTable_8 : decode M_Re_readTable.2.1 8 = .ok (.istore_n 2, 1) := by decide +kernel
theorem d_Re_readTable_9 : decode M_Re_readTable.2.1 9 = .ok (.aload_n 0, 1) := by decide +kernel
theorem d_Re_readTable_10 : decode M_Re_readTable.2.1 10 = .ok (.getfield 24, 3) := by decide +kernel
theorem d_Re_readTable_13 : decode M_Re_readTable.2.1 13 = .ok (.iconst 2, 1) := by decide +kernel
theorem d_Re_readTable_14 : decode M_Re_readTable.2.1 14 = .ok (.iload_n 2, 1) := by decide +kernel
theorem d_Re_readTable_15 : decode M_Re_readTable.2.1 15 = .ok (.imul, 1) := by decide +kernel
theorem d_Re_readTable_16 : decode M_Re_readTable.2.1 16 = .ok (.iadd, 1) := by decide +kernel
theorem d_Re_readTable_17 : decode M_Re_readTable.2.1 17 = .ok (.istore_n 3, 1) := by decide +kernel
theorem d_Re_readTable_18 : decode M_Re_readTable.2.1 18 = .ok (.iconst 0, 1) := by decide +kernel
theorem d_Re_readTable_19 : decode M_Re_readTable.2.1 19 = .ok (.istore 4, 2) := by decide +kernel
theorem d_Re_readTable_21 : decode M_Re_readTable.2.1 21 = .ok (.iload 4, 2) := by decide +kernel
theorem d_Re_readTable_23 : decode M_Re_readTable.2.1 23 = .ok (.iload_n 2, 1) := by decide +kernel
theorem d_Re_readTable_24 : decode M_Re_readTable.2.1 24 = .ok (.if_icmp .ge 71, 3) := by decide +kernel
theorem d_Re_readTable_27 : decode M_Re_readTable.2.1 27 = .ok (.aload_n 0, 1) := by decide +kernel
theorem d_Re_readTable_28 : decode M_Re_readTable.2.1 28 = .ok (.iconst 2, 1) := by decide +kernel
theorem d_Re_readTable_29 : decode M_Re_readTable.2.1 29 = .ok (.invokevirtual 90, 3) := by decide +kernel
theorem d_Re_readTable_32 : decode M_Re_readTable.2.1 32 = .ok (.ifCond .eq 5, 3) := by decide +kernel
theorem d_Re_readTable_35 : decode M_Re_readTable.2.1 35 = .ok (.iconst 0, 1) := by decide +kernel
theorem d_Re_readTable_36 : decode M_Re_readTable.2.1 36 = .ok (.ireturn, 1) := by decide +kernel
theorem d_Re_readTable_37 : decode M_Re_readTable.2.1 37 = .ok (.iload_n 3, 1) := by decide +kernel
theorem d_Re_readTable_38 : decode M_Re_readTable.2.1 38 = .ok (.ifCond .lt 27, 3) := by decide +kernel
theorem d_Re_readTable_41 : decode M_Re_readTable.2.1 41 = .ok (.aload_n 0, 1) := by decide +kernel
theorem d_Re_readTable_42 : decode M_Re_readTable.2.1 42 = .ok (.getfield 20, 3) := by decide +kernel
theorem d_Re_readTable_45 : decode M_Re_readTable.2.1 45 = .ok (.aload_n 0, 1) := by decide +kernel
theorem d_Re_readTable_46 : decode M_Re_readTable.2.1 46 = .ok (.getfield 24, 3) := by decide +kernel
theorem d_Re_readTable_49 : decode M_Re_readTable.2.1 49 = .ok (.invokevirtual 93, 3) := by decide +kernel
theorem d_Re_readTable_52 : decode M_Re_readTable.2.1 52 = .ok (.iload_n 3, 1) := by decide +kernel
theorem d_Re_readTable_53 : decode M_Re_readTable.2.1 53 = .ok (.if_icmp .eq 12, 3) := by decide +kernel
theorem d_Re_readTable_56 : decode M_Re_readTable.2.1 56 = .ok (.aload_n 0, 1) := by decide +kernel
theorem d_Re_readTable_57 : decode M_Re_readTable.2.1 57 = .ok (.aload_n 0, 1) := by decide +kernel
theorem d_Re_readTable_58 : decode M_Re_readTable.2.1 58 = .ok (.getfield 24, 3) := by decide +kernel
theorem d_Re_readTable_61 : decode M_Re_readTable.2.1 61 = .ok (.invokevirtual 60, 3) := by decide +kernel
theorem d_Re_readTable_64 : decode M_Re_readTable.2.1 64 = .ok (.ireturn, 1) := by decide +kernel
theorem d_Re_readTable_65 : decode M_Re_readTable.2.1 65 = .ok (.iload_n 3, 1) := by decide +kernel
theorem d_Re_readTable_66 : decode M_Re_readTable.2.1 66 = .ok (.ifCond .ge 7, 3) := by decide +kernel
theorem d_Re_readTable_69 : decode M_Re_readTable.2.1 69 = .ok (.iload_n 3, 1) := by decide +kernel
theorem d_Re_readTable_70 : decode M_Re_readTable.2.1 70 = .ok (.goto 8, 3) := by decide +kernel
theorem d_Re_readTable_73 : decode M_Re_readTable.2.1 73 = .ok (.aload_n 0, 1) := by decide +kernel
theorem d_Re_readTable_74 : decode M_Re_readTable.2.1 74 = .ok (.iload_n 3, 1) := by decide +kernel
theorem d_Re_readTable_75 : decode M_Re_readTable.2.1 75 = .ok (.invokevirtual 96, 3) := by decide +kernel
theorem d_Re_readTable_78 : decode M_Re_readTable.2.1 78 = .ok (.istore_n 3, 1) := by decide +kernel
theorem d_Re_readTable_79 : decode M_Re_readTable.2.1 79 = .ok (.aload_n 0, 1) := by decide +kernel
theorem d_Re_readTable_80 : decode M_Re_readTable.2.1 80 = .ok (.dup, 1) := by decide +kernel
theorem d_Re_readTable_81 : decode M_Re_readTable.2.1 81 = .ok (.getfield 24, 3) := by decide +kernel
theorem d_Re_readTable_84 : decode M_Re_readTable.2.1 84 = .ok (.iconst 2, 1) := by decide +kernel
theorem d_Re_readTable_85 : decode M_Re_readTable.2.1 85 = .ok (.iadd, 1) := by decide +kernel
theorem d_Re_readTable_86 : decode M_Re_readTable.2.1 86 = .ok (.putfield 24, 3) := by decide +kernel
theorem d_Re_readTable_89 : decode M_Re_readTable.2.1 89 = .ok (.iinc 4 1, 3) := by decide +kernel
theorem d_Re_readTable_92 : decode M_Re_readTable.2.1 92 = .ok (.goto (-71), 3) := by decide +kernel
theorem d_Re_readTable_95 : decode M_Re_readTable.2.1 95 = .ok (.iconst 1, 1) := by decide +kernel
theorem d_Re_readTable_96 : decode M_Re_readTable.2.1 96 = .ok (.ireturn, 1) := by decide +kernel
theorem d_Re_behindChunk_0 : decode M_Re_behindChunk.2.1 0 = .ok (.iload_n 1, 1) := by decide +kernel
theorem d_Re_behindChunk_1 : decode M_Re_behindChunk.2.1 1 = .ok (.iconst 3, 1) := by decide +kernel
theorem d_Re_behindChunk_2 : decode M_Re_behindChunk.2.1 2 = .ok (.iadd, 1) := by decide +kernel
theorem d_Re_behindChunk_3 : decode M_Re_behindChunk.2.1 3 = .ok (.aload_n 0, 1) := by decide +kernel
theorem d_Re_behindChunk_4 : decode M_Re_behindChunk.2.1 4 = .ok (.getfield 20, 3) := by decide +kernel
theorem d_Re_behindChunk_7 : decode M_Re_behindChunk.2.1 7 = .ok (.iload_n 1, 1) := by decide +kernel
theorem d_Re_behindChunk_8 : decode M_Re_behindChunk.2.1 8 = .ok (.iconst 1, 1) := by decide +kernel
theorem d_Re_behindChunk_9 : decode M_Re_behindChunk.2.1 9 = .ok (.iadd, 1) := by decide +kernel
theorem d_Re_behindChunk_10 : decode M_Re_behindChunk.2.1 10 = .ok (.invokevirtual 93, 3) := by decide +kernel
theorem d_Re_behindChunk_13 : decode M_Re_behindChunk.2.1 13 = .ok (.iadd, 1) := by decide +kernel
theorem d_Re_behindChunk_14 : decode M_Re_behindChunk.2.1 14 = .ok (.istore_n 2, 1) := by decide +kernel
theorem d_Re_behindChunk_15 : decode M_Re_behindChunk.2.1 15 = .ok (.iload_n 2, 1) := by decide +kernel
theorem d_Re_behindChunk_16 : decode M_Re_behindChunk.2.1 16 = .ok (.aload_n 0, 1) := by decide +kernel
theorem d_Re_behindChunk_17 : decode M_Re_behindChunk.2.1 17 = .ok (.getfield 20, 3) := by decide +kernel
theorem d_Re_behindChunk_20 : decode M_Re_behindChunk.2.1 20 = .ok (.getfield 57, 3) := by decide +kernel
theorem d_Re_behindChunk_23 : decode M_Re_behindChunk.2.1 23 = .ok (.if_icmp .le 7, 3) := by decide +kernel
theorem d_Re_behindChunk_26 : decode M_Re_behindChunk.2.1 26 = .ok (.iconst (-1), 1) := by decide +kernel
theorem d_Re_behindChunk_27 : decode M_Re_behindChunk.2.1 27 = .ok (.goto 4, 3) := by decide +kernel
theorem d_Re_behindChunk_30 : decode M_Re_behindChunk.2.1 30 = .ok (.iload_n 2, 1) := by decide +kernel
theorem d_Re_behindChunk_31 : decode M_Re_behindChunk.2.1 31 = .ok (.ireturn, 1) := by decide +kernel
theorem d_Re_readChunk_0 : decode M_Re_readChunk.2.1 0 = .ok (.aload_n 0, 1) := by decide +kernel
theorem d_Re_readChunk_1 : decode M_Re_readChunk.2.1 1 = .ok (.getfield 24, 3) := by decide +kernel
theorem d_Re_readChunk_4 : decode M_Re_readChunk.2.1 4 = .ok (.istore 4, 2) := by decide +kernel
theorem d_Re_readChunk_6 : decode M_Re_readChunk.2.1 6 = .ok (.aload_n 0, 1) := by decide +kernel
theorem d_Re_readChunk_7 : decode M_Re_readChunk.2.1 7 = .ok (.iload_n 1, 1) := by decide +kernel
theorem d_Re_readChunk_8 : decode M_Re_readChunk.2.1 8 = .ok (.iload_n 1, 1) := by decide +kernel
theorem d_Re_readChunk_9 : decode M_Re_readChunk.2.1 9 = .ok (.invokevirtual 68, 3) := by decide +kernel
theorem d_Re_readChunk_12 : decode M_Re_readChunk.2.1 12 = .ok (.ifCond .eq 11, 3) := by decide +kernel
theorem d_Re_readChunk_15 : decode M_Re_readChunk.2.1 15 = .ok (.aload_n 0, 1) := by decide +kernel
theorem d_Re_readChunk_16 : decode M_Re_readChunk.2.1 16 = .ok (.iconst 2, 1) := by decide +kernel
theorem d_Re_readChunk_17 : decode M_Re_readChunk.2.1 17 = .ok (.invokevirtual 90, 3) := by decide +kernel
theorem d_Re_readChunk_20 : decode M_Re_readChunk.2.1 20 = .ok (.ifCond .eq 5, 3) := by decide +kernel
theorem d_Re_readChunk_23 : decode M_Re_readChunk.2.1 23 = .ok (.iconst 0, 1) := by decide +kernel
theorem d_Re_readChunk_24 : decode M_Re_readChunk.2.1 24 = .ok (.ireturn, 1) := by decide +kernel
theorem d_Re_readChunk_25 : decode M_Re_readChunk.2.1 25 = .ok (.aload_n 0, 1) := by decide +kernel
theorem d_Re_readChunk_26 : decode M_Re_readChunk.2.1 26 = .ok (.getfield 20, 3) := by decide +kernel
theorem d_Re_readChunk_29 : decode M_Re_readChunk.2.1 29 = .ok (.aload_n 0, 1) := by decide +kernel
theorem d_Re_readChunk_30 : decode M_Re_readChunk.2.1 30 = .ok (.getfield 24, 3) := by decide +kernel
theorem d_Re_readChunk_33 : decode M_Re_readChunk.2.1 33 = .ok (.invokevirtual 93, 3) := by decide +kernel
theorem d_Re_readChunk_36 : decode M_Re_readChunk.2.1 36 = .ok (.istore 5, 2) := by decide +kernel
theorem d_Re_readChunk_38 : decode M_Re_readChunk.2.1 38 = .ok (.aload_n 2, 1) := by decide +kernel
theorem d_Re_readChunk_39 : decode M_Re_readChunk.2.1 39 = .ok (.iload_n 1, 1) := by decide +kernel
theorem d_Re_readChunk_40 : decode M_Re_readChunk.2.1 40 = .ok (.aload_n 0, 1) := by decide +kernel
theorem d_Re_readChunk_41 : decode M_Re_readChunk.2.1 41 = .ok (.getfield 41, 3) := by decide +kernel
theorem d_Re_readChunk_44 : decode M_Re_readChunk.2.1 44 = .ok (.invokevirtual 99, 3) := by decide +kernel
theorem d_Re_readChunk_47 : decode M_Re_readChunk.2.1 47 = .ok (.istore 6, 2) := by decide +kernel
theorem d_Re_readChunk_49 : decode M_Re_readChunk.2.1 49 = .ok (.iload 5, 2) := by decide +kernel
theorem d_Re_readChunk_51 : decode M_Re_readChunk.2.1 51 = .ok (.iload 6, 2) := by decide +kernel
theorem d_Re_readChunk_53 : decode M_Re_readChunk.2.1 53 = .ok (.if_icmp .gt 17, 3) := by decide +kernel
theorem d_Re_readChunk_56 : decode M_Re_readChunk.2.1 56 = .ok (.aload_n 0, 1) := by decide +kernel
theorem d_Re_readChunk_57 : decode M_Re_readChunk.2.1 57 = .ok (.getfield 41, 3) := by decide +kernel
theorem d_Re_readChunk_60 : decode M_Re_readChunk.2.1 60 = .ok (.ifCond .ne 19, 3) := by decide +kernel
theorem d_Re_readChunk_63 : decode M_Re_readChunk.2.1 63 = .ok (.iload 5, 2) := by decide +kernel
theorem d_Re_readChunk_65 : decode M_Re_readChunk.2.1 65 = .ok (.iload 6, 2) := by decide +kernel
theorem d_Re_readChunk_67 : decode M_Re_readChunk.2.1 67 = .ok (.if_icmp .ge 12, 3) := by decide +kernel
theorem d_Re_readChunk_70 : decode M_Re_readChunk.2.1 70 = .ok (.aload_n 0, 1) := by decide +kernel
theorem d_Re_readChunk_71 : decode M_Re_readChunk.2.1 71 = .ok (.aload_n 0, 1) := by decide +kernel
theorem d_Re_readChunk_72 : decode M_Re_readChunk.2.1 72 = .ok (.getfield 24, 3) := by decide +kernel
theorem d_Re_readChunk_75 : decode M_Re_readChunk.2.1 75 = .ok (.invokevirtual 60, 3) := by decide +kernel
theorem d_Re_readChunk_78 : decode M_Re_readChunk.2.1 78 = .ok (.ireturn, 1) := by decide +kernel
theorem d_Re_readChunk_79 : decode M_Re_readChunk.2.1 79 = .ok (.aload_n 0, 1) := by decide +kernel
theorem d_Re_readChunk_80 : decode M_Re_readChunk.2.1 80 = .ok (.dup, 1) := by decide +kernel
theorem d_Re_readChunk_81 : decode M_Re_readChunk.2.1 81 = .ok (.getfield 24, 3) := by decide +kernel
theorem d_Re_readChunk_84 : decode M_Re_readChunk.2.1 84 = .ok (.iconst 2, 1) := by decide +kernel
theorem d_Re_readChunk_85 : decode M_Re_readChunk.2.1 85 = .ok (.iadd, 1) := by decide +kernel
theorem d_Re_readChunk_86 : decode M_Re_readChunk.2.1 86 = .ok (.putfield 24, 3) := by decide +kernel
theorem d_Re_readChunk_89 : decode M_Re_readChunk.2.1 89 = .ok (.aload_n 0, 1) := by decide +kernel
theorem d_Re_readChunk_90 : decode M_Re_readChunk.2.1 90 = .ok (.iload 5, 2) := by decide +kernel
theorem d_Re_readChunk_92 : decode M_Re_readChunk.2.1 92 = .ok (.invokevirtual 90, 3) := by decide +kernel
theorem d_Re_readChunk_95 : decode M_Re_readChunk.2.1 95 = .ok (.ifCond .eq 5, 3) := by decide +kernel
theorem d_Re_readChunk_98 : decode M_Re_readChunk.2.1 98 = .ok (.iconst 0, 1) := by decide +kernel
theorem d_Re_readChunk_99 : decode M_Re_readChunk.2.1 99 = .ok (.ireturn, 1) := by decide +kernel
theorem d_Re_readChunk_100 : decode M_Re_readChunk.2.1 100 = .ok (.aload_n 3, 1) := by decide +kernel
theorem d_Re_readChunk_101 : decode M_Re_readChunk.2.1 101 = .ok (.aload_n 0, 1) := by decide +kernel
theorem d_Re_readChunk_102 : decode M_Re_readChunk.2.1 102 = .ok (.getfield 20, 3) := by decide +kernel
theorem d_Re_readChunk_105 : decode M_Re_readChunk.2.1 105 = .ok (.aload_n 0, 1) := by decide +kernel
theorem d_Re_readChunk_106 : decode M_Re_readChunk.2.1 106 = .ok (.getfield 24, 3) := by decide +kernel
theorem d_Re_readChunk_109 : decode M_Re_readChunk.2.1 109 = .ok (.aload_n 0, 1) := by decide +kernel
theorem d_Re_readChunk_110 : decode M_Re_readChunk.2.1 110 = .ok (.getfield 24, 3) := by decide +kernel
theorem d_Re_readChunk_113 : decode M_Re_readChunk.2.1 113 = .ok (.iload 5, 2) := by decide +kernel
theorem d_Re_readChunk_115 : decode M_Re_readChunk.2.1 115 = .ok (.iadd, 1) := by decide +kernel
theorem d_Re_readChunk_116 : decode M_Re_readChunk.2.1 116 = .ok (.iload 6, 2) := by decide +kernel
theorem d_Re_readChunk_118 : decode M_Re_readChunk.2.1 118 = .ok (.invokevirtual 103, 3) := by decide +kernel
theorem d_Re_readChunk_121 : decode M_Re_readChunk.2.1 121 = .ok (.istore 7, 2) := by decide +kernel
theorem d_Re_readChunk_123 : decode M_Re_readChunk.2.1 123 = .ok (.iload 7, 2) := by decide +kernel
theorem d_Re_readChunk_125 : decode M_Re_readChunk.2.1 125 = .ok (.bipush (-2), 2) := by decide +kernel
theorem d_Re_readChunk_127 : decode M_Re_readChunk.2.1 127 = .ok (.if_icmp .eq 10, 3) := by decide +kernel
theorem d_Re_readChunk_130 : decode M_Re_readChunk.2.1 130 = .ok (.aload_n 0, 1) := by decide +kernel
theorem d_Re_readChunk_131 : decode M_Re_readChunk.2.1 131 = .ok (.iload 7, 2) := by decide +kernel
theorem d_Re_readChunk_133 : decode M_Re_readChunk.2.1 133 = .ok (.invokevirtual 60, 3) := by decide +kernel
theorem d_Re_readChunk_136 : decode M_Re_readChunk.2.1 136 = .ok (.ireturn, 1) := by decide +kernel
theorem d_Re_readChunk_137 : decode M_Re_readChunk.2.1 137 = .ok (.aload_n 0, 1) := by decide +kernel
theorem d_Re_readChunk_138 : decode M_Re_readChunk.2.1 138 = .ok (.dup, 1) := by decide +kernel
theorem d_Re_readChunk_139 : decode M_Re_readChunk.2.1 139 = .ok (.getfield 24, 3) := by decide +kernel
theorem d_Re_readChunk_142 : decode M_Re_readChunk.2.1 142 = .ok (.iload 5, 2) := by decide +kernel
theorem d_Re_readChunk_144 : decode M_Re_readChunk.2.1 144 = .ok (.iadd, 1) := by decide +kernel
theorem d_Re_readChunk_145 : decode M_Re_readChunk.2.1 145 = .ok (.putfield 24, 3) := by decide +kernel
theorem d_Re_readChunk_148 : decode M_Re_readChunk.2.1 148 = .ok (.aload_n 3, 1) := by decide +kernel
theorem d_Re_readChunk_149 : decode M_Re_readChunk.2.1 149 = .ok (.aload_n 2, 1) := by decide +kernel
theorem d_Re_readChunk_150 : decode M_Re_readChunk.2.1 150 = .ok (.aload_n 0, 1) := by decide +kernel
theorem d_Re_readChunk_151 : decode M_Re_readChunk.2.1 151 = .ok (.getfield 41, 3) := by decide +kernel
theorem d_Re_readChunk_154 : decode M_Re_readChunk.2.1 154 = .ok (.iload_n 1, 1) := by decide +kernel
theorem d_Re_readChunk_155 : decode M_Re_readChunk.2.1 155 = .ok (.iload 5, 2) := by decide +kernel
theorem d_Re_readChunk_157 : decode M_Re_readChunk.2.1 157 = .ok (.iload 6, 2) := by decide +kernel
theorem d_Re_readChunk_159 : decode M_Re_readChunk.2.1 159 = .ok (.if_icmp .ge 7, 3) := by decide +kernel
theorem d_Re_readChunk_162 : decode M_Re_readChunk.2.1 162 = .ok (.iconst 1, 1) := by decide +kernel
theorem d_Re_readChunk_163 : decode M_Re_readChunk.2.1 163 = .ok (.goto 4, 3) := by decide +kernel
theorem d_Re_readChunk_166 : decode M_Re_readChunk.2.1 166 = .ok (.iconst 0, 1) := by decide +kernel
theorem d_Re_readChunk_167 : decode M_Re_readChunk.2.1 167 = .ok (.invokevirtual 109, 3) := by decide +kernel
theorem d_Re_readChunk_170 : decode M_Re_readChunk.2.1 170 = .ok (.aload_n 2, 1) := by decide +kernel
theorem d_Re_readChunk_171 : decode M_Re_readChunk.2.1 171 = .ok (.iload_n 1, 1) := by decide +kernel
theorem d_Re_readChunk_172 : decode M_Re_readChunk.2.1 172 = .ok (.aload_n 0, 1) := by decide +kernel
theorem d_Re_readChunk_173 : decode M_Re_readChunk.2.1 173 = .ok (.getfield 41, 3) := by decide +kernel
theorem d_Re_readChunk_176 : decode M_Re_readChunk.2.1 176 = .ok (.invokevirtual 113, 3) := by decide +kernel
theorem d_Re_readChunk_179 : decode M_Re_readChunk.2.1 179 = .ok (.ifCond .ne 12, 3) := by decide +kernel
theorem d_Re_readChunk_182 : decode M_Re_readChunk.2.1 182 = .ok (.aload_n 0, 1) := by decide +kernel
theorem d_Re_readChunk_183 : decode M_Re_readChunk.2.1 183 = .ok (.iload 4, 2) := by decide +kernel
theorem d_Re_readChunk_185 : decode M_Re_readChunk.2.1 185 = .ok (.invokevirtual 60, 3) := by decide +kernel
theorem d_Re_readChunk_188 : decode M_Re_readChunk.2.1 188 = .ok (.ifCond .eq 7, 3) := by decide +kernel
theorem d_Re_readChunk_191 : decode M_Re_readChunk.2.1 191 = .ok (.iconst 1, 1) := by decide +kernel
theorem d_Re_readChunk_192 : decode M_Re_readChunk.2.1 192 = .ok (.goto 4, 3) := by decide +kernel
theorem d_Re_readChunk_195 : decode M_Re_readChunk.2.1 195 = .ok (.iconst 0, 1) := by decide +kernel
theorem d_Re_readChunk_196 : decode M_Re_readChunk.2.1 196 = .ok (.ireturn, 1) := by decide +kernel
theorem d_Pi_init_0 : decode M_Pi_init.2.1 0 = .ok (.aload_n 0, 1) := by decide +kernel
theorem d_Pi_init_1 : decode M_Pi_init.2.1 1 = .ok (.invokespecial 3, 3) := by decide +kernel
theorem d_Pi_init_4 : decode M_Pi_init.2.1 4 = .ok (.aload_n 0, 1) := by decide +kernel
theorem d_Pi_init_5 : decode M_Pi_init.2.1 5 = .ok (.iconst 3, 1) := by decide +kernel
theorem d_Pi_init_6 : decode M_Pi_init.2.1 6 = .ok (.newarray .int, 2) := by decide +kernel
theorem d_Pi_init_8 : decode M_Pi_init.2.1 8 = .ok (.putfield 9, 3) := by decide +kernel
theorem d_Pi_init_11 : decode M_Pi_init.2.1 11 = .ok (.aload_n 0, 1) := by decide +kernel
theorem d_Pi_init_12 : decode M_Pi_init.2.1 12 = .ok (.iconst 3, 1) := by decide +kernel
theorem d_Pi_init_13 : decode M_Pi_init.2.1 13 = .ok (.newarray .int, 2) := by decide +kernel
theorem d_Pi_init_15 : decode M_Pi_init.2.1 15 = .ok (.putfield 15, 3) := by decide +kernel
theorem d_Pi_init_18 : decode M_Pi_init.2.1 18 = .ok (.aload_n 0, 1) := by decide +kernel
theorem d_Pi_init_19 : decode M_Pi_init.2.1 19 = .ok (.iconst 3, 1) := by decide +kernel
theorem d_Pi_init_20 : decode M_Pi_init.2.1 20 = .ok (.newarray .int, 2) := by decide +kernel
theorem d_Pi_init_22 : decode M_Pi_init.2.1 22 = .ok (.putfield 18, 3) := by decide +kernel
theorem d_Pi_init_25 : decode M_Pi_init.2.1 25 = .ok (.aload_n 0, 1) := by decide +kernel
theorem d_Pi_init_26 : decode M_Pi_init.2.1 26 = .ok (.sipush 192, 3) := by decide +kernel
theorem d_Pi_init_29 : decode M_Pi_init.2.1 29 = .ok (.newarray .int, 2) := by decide +kernel
theorem d_Pi_init_31 : decode M_Pi_init.2.1 31 = .ok (.putfield 21, 3) := by decide +kernel
theorem d_Pi_init_34 : decode M_Pi_init.2.1 34 = .ok (.return_, 1) := by decide +kernel
theorem d_Pi_startAnew_0 : decode M_Pi_startAnew.2.1 0 = .ok (.aload_n 0, 1) := by decide +kernel
theorem d_Pi_startAnew_1 : decode M_Pi_startAnew.2.1 1 = .ok (.iload_n 1, 1) := by decide +kernel
theorem d_Pi_startAnew_2 : decode M_Pi_startAnew.2.1 2 = .ok (.putfield 24, 3) := by decide +kernel
theorem d_Pi_startAnew_5 : decode M_Pi_startAnew.2.1 5 = .ok (.aload_n 0, 1) := by decide +kernel
theorem d_Pi_startAnew_6 : decode M_Pi_startAnew.2.1 6 = .ok (.iload_n 2, 1) := by decide +kernel
theorem d_Pi_startAnew_7 : decode M_Pi_startAnew.2.1 7 = .ok (.putfield 28, 3) := by decide +kernel
theorem d_Pi_startAnew_10 : decode M_Pi_startAnew.2.1 10 = .ok (.aload_n 0, 1) := by decide +kernel
theorem d_Pi_startAnew_11 : decode M_Pi_startAnew.2.1 11 = .ok (.iconst 0, 1) := by decide +kernel
theorem d_Pi_startAnew_12 : decode M_Pi_startAnew.2.1 12 = .ok (.putfield 31, 3) := by decide +kernel
theorem d_Pi_startAnew_15 : decode M_Pi_startAnew.2.1 15 = .ok (.aload_n 0, 1) := by decide +kernel
theorem d_Pi_startAnew_16 : decode M_Pi_startAnew.2.1 16 = .ok (.getfield 21, 3) := by decide +kernel
theorem d_Pi_startAnew_19 : decode M_Pi_startAnew.2.1 19 = .ok (.iconst 0, 1) := by decide +kernel
theorem d_Pi_startAnew_20 : decode M_Pi_startAnew.2.1 20 = .ok (.invokestatic 34, 3) := by decide +kernel
theorem d_Pi_startAnew_23 : decode M_Pi_startAnew.2.1 23 = .ok (.return_, 1) := by decide +kernel
theorem d_Pi_addChannel_0 : decode M_Pi_addChannel.2.1 0 = .ok (.aload_n 0, 1) := by decide +kernel
theorem d_Pi_addChannel_1 : decode M_Pi_addChannel.2.1 1 = .ok (.getfield 31, 3) := by decide +kernel
theorem d_Pi_addChannel_4 : decode M_Pi_addChannel.2.1 4 = .ok (.iconst 3, 1) := by decide +kernel
theorem d_Pi_addChannel_5 : decode M_Pi_addChannel.2.1 5 = .ok (.if_icmp .ge 43, 3) := by decide +kernel
theorem d_Pi_addChannel_8 : decode M_Pi_addChannel.2.1 8 = .ok (.aload_n 0, 1) := by decide +kernel
theorem d_Pi_addChannel_9 : decode M_Pi_addChannel.2.1 9 = .ok (.getfield 9, 3) := by decide +kernel
theorem d_Pi_addChannel_12 : decode M_Pi_addChannel.2.1 12 = .ok (.aload_n 0, 1) := by decide +kernel
theorem d_Pi_addChannel_13 : decode M_Pi_addChannel.2.1 13 = .ok (.getfield 31, 3) := by decide +kernel
theorem d_Pi_addChannel_16 : decode M_Pi_addChannel.2.1 16 = .ok (.iload_n 1, 1) := by decide +kernel
theorem d_Pi_addChannel_17 : decode M_Pi_addChannel.2.1 17 = .ok (.iastore, 1) := by decide +kernel
theorem d_Pi_addChannel_18 : decode M_Pi_addChannel.2.1 18 = .ok (.aload_n 0, 1) := by decide +kernel
theorem d_Pi_addChannel_19 : decode M_Pi_addChannel.2.1 19 = .ok (.getfield 15, 3) := by decide +kernel
theorem d_Pi_addChannel_22 : decode M_Pi_addChannel.2.1 22 = .ok (.aload_n 0, 1) := by decide +kernel
theorem d_Pi_addChannel_23 : decode M_Pi_addChannel.2.1 23 = .ok (.getfield 31, 3) := by decide +kernel
theorem d_Pi_addChannel_26 : decode M_Pi_addChannel.2.1 26 = .ok (.iload_n 2, 1) := by decide +kernel
theorem d_Pi_addChannel_27 : decode M_Pi_addChannel.2.1 27 = .ok (.iastore, 1) := by decide +kernel
theorem d_Pi_addChannel_28 : decode M_Pi_addChannel.2.1 28 = .ok (.aload_n 0, 1) := by decide +kernel
theorem d_Pi_addChannel_29 : decode M_Pi_addChannel.2.1 29 = .ok (.getfield 18, 3) := by decide +kernel
theorem d_Pi_addChannel_32 : decode M_Pi_addChannel.2.1 32 = .ok (.aload_n 0, 1) := by decide +kernel
theorem d_Pi_addChannel_33 : decode M_Pi_addChannel.2.1 33 = .ok (.getfield 31, 3) := by decide +kernel
theorem d_Pi_addChannel_36 : decode M_Pi_addChannel.2.1 36 = .ok (.iload_n 3, 1) := by decide +kernel
theorem d_Pi_addChannel_37 : decode M_Pi_addChannel.2.1 37 = .ok (.iastore, 1) := by decide +kernel
theorem d_Pi_addChannel_38 : decode M_Pi_addChannel.2.1 38 = .ok (.aload_n 0, 1) := by decide +kernel
theorem d_Pi_addChannel_39 : decode M_Pi_addChannel.2.1 39 = .ok (.dup, 1) := by decide +kernel
theorem d_Pi_addChannel_40 : decode M_Pi_addChannel.2.1 40 = .ok (.getfield 31, 3) := by decide +kernel
theorem d_Pi_addChannel_43 : decode M_Pi_addChannel.2.1 43 = .ok (.iconst 1, 1) := by decide +kernel
theorem d_Pi_addChannel_44 : decode M_Pi_addChannel.2.1 44 = .ok (.iadd, 1) := by decide +kernel
theorem d_Pi_addChannel_45 : decode M_Pi_addChannel.2.1 45 = .ok (.putfield 31, 3) := by decide +kernel
theorem d_Pi_addChannel_48 : decode M_Pi_addChannel.2.1 48 = .ok (.return_, 1) := by decide +kernel
theorem d_Pi_leastLetter_0 : decode M_Pi_leastLetter.2.1 0 = .ok (.aload_n 0, 1) := by decide +kernel
theorem d_Pi_leastLetter_1 : decode M_Pi_leastLetter.2.1 1 = .ok (.getfield 31, 3) := by decide +kernel
theorem d_Pi_leastLetter_4 : decode M_Pi_leastLetter.2.1 4 = .ok (.ifCond .ne 8, 3) := by decide +kernel
theorem d_Pi_leastLetter_7 : decode M_Pi_leastLetter.2.1 7 = .ok (.bipush 97, 2) := by decide +kernel
theorem d_Pi_leastLetter_9 : decode M_Pi_leastLetter.2.1 9 = .ok (.goto 16, 3) := by decide +kernel
theorem d_Pi_leastLetter_12 : decode M_Pi_leastLetter.2.1 12 = .ok (.aload_n 0, 1) := by decide +kernel
theorem d_Pi_leastLetter_13 : decode M_Pi_leastLetter.2.1 13 = .ok (.getfield 9, 3) := by decide +kernel
theorem d_Pi_leastLetter_16 : decode M_Pi_leastLetter.2.1 16 = .ok (.aload_n 0, 1) := by decide +kernel
theorem d_Pi_leastLetter_17 : decode M_Pi_leastLetter.2.1 17 = .ok (.getfield 31, 3) := by decide +kernel
theorem d_Pi_leastLetter_20 : decode M_Pi_leastLetter.2.1 20 = .ok (.iconst 1, 1) := by decide +kernel
theorem d_Pi_leastLetter_21 : decode M_Pi_leastLetter.2.1 21 = .ok (.isub, 1) := by decide +kernel
theorem d_Pi_leastLetter_22 : decode M_Pi_leastLetter.2.1 22 = .ok (.iaload, 1) := by decide +kernel
theorem d_Pi_leastLetter_23 : decode M_Pi_leastLetter.2.1 23 = .ok (.iconst 1, 1) := by decide +kernel
theorem d_Pi_leastLetter_24 : decode M_Pi_leastLetter.2.1 24 = .ok (.iadd, 1) := by decide +kernel
theorem d_Pi_leastLetter_25 : decode M_Pi_leastLetter.2.1 25 = .ok (.ireturn, 1) := by decide +kernel
theorem d_Pi_hasSample_0 : decode M_Pi_hasSample.2.1 0 = .ok (.iload_n 1, 1) := by decide +kernel
theorem d_Pi_hasSample_1 : decode M_Pi_hasSample.2.1 1 = .ok (.ifCond .lt 57, 3) := by decide +kernel
theorem d_Pi_hasSample_4 : decode M_Pi_hasSample.2.1 4 = .ok (.iload_n 1, 1) := by decide +kernel
theorem d_Pi_hasSample_5 : decode M_Pi_hasSample.2.1 5 = .ok (.aload_n 0, 1) := by decide +kernel
theorem d_Pi_hasSample_6 : decode M_Pi_hasSample.2.1 6 = .ok (.getfield 31, 3) := by decide +kernel
theorem d_Pi_hasSample_9 : decode M_Pi_hasSample.2.1 9 = .ok (.if_icmp .ge 49, 3) := by decide +kernel
theorem d_Pi_hasSample_12 : decode M_Pi_hasSample.2.1 12 = .ok (.iload_n 2, 1) := by decide +kernel
theorem d_Pi_hasSample_13 : decode M_Pi_hasSample.2.1 13 = .ok (.ifCond .lt 45, 3) := by decide +kernel
theorem d_Pi_hasSample_16 : decode M_Pi_hasSample.2.1 16 = .ok (.iload_n 2, 1) := by decide +kernel
theorem d_Pi_hasSample_17 : decode M_Pi_hasSample.2.1 17 = .ok (.aload_n 0, 1) := by decide +kernel
theorem d_Pi_hasSample_18 : decode M_Pi_hasSample.2.1 18 = .ok (.getfield 24, 3) := by decide +kernel
theorem d_Pi_hasSample_21 : decode M_Pi_hasSample.2.1 21 = .ok (.if_icmp .ge 37, 3) := by decide +kernel
theorem d_Pi_hasSample_24 : decode M_Pi_hasSample.2.1 24 = .ok (.aload_n 0, 1) := by decide +kernel
theorem d_Pi_hasSample_25 : decode M_Pi_hasSample.2.1 25 = .ok (.iload_n 1, 1) := by decide +kernel
theorem d_Pi_hasSample_26 : decode M_Pi_hasSample.2.1 26 = .ok (.iload_n 2, 1) := by decide +kernel
theorem d_Pi_hasSample_27 : decode M_Pi_hasSample.2.1 27 = .ok (.invokevirtual 40, 3) := by decide +kernel
theorem d_Pi_hasSample_30 : decode M_Pi_hasSample.2.1 30 = .ok (.ifCond .eq 28, 3) := by decide +kernel
theorem d_Pi_hasSample_33 : decode M_Pi_hasSample.2.1 33 = .ok (.iload_n 3, 1) := by decide +kernel
theorem d_Pi_hasSample_34 : decode M_Pi_hasSample.2.1 34 = .ok (.ifCond .lt 24, 3) := by decide +kernel
theorem d_Pi_hasSample_37 : decode M_Pi_hasSample.2.1 37 = .ok (.iload_n 3, 1) := by decide +kernel
theorem d_Pi_hasSample_38 : decode M_Pi_hasSample.2.1 38 = .ok (.aload_n 0, 1) := by decide +kernel
theorem d_Pi_hasSample_39 : decode M_Pi_hasSample.2.1 39 = .ok (.getfield 28, 3) := by decide +kernel
theorem d_Pi_hasSample_42 : decode M_Pi_hasSample.2.1 42 = .ok (.if_icmp .ge 16, 3) := by decide +kernel
theorem d_Pi_hasSample_45 : decode M_Pi_hasSample.2.1 45 = .ok (.aload_n 0, 1) := by decide +kernel
theorem d_Pi_hasSample_46 : decode M_Pi_hasSample.2.1 46 = .ok (.iload_n 1, 1) := by decide +kernel
theorem d_Pi_hasSample_47 : decode M_Pi_hasSample.2.1 47 = .ok (.iload_n 3, 1) := by decide +kernel
theorem d_Pi_hasSample_48 : decode M_Pi_hasSample.2.1 48 = .ok (.invokevirtual 40, 3) := by decide +kernel
theorem d_Pi_hasSample_51 : decode M_Pi_hasSample.2.1 51 = .ok (.ifCond .eq 7, 3) := by decide +kernel
theorem d_Pi_hasSample_54 : decode M_Pi_hasSample.2.1 54 = .ok (.iconst 1, 1) := by decide +kernel
theorem d_Pi_hasSample_55 : decode M_Pi_hasSample.2.1 55 = .ok (.goto 4, 3) := by decide +kernel
theorem d_Pi_hasSample_58 : decode M_Pi_hasSample.2.1 58 = .ok (.iconst 0, 1) := by decide +kernel
theorem d_Pi_hasSample_59 : decode M_Pi_hasSample.2.1 59 = .ok (.ireturn, 1) := by decide +kernel
theorem d_Pi_isOnStep_0 : decode M_Pi_isOnStep.2.1 0 = .ok (.aload_n 0, 1) := by decide +kernel
theorem d_Pi_isOnStep_1 : decode M_Pi_isOnStep.2.1 1 = .ok (.getfield 18, 3) := by decide +kernel
theorem d_Pi_isOnStep_4 : decode M_Pi_isOnStep.2.1 4 = .ok (.iload_n 1, 1) := by decide +kernel
theorem d_Pi_isOnStep_5 : decode M_Pi_isOnStep.2.1 5 = .ok (.iaload, 1) := by decide +kernel
theorem d_Pi_isOnStep_6 : decode M_Pi_isOnStep.2.1 6 = .ok (.iconst 1, 1) := by decide +kernel
theorem d_Pi_isOnStep_7 : decode M_Pi_isOnStep.2.1 7 = .ok (.if_icmp .eq 9, 3) := by decide +kernel
theorem d_Pi_isOnStep_10 : decode M_Pi_isOnStep.2.1 10 = .ok (.iload_n 2, 1) := by decide +kernel
theorem d_Pi_isOnStep_11 : decode M_Pi_isOnStep.2.1 11 = .ok (.iconst 2, 1) := by decide +kernel
theorem d_Pi_isOnStep_12 : decode M_Pi_isOnStep.2.1 12 = .ok (.irem, 1) := by decide +kernel
theorem d_Pi_isOnStep_13 : decode M_Pi_isOnStep.2.1 13 = .ok (.ifCond .ne 7, 3) := by decide +kernel
theorem d_Pi_isOnStep_16 : decode M_Pi_isOnStep.2.1 16 = .ok (.iconst 1, 1) := by decide +kernel
theorem d_Pi_isOnStep_17 : decode M_Pi_isOnStep.2.1 17 = .ok (.goto 4, 3) := by decide +kernel
theorem d_Pi_isOnStep_20 : decode M_Pi_isOnStep.2.1 20 = .ok (.iconst 0, 1) := by decide +kernel
theorem d_Pi_isOnStep_21 : decode M_Pi_isOnStep.2.1 21 = .ok (.ireturn, 1) := by decide +kernel
theorem d_Pi_put_0 : decode M_Pi_put.2.1 0 = .ok (.aload_n 0, 1) := by decide +kernel
theorem d_Pi_put_1 : decode M_Pi_put.2.1 1 = .ok (.getfield 21, 3) := by decide +kernel
theorem d_Pi_put_4 : decode M_Pi_put.2.1 4 = .ok (.iload_n 1, 1) := by decide +kernel
theorem d_Pi_put_5 : decode M_Pi_put.2.1 5 = .ok (.bipush 64, 2) := by decide +kernel
theorem d_Pi_put_7 : decode M_Pi_put.2.1 7 = .ok (.imul, 1) := by decide +kernel
theorem d_Pi_put_8 : decode M_Pi_put.2.1 8 = .ok (.iload_n 3, 1) := by decide +kernel
theorem d_Pi_put_9 : decode M_Pi_put.2.1 9 = .ok (.bipush 8, 2) := by decide +kernel
theorem d_Pi_put_11 : decode M_Pi_put.2.1 11 = .ok (.imul, 1) := by decide +kernel
theorem d_Pi_put_12 : decode M_Pi_put.2.1 12 = .ok (.iadd, 1) := by decide +kernel
theorem d_Pi_put_13 : decode M_Pi_put.2.1 13 = .ok (.iload_n 2, 1) := by decide +kernel
theorem d_Pi_put_14 : decode M_Pi_put.2.1 14 = .ok (.iadd, 1) := by decide +kernel
theorem d_Pi_put_15 : decode M_Pi_put.2.1 15 = .ok (.iload 4, 2) := by decide +kernel
theorem d_Pi_put_17 : decode M_Pi_put.2.1 17 = .ok (.iastore, 1) := by decide +kernel
theorem d_Pi_put_18 : decode M_Pi_put.2.1 18 = .ok (.return_, 1) := by decide +kernel
theorem d_Pi_told_0 : decode M_Pi_told.2.1 0 = .ok (.aload_n 0, 1) := by decide +kernel
theorem d_Pi_told_1 : decode M_Pi_told.2.1 1 = .ok (.getfield 15, 3) := by decide +kernel
theorem d_Pi_told_4 : decode M_Pi_told.2.1 4 = .ok (.iload_n 1, 1) := by decide +kernel
theorem d_Pi_told_5 : decode M_Pi_told.2.1 5 = .ok (.iaload, 1) := by decide +kernel
theorem d_Pi_told_6 : decode M_Pi_told.2.1 6 = .ok (.aload_n 0, 1) := by decide +kernel
theorem d_Pi_told_7 : decode M_Pi_told.2.1 7 = .ok (.iload_n 1, 1) := by decide +kernel
theorem d_Pi_told_8 : decode M_Pi_told.2.1 8 = .ok (.iload_n 2, 1) := by decide +kernel
theorem d_Pi_told_9 : decode M_Pi_told.2.1 9 = .ok (.iload_n 3, 1) := by decide +kernel
theorem d_Pi_told_10 : decode M_Pi_told.2.1 10 = .ok (.invokevirtual 48, 3) := by decide +kernel
theorem d_Pi_told_13 : decode M_Pi_told.2.1 13 = .ok (.invokestatic 52, 3) := by decide +kernel
theorem d_Pi_told_16 : decode M_Pi_told.2.1 16 = .ok (.dreturn, 1) := by decide +kernel
theorem d_Pi_at_0 : decode M_Pi_at.2.1 0 = .ok (.aload_n 0, 1) := by decide +kernel
theorem d_Pi_at_1 : decode M_Pi_at.2.1 1 = .ok (.getfield 21, 3) := by decide +kernel
theorem d_Pi_at_4 : decode M_Pi_at.2.1 4 = .ok (.iload_n 1, 1) := by decide +kernel
theorem d_Pi_at_5 : decode M_Pi_at.2.1 5 = .ok (.bipush 64, 2) := by decide +kernel
theorem d_Pi_at_7 : decode M_Pi_at.2.1 7 = .ok (.imul, 1) := by decide +kernel
theorem d_Pi_at_8 : decode M_Pi_at.2.1 8 = .ok (.iload_n 3, 1) := by decide +kernel
theorem d_Pi_at_9 : decode M_Pi_at.2.1 9 = .ok (.bipush 8, 2) := by decide +kernel
theorem d_Pi_at_11 : decode M_Pi_at.2.1 11 = .ok (.imul, 1) := by decide +kernel
theorem d_Pi_at_12 : decode M_Pi_at.2.1 12 = .ok (.iadd, 1) := by decide +kernel
theorem d_Pi_at_13 : decode M_Pi_at.2.1 13 = .ok (.iload_n 2, 1) := by decide +kernel
theorem d_Pi_at_14 : decode M_Pi_at.2.1 14 = .ok (.iadd, 1) := by decide +kernel
theorem d_Pi_at_15 : decode M_Pi_at.2.1 15 = .ok (.iaload, 1) := by decide +kernel
theorem d_Pi_at_16 : decode M_Pi_at.2.1 16 = .ok (.ireturn, 1) := by decide +kernel
theorem d_Pi_chunks_0 : decode M_Pi_chunks.2.1 0 = .ok (.iload_n 1, 1) := by decide +kernel
theorem d_Pi_chunks_1 : decode M_Pi_chunks.2.1 1 = .ok (.invokestatic 69, 3) := by decide +kernel
theorem d_Pi_chunks_4 : decode M_Pi_chunks.2.1 4 = .ok (.iconst 1, 1) := by decide +kernel
theorem d_Pi_chunks_5 : decode M_Pi_chunks.2.1 5 = .ok (.if_icmp .ne 10, 3) := by decide +kernel
theorem d_Pi_chunks_8 : decode M_Pi_chunks.2.1 8 = .ok (.aload_n 0, 1) := by decide +kernel
theorem d_Pi_chunks_9 : decode M_Pi_chunks.2.1 9 = .ok (.getfield 28, 3) := by decide +kernel
theorem d_Pi_chunks_12 : decode M_Pi_chunks.2.1 12 = .ok (.goto 13, 3) := by decide +kernel
theorem d_Pi_chunks_15 : decode M_Pi_chunks.2.1 15 = .ok (.aload_n 0, 1) := by decide +kernel
theorem d_Pi_chunks_16 : decode M_Pi_chunks.2.1 16 = .ok (.getfield 28, 3) := by decide +kernel
theorem d_Pi_chunks_19 : decode M_Pi_chunks.2.1 19 = .ok (.iconst 4, 1) := by decide +kernel
theorem d_Pi_chunks_20 : decode M_Pi_chunks.2.1 20 = .ok (.iadd, 1) := by decide +kernel
theorem d_Pi_chunks_21 : decode M_Pi_chunks.2.1 21 = .ok (.iconst 1, 1) := by decide +kernel
theorem d_Pi_chunks_22 : decode M_Pi_chunks.2.1 22 = .ok (.isub, 1) := by decide +kernel
theorem d_Pi_chunks_23 : decode M_Pi_chunks.2.1 23 = .ok (.iconst 4, 1) := by decide +kernel
theorem d_Pi_chunks_24 : decode M_Pi_chunks.2.1 24 = .ok (.idiv, 1) := by decide +kernel
theorem d_Pi_chunks_25 : decode M_Pi_chunks.2.1 25 = .ok (.ireturn, 1) := by decide +kernel
theorem d_Pi_columns_0 : decode M_Pi_columns.2.1 0 = .ok (.aload_n 0, 1) := by decide +kernel
theorem d_Pi_columns_1 : decode M_Pi_columns.2.1 1 = .ok (.iload_n 1, 1) := by decide +kernel
theorem d_Pi_columns_2 : decode M_Pi_columns.2.1 2 = .ok (.aload_n 0, 1) := by decide +kernel
theorem d_Pi_columns_3 : decode M_Pi_columns.2.1 3 = .ok (.getfield 24, 3) := by decide +kernel
theorem d_Pi_columns_6 : decode M_Pi_columns.2.1 6 = .ok (.invokevirtual 44, 3) := by decide +kernel
theorem d_Pi_columns_9 : decode M_Pi_columns.2.1 9 = .ok (.ireturn, 1) := by decide +kernel
theorem d_Pi_onStep_0 : decode M_Pi_onStep.2.1 0 = .ok (.aload_n 0, 1) := by decide +kernel
theorem d_Pi_onStep_1 : decode M_Pi_onStep.2.1 1 = .ok (.getfield 18, 3) := by decide +kernel
theorem d_Pi_onStep_4 : decode M_Pi_onStep.2.1 4 = .ok (.iload_n 1, 1) := by decide +kernel
theorem d_Pi_onStep_5 : decode M_Pi_onStep.2.1 5 = .ok (.iaload, 1) := by decide +kernel
theorem d_Pi_onStep_6 : decode M_Pi_onStep.2.1 6 = .ok (.iconst 1, 1) := by decide +kernel
theorem d_Pi_onStep_7 : decode M_Pi_onStep.2.1 7 = .ok (.if_icmp .ne 7, 3) := by decide +kernel
theorem d_Pi_onStep_10 : decode M_Pi_onStep.2.1 10 = .ok (.iload_n 2, 1) := by decide +kernel
theorem d_Pi_onStep_11 : decode M_Pi_onStep.2.1 11 = .ok (.goto 8, 3) := by decide +kernel
theorem d_Pi_onStep_14 : decode M_Pi_onStep.2.1 14 = .ok (.iload_n 2, 1) := by decide +kernel
theorem d_Pi_onStep_15 : decode M_Pi_onStep.2.1 15 = .ok (.iconst 1, 1) := by decide +kernel
theorem d_Pi_onStep_16 : decode M_Pi_onStep.2.1 16 = .ok (.iadd, 1) := by decide +kernel
theorem d_Pi_onStep_17 : decode M_Pi_onStep.2.1 17 = .ok (.iconst 2, 1) := by decide +kernel
theorem d_Pi_onStep_18 : decode M_Pi_onStep.2.1 18 = .ok (.idiv, 1) := by decide +kernel
theorem d_Pi_onStep_19 : decode M_Pi_onStep.2.1 19 = .ok (.ireturn, 1) := by decide +kernel
theorem d_Pi_endOfChunk_0 : decode M_Pi_endOfChunk.2.1 0 = .ok (.iload_n 1, 1) := by decide +kernel
theorem d_Pi_endOfChunk_1 : decode M_Pi_endOfChunk.2.1 1 = .ok (.iload_n 2, 1) := by decide +kernel
theorem d_Pi_endOfChunk_2 : decode M_Pi_endOfChunk.2.1 2 = .ok (.invokestatic 69, 3) := by decide +kernel
theorem d_Pi_endOfChunk_5 : decode M_Pi_endOfChunk.2.1 5 = .ok (.iadd, 1) := by decide +kernel
theorem d_Pi_endOfChunk_6 : decode M_Pi_endOfChunk.2.1 6 = .ok (.aload_n 0, 1) := by decide +kernel
theorem d_Pi_endOfChunk_7 : decode M_Pi_endOfChunk.2.1 7 = .ok (.getfield 28, 3) := by decide +kernel
theorem d_Pi_endOfChunk_10 : decode M_Pi_endOfChunk.2.1 10 = .ok (.invokestatic 72, 3) := by decide +kernel
theorem d_Pi_endOfChunk_13 : decode M_Pi_endOfChunk.2.1 13 = .ok (.ireturn, 1) := by decide +kernel
theorem d_Pi_rawSize_0 : decode M_Pi_rawSize.2.1 0 = .ok (.iconst 0, 1) := by decide +kernel
theorem d_Pi_rawSize_1 : decode M_Pi_rawSize.2.1 1 = .ok (.istore_n 3, 1) := by decide +kernel
theorem d_Pi_rawSize_2 : decode M_Pi_rawSize.2.1 2 = .ok (.aload_n 0, 1) := by decide +kernel
theorem d_Pi_rawSize_3 : decode M_Pi_rawSize.2.1 3 = .ok (.iload_n 1, 1) := by decide +kernel
theorem d_Pi_rawSize_4 : decode M_Pi_rawSize.2.1 4 = .ok (.iload_n 2, 1) := by decide +kernel
theorem d_Pi_rawSize_5 : decode M_Pi_rawSize.2.1 5 = .ok (.invokevirtual 77, 3) := by decide +kernel
theorem d_Pi_rawSize_8 : decode M_Pi_rawSize.2.1 8 = .ok (.istore 4, 2) := by decide +kernel
theorem d_Pi_rawSize_10 : decode M_Pi_rawSize.2.1 10 = .ok (.iload_n 1, 1) := by decide +kernel
theorem d_Pi_rawSize_11 : decode M_Pi_rawSize.2.1 11 = .ok (.istore 5, 2) := by decide +kernel
theorem d_Pi_rawSize_13 : decode M_Pi_rawSize.2.1 13 = .ok (.iload 5, 2) := by decide +kernel
theorem d_Pi_rawSize_15 : decode M_Pi_rawSize.2.1 15 = .ok (.iload 4, 2) := by decide +kernel
theorem d_Pi_rawSize_17 : decode M_Pi_rawSize.2.1 17 = .ok (.if_icmp .ge 59, 3) := by decide +kernel
theorem d_Pi_rawSize_20 : decode M_Pi_rawSize.2.1 20 = .ok (.iconst 0, 1) := by decide +kernel
theorem d_Pi_rawSize_21 : decode M_Pi_rawSize.2.1 21 = .ok (.istore 6, 2) := by decide +kernel
theorem d_Pi_rawSize_23 : decode M_Pi_rawSize.2.1 23 = .ok (.iload 6, 2) := by decide +kernel
theorem d_Pi_rawSize_25 : decode M_Pi_rawSize.2.1 25 = .ok (.aload_n 0, 1) := by decide +kernel
theorem d_Pi_rawSize_26 : decode M_Pi_rawSize.2.1 26 = .ok (.getfield 31, 3) := by decide +kernel
theorem d_Pi_rawSize_29 : decode M_Pi_rawSize.2.1 29 = .ok (.if_icmp .ge 41, 3) := by decide +kernel
theorem d_Pi_rawSize_32 : decode M_Pi_rawSize.2.1 32 = .ok (.aload_n 0, 1) := by decide +kernel
theorem d_Pi_rawSize_33 : decode M_Pi_rawSize.2.1 33 = .ok (.iload 6, 2) := by decide +kernel
theorem d_Pi_rawSize_35 : decode M_Pi_rawSize.2.1 35 = .ok (.iload 5, 2) := by decide +kernel
theorem d_Pi_rawSize_37 : decode M_Pi_rawSize.2.1 37 = .ok (.invokevirtual 40, 3) := by decide +kernel
theorem d_Pi_rawSize_40 : decode M_Pi_rawSize.2.1 40 = .ok (.ifCond .eq 24, 3) := by decide +kernel
theorem d_Pi_rawSize_43 : decode M_Pi_rawSize.2.1 43 = .ok (.iload_n 3, 1) := by decide +kernel
theorem d_Pi_rawSize_44 : decode M_Pi_rawSize.2.1 44 = .ok (.aload_n 0, 1) := by decide +kernel
theorem d_Pi_rawSize_45 : decode M_Pi_rawSize.2.1 45 = .ok (.iload 6, 2) := by decide +kernel
theorem d_Pi_rawSize_47 : decode M_Pi_rawSize.2.1 47 = .ok (.invokevirtual 58, 3) := by decide +kernel
theorem d_Pi_rawSize_50 : decode M_Pi_rawSize.2.1 50 = .ok (.aload_n 0, 1) := by decide +kernel
theorem d_Pi_rawSize_51 : decode M_Pi_rawSize.2.1 51 = .ok (.getfield 15, 3) := by decide +kernel
theorem d_Pi_rawSize_54 : decode M_Pi_rawSize.2.1 54 = .ok (.iload 6, 2) := by decide +kernel
theorem d_Pi_rawSize_56 : decode M_Pi_rawSize.2.1 56 = .ok (.iaload, 1) := by decide +kernel
theorem d_Pi_rawSize_57 : decode M_Pi_rawSize.2.1 57 = .ok (.iload_n 2, 1) := by decide +kernel
theorem d_Pi_rawSize_58 : decode M_Pi_rawSize.2.1 58 = .ok (.invokestatic 80, 3) := by decide +kernel
theorem d_Pi_rawSize_61 : decode M_Pi_rawSize.2.1 61 = .ok (.imul, 1) := by decide +kernel
theorem d_Pi_rawSize_62 : decode M_Pi_rawSize.2.1 62 = .ok (.iadd, 1) := by decide +kernel
theorem d_Pi_rawSize_63 : decode M_Pi_rawSize.2.1 63 = .ok (.istore_n 3, 1) := by decide +kernel
theorem d_Pi_rawSize_64 : decode M_Pi_rawSize.2.1 64 = .ok (.iinc 6 1, 3) := by decide +kernel
theorem d_Pi_rawSize_67 : decode M_Pi_rawSize.2.1 67 = .ok (.goto (-44), 3) := by decide +kernel
theorem d_Pi_rawSize_70 : decode M_Pi_rawSize.2.1 70 = .ok (.iinc 5 1, 3) := by decide +kernel
theorem d_Pi_rawSize_73 : decode M_Pi_rawSize.2.1 73 = .ok (.goto (-60), 3) := by decide +kernel
theorem d_Pi_rawSize_76 : decode M_Pi_rawSize.2.1 76 = .ok (.iload_n 3, 1) := by decide +kernel
theorem d_Pi_rawSize_77 : decode M_Pi_rawSize.2.1 77 = .ok (.ireturn, 1) := by decide +kernel
theorem d_Pi_holdsNumbers_0 : decode M_Pi_holdsNumbers.2.1 0 = .ok (.aload_n 0, 1) := by decide +kernel
theorem d_Pi_holdsNumbers_1 : decode M_Pi_holdsNumbers.2.1 1 = .ok (.iload_n 1, 1) := by decide +kernel
theorem d_Pi_holdsNumbers_2 : decode M_Pi_holdsNumbers.2.1 2 = .ok (.iload_n 2, 1) := by decide +kernel
theorem d_Pi_holdsNumbers_3 : decode M_Pi_holdsNumbers.2.1 3 = .ok (.invokevirtual 77, 3) := by decide +kernel
theorem d_Pi_holdsNumbers_6 : decode M_Pi_holdsNumbers.2.1 6 = .ok (.istore_n 3, 1) := by decide +kernel
theorem d_Pi_holdsNumbers_7 : decode M_Pi_holdsNumbers.2.1 7 = .ok (.iload_n 1, 1) := by decide +kernel
theorem d_Pi_holdsNumbers_8 : decode M_Pi_holdsNumbers.2.1 8 = .ok (.istore 4, 2) := by decide +kernel
theorem d_Pi_holdsNumbers_10 : decode M_Pi_holdsNumbers.2.1 10 = .ok (.iload 4, 2) := by decide +kernel
theorem d_Pi_holdsNumbers_12 : decode M_Pi_holdsNumbers.2.1 12 = .ok (.iload_n 3, 1) := by decide +kernel
theorem d_Pi_holdsNumbers_13 : decode M_Pi_holdsNumbers.2.1 13 = .ok (.if_icmp .ge 83, 3) := by decide +kernel
theorem d_Pi_holdsNumbers_16 : decode M_Pi_holdsNumbers.2.1 16 = .ok (.iconst 0, 1) := by decide +kernel
theorem d_Pi_holdsNumbers_17 : decode M_Pi_holdsNumbers.2.1 17 = .ok (.istore 5, 2) := by decide +kernel
theorem d_Pi_holdsNumbers_19 : decode M_Pi_holdsNumbers.2.1 19 = .ok (.iload 5, 2) := by decide +kernel
theorem d_Pi_holdsNumbers_21 : decode M_Pi_holdsNumbers.2.1 21 = .ok (.aload_n 0, 1) := by decide +kernel
theorem d_Pi_holdsNumbers_22 : decode M_Pi_holdsNumbers.2.1 22 = .ok (.getfield 31, 3) := by decide +kernel
theorem d_Pi_holdsNumbers_25 : decode M_Pi_holdsNumbers.2.1 25 = .ok (.if_icmp .ge 65, 3) := by decide +kernel
theorem d_Pi_holdsNumbers_28 : decode M_Pi_holdsNumbers.2.1 28 = .ok (.iconst 0, 1) := by decide +kernel
theorem d_Pi_holdsNumbers_29 : decode M_Pi_holdsNumbers.2.1 29 = .ok (.istore 6, 2) := by decide +kernel
theorem d_Pi_holdsNumbers_31 : decode M_Pi_holdsNumbers.2.1 31 = .ok (.iload 6, 2) := by decide +kernel
theorem d_Pi_holdsNumbers_33 : decode M_Pi_holdsNumbers.2.1 33 = .ok (.aload_n 0, 1) := by decide +kernel
theorem d_Pi_holdsNumbers_34 : decode M_Pi_holdsNumbers.2.1 34 = .ok (.getfield 24, 3) := by decide +kernel
theorem d_Pi_holdsNumbers_37 : decode M_Pi_holdsNumbers.2.1 37 = .ok (.if_icmp .ge 47, 3) := by decide +kernel
theorem d_Pi_holdsNumbers_40 : decode M_Pi_holdsNumbers.2.1 40 = .ok (.aload_n 0, 1) := by decide +kernel
theorem d_Pi_holdsNumbers_41 : decode M_Pi_holdsNumbers.2.1 41 = .ok (.iload 5, 2) := by decide +kernel
theorem d_Pi_holdsNumbers_43 : decode M_Pi_holdsNumbers.2.1 43 = .ok (.iload 6, 2) := by decide +kernel
theorem d_Pi_holdsNumbers_45 : decode M_Pi_holdsNumbers.2.1 45 = .ok (.iload 4, 2) := by decide +kernel
theorem d_Pi_holdsNumbers_47 : decode M_Pi_holdsNumbers.2.1 47 = .ok (.invokevirtual 62, 3) := by decide +kernel
theorem d_Pi_holdsNumbers_50 : decode M_Pi_holdsNumbers.2.1 50 = .ok (.ifCond .eq 28, 3) := by decide +kernel
theorem d_Pi_holdsNumbers_53 : decode M_Pi_holdsNumbers.2.1 53 = .ok (.aload_n 0, 1) := by decide +kernel
theorem d_Pi_holdsNumbers_54 : decode M_Pi_holdsNumbers.2.1 54 = .ok (.getfield 15, 3) := by decide +kernel
theorem d_Pi_holdsNumbers_57 : decode M_Pi_holdsNumbers.2.1 57 = .ok (.iload 5, 2) := by decide +kernel
theorem d_Pi_holdsNumbers_59 : decode M_Pi_holdsNumbers.2.1 59 = .ok (.iaload, 1) := by decide +kernel
theorem d_Pi_holdsNumbers_60 : decode M_Pi_holdsNumbers.2.1 60 = .ok (.aload_n 0, 1) := by decide +kernel
theorem d_Pi_holdsNumbers_61 : decode M_Pi_holdsNumbers.2.1 61 = .ok (.iload 5, 2) := by decide +kernel
theorem d_Pi_holdsNumbers_63 : decode M_Pi_holdsNumbers.2.1 63 = .ok (.iload 6, 2) := by decide +kernel
theorem d_Pi_holdsNumbers_65 : decode M_Pi_holdsNumbers.2.1 65 = .ok (.iload 4, 2) := by decide +kernel
theorem d_Pi_holdsNumbers_67 : decode M_Pi_holdsNumbers.2.1 67 = .ok (.invokevirtual 48, 3) := by decide +kernel
theorem d_Pi_holdsNumbers_70 : decode M_Pi_holdsNumbers.2.1 70 = .ok (.invokestatic 83, 3) := by decide +kernel
theorem d_Pi_holdsNumbers_73 : decode M_Pi_holdsNumbers.2.1 73 = .ok (.ifCond .ne 5, 3) := by decide +kernel
theorem d_Pi_holdsNumbers_76 : decode M_Pi_holdsNumbers.2.1 76 = .ok (.iconst 0, 1) := by decide +kernel
theorem d_Pi_holdsNumbers_77 : decode M_Pi_holdsNumbers.2.1 77 = .ok (.ireturn, 1) := by decide +kernel
theorem d_Pi_holdsNumbers_78 : decode M_Pi_holdsNumbers.2.1 78 = .ok (.iinc 6 1, 3) := by decide +kernel
theorem d_Pi_holdsNumbers_81 : decode M_Pi_holdsNumbers.2.1 81 = .ok (.goto (-50), 3) := by decide +kernel
theorem d_Pi_holdsNumbers_84 : decode M_Pi_holdsNumbers.2.1 84 = .ok (.iinc 5 1, 3) := by decide +kernel
theorem d_Pi_holdsNumbers_87 : decode M_Pi_holdsNumbers.2.1 87 = .ok (.goto (-68), 3) := by decide +kernel
theorem d_Pi_holdsNumbers_90 : decode M_Pi_holdsNumbers.2.1 90 = .ok (.iinc 4 1, 3) := by decide +kernel
theorem d_Pi_holdsNumbers_93 : decode M_Pi_holdsNumbers.2.1 93 = .ok (.goto (-83), 3) := by decide +kernel
theorem d_Pi_holdsNumbers_96 : decode M_Pi_holdsNumbers.2.1 96 = .ok (.iconst 1, 1) := by decide +kernel
theorem d_Pi_holdsNumbers_97 : decode M_Pi_holdsNumbers.2.1 97 = .ok (.ireturn, 1) := by decide +kernel
theorem d_Pi_fact_0 : decode M_Pi_fact.2.1 0 = .ok (.iload_n 1, 1) := by decide +kernel
theorem d_Pi_fact_1 : decode M_Pi_fact.2.1 1 = .ok (.tableswitch 48 1 3 #[27, 34, 41], 27) := by decide +kernel
theorem d_Pi_fact_28 : decode M_Pi_fact.2.1 28 = .ok (.aload_n 0, 1) := by decide +kernel
theorem d_Pi_fact_29 : decode M_Pi_fact.2.1 29 = .ok (.getfield 9, 3) := by decide +kernel
theorem d_Pi_fact_32 : decode M_Pi_fact.2.1 32 = .ok (.iload_n 2, 1) := by decide +kernel
theorem d_Pi_fact_33 : decode M_Pi_fact.2.1 33 = .ok (.iaload, 1) := by decide +kernel
theorem d_Pi_fact_34 : decode M_Pi_fact.2.1 34 = .ok (.ireturn, 1) := by decide +kernel
theorem d_Pi_fact_35 : decode M_Pi_fact.2.1 35 = .ok (.aload_n 0, 1) := by decide +kernel
theorem d_Pi_fact_36 : decode M_Pi_fact.2.1 36 = .ok (.getfield 15, 3) := by decide +kernel
theorem d_Pi_fact_39 : decode M_Pi_fact.2.1 39 = .ok (.iload_n 2, 1) := by decide +kernel
theorem d_Pi_fact_40 : decode M_Pi_fact.2.1 40 = .ok (.iaload, 1) := by decide +kernel
theorem d_Pi_fact_41 : decode M_Pi_fact.2.1 41 = .ok (.ireturn, 1) := by decide +kernel
theorem d_Pi_fact_42 : decode M_Pi_fact.2.1 42 = .ok (.aload_n 0, 1) := by decide +kernel
theorem d_Pi_fact_43 : decode M_Pi_fact.2.1 43 = .ok (.getfield 18, 3) := by decide +kernel
theorem d_Pi_fact_46 : decode M_Pi_fact.2.1 46 = .ok (.iload_n 2, 1) := by decide +kernel
theorem d_Pi_fact_47 : decode M_Pi_fact.2.1 47 = .ok (.iaload, 1) := by decide +kernel
theorem d_Pi_fact_48 : decode M_Pi_fact.2.1 48 = .ok (.ireturn, 1) := by decide +kernel
theorem d_Pi_fact_49 : decode M_Pi_fact.2.1 49 = .ok (.aload_n 0, 1) := by decide +kernel
theorem d_Pi_fact_50 : decode M_Pi_fact.2.1 50 = .ok (.iload_n 2, 1) := by decide +kernel
theorem d_Pi_fact_51 : decode M_Pi_fact.2.1 51 = .ok (.invokevirtual 58, 3) := by decide +kernel
theorem d_Pi_fact_54 : decode M_Pi_fact.2.1 54 = .ok (.aload_n 0, 1) := by decide +kernel
theorem d_Pi_fact_55 : decode M_Pi_fact.2.1 55 = .ok (.iload_n 2, 1) := by decide +kernel
theorem d_Pi_fact_56 : decode M_Pi_fact.2.1 56 = .ok (.aload_n 0, 1) := by decide +kernel
theorem d_Pi_fact_57 : decode M_Pi_fact.2.1 57 = .ok (.getfield 28, 3) := by decide +kernel
theorem d_Pi_fact_60 : decode M_Pi_fact.2.1 60 = .ok (.invokevirtual 44, 3) := by decide +kernel
theorem d_Pi_fact_63 : decode M_Pi_fact.2.1 63 = .ok (.imul, 1) := by decide +kernel
theorem d_Pi_fact_64 : decode M_Pi_fact.2.1 64 = .ok (.ireturn, 1) := by decide +kernel
theorem d_Pi_greatestDistance_0 : decode M_Pi_greatestDistance.2.1 0 = .ok (.dconst 0, 1) := by decide +kernel
theorem d_Pi_greatestDistance_1 : decode M_Pi_greatestDistance.2.1 1 = .ok (.dstore 4, 2) := by decide +kernel
theorem d_Pi_greatestDistance_3 : decode M_Pi_greatestDistance.2.1 3 = .ok (.iconst 0, 1) := by decide +kernel
theorem d_Pi_greatestDistance_4 : decode M_Pi_greatestDistance.2.1 4 = .ok (.istore 6, 2) := by decide +kernel
theorem d_Pi_greatestDistance_6 : decode M_Pi_greatestDistance.2.1 6 = .ok (.iload 6, 2) := by decide +kernel
theorem d_Pi_greatestDistance_8 : decode M_Pi_greatestDistance.2.1 8 = .ok (.aload_n 0, 1) := by decide +kernel
theorem d_Pi_greatestDistance_9 : decode M_Pi_greatestDistance.2.1 9 = .ok (.getfield 28, 3) := by decide +kernel
theorem d_Pi_greatestDistance_12 : decode M_Pi_greatestDistance.2.1 12 = .ok (.if_icmp .ge 86, 3) := by decide +kernel
theorem d_Pi_greatestDistance_15 : decode M_Pi_greatestDistance.2.1 15 = .ok (.iconst 0, 1) := by decide +kernel
theorem d_Pi_greatestDistance_16 : decode M_Pi_greatestDistance.2.1 16 = .ok (.istore 7, 2) := by decide +kernel
theorem d_Pi_greatestDistance_18 : decode M_Pi_greatestDistance.2.1 18 = .ok (.iload 7, 2) := by decide +kernel
theorem d_Pi_greatestDistance_20 : decode M_Pi_greatestDistance.2.1 20 = .ok (.aload_n 0, 1) := by decide +kernel
theorem d_Pi_greatestDistance_21 : decode M_Pi_greatestDistance.2.1 21 = .ok (.getfield 24, 3) := by decide +kernel
theorem d_Pi_greatestDistance_24 : decode M_Pi_greatestDistance.2.1 24 = .ok (.if_icmp .ge 68, 3) := by decide +kernel
theorem d_Pi_greatestDistance_27 : decode M_Pi_greatestDistance.2.1 27 = .ok (.aload_n 0, 1) := by decide +kernel
theorem d_Pi_greatestDistance_28 : decode M_Pi_greatestDistance.2.1 28 = .ok (.iload_n 1, 1) := by decide +kernel
theorem d_Pi_greatestDistance_29 : decode M_Pi_greatestDistance.2.1 29 = .ok (.iload 7, 2) := by decide +kernel
theorem d_Pi_greatestDistance_31 : decode M_Pi_greatestDistance.2.1 31 = .ok (.iload 6, 2) := by decide +kernel
theorem d_Pi_greatestDistance_33 : decode M_Pi_greatestDistance.2.1 33 = .ok (.invokevirtual 62, 3) := by decide +kernel
