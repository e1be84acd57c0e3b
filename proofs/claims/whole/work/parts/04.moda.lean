theorem d_Mo_init_0 : decode M_Mo_init.2.1 0 = .ok (.aload_n 0, 1) := by decide +kernel
theorem d_Mo_init_1 : decode M_Mo_init.2.1 1 = .ok (.invokespecial 1, 3) := by decide +kernel
theorem d_Mo_init_4 : decode M_Mo_init.2.1 4 = .ok (.aload_n 0, 1) := by decide +kernel
theorem d_Mo_init_5 : decode M_Mo_init.2.1 5 = .ok (.iconst 1, 1) := by decide +kernel
theorem d_Mo_init_6 : decode M_Mo_init.2.1 6 = .ok (.putfield 7, 3) := by decide +kernel
theorem d_Mo_init_9 : decode M_Mo_init.2.1 9 = .ok (.aload_n 0, 1) := by decide +kernel
theorem d_Mo_init_10 : decode M_Mo_init.2.1 10 = .ok (.iconst 1, 1) := by decide +kernel
theorem d_Mo_init_11 : decode M_Mo_init.2.1 11 = .ok (.putfield 13, 3) := by decide +kernel
theorem d_Mo_init_14 : decode M_Mo_init.2.1 14 = .ok (.aload_n 0, 1) := by decide +kernel
theorem d_Mo_init_15 : decode M_Mo_init.2.1 15 = .ok (.iconst 1, 1) := by decide +kernel
theorem d_Mo_init_16 : decode M_Mo_init.2.1 16 = .ok (.putfield 16, 3) := by decide +kernel
theorem d_Mo_init_19 : decode M_Mo_init.2.1 19 = .ok (.aload_n 0, 1) := by decide +kernel
theorem d_Mo_init_20 : decode M_Mo_init.2.1 20 = .ok (.bipush (-2), 2) := by decide +kernel
theorem d_Mo_init_22 : decode M_Mo_init.2.1 22 = .ok (.putfield 19, 3) := by decide +kernel
theorem d_Mo_init_25 : decode M_Mo_init.2.1 25 = .ok (.aload_n 0, 1) := by decide +kernel
theorem d_Mo_init_26 : decode M_Mo_init.2.1 26 = .ok (.iconst 3, 1) := by decide +kernel
theorem d_Mo_init_27 : decode M_Mo_init.2.1 27 = .ok (.newarray .int, 2) := by decide +kernel
theorem d_Mo_init_29 : decode M_Mo_init.2.1 29 = .ok (.putfield 22, 3) := by decide +kernel
theorem d_Mo_init_32 : decode M_Mo_init.2.1 32 = .ok (.aload_n 0, 1) := by decide +kernel
theorem d_Mo_init_33 : decode M_Mo_init.2.1 33 = .ok (.iconst 3, 1) := by decide +kernel
theorem d_Mo_init_34 : decode M_Mo_init.2.1 34 = .ok (.newarray .int, 2) := by decide +kernel
theorem d_Mo_init_36 : decode M_Mo_init.2.1 36 = .ok (.putfield 26, 3) := by decide +kernel
theorem d_Mo_init_39 : decode M_Mo_init.2.1 39 = .ok (.aload_n 0, 1) := by decide +kernel
theorem d_Mo_init_40 : decode M_Mo_init.2.1 40 = .ok (.iconst 3, 1) := by decide +kernel
theorem d_Mo_init_41 : decode M_Mo_init.2.1 41 = .ok (.newarray .int, 2) := by decide +kernel
theorem d_Mo_init_43 : decode M_Mo_init.2.1 43 = .ok (.putfield 29, 3) := by decide +kernel
theorem d_Mo_init_46 : decode M_Mo_init.2.1 46 = .ok (.aload_n 0, 1) := by decide +kernel
theorem d_Mo_init_47 : decode M_Mo_init.2.1 47 = .ok (.sipush 192, 3) := by decide +kernel
theorem d_Mo_init_50 : decode M_Mo_init.2.1 50 = .ok (.newarray .int, 2) := by decide +kernel
theorem d_Mo_init_52 : decode M_Mo_init.2.1 52 = .ok (.putfield 32, 3) := by decide +kernel
theorem d_Mo_init_55 : decode M_Mo_init.2.1 55 = .ok (.aload_n 0, 1) := by decide +kernel
theorem d_Mo_init_56 : decode M_Mo_init.2.1 56 = .ok (.sipush 1500, 3) := by decide +kernel
theorem d_Mo_init_59 : decode M_Mo_init.2.1 59 = .ok (.newarray .int, 2) := by decide +kernel
theorem d_Mo_init_61 : decode M_Mo_init.2.1 61 = .ok (.putfield 35, 3) := by decide +kernel
theorem d_Mo_init_64 : decode M_Mo_init.2.1 64 = .ok (.aload_n 0, 1) := by decide +kernel
theorem d_Mo_init_65 : decode M_Mo_init.2.1 65 = .ok (.iconst 3, 1) := by decide +kernel
theorem d_Mo_init_66 : decode M_Mo_init.2.1 66 = .ok (.newarray .int, 2) := by decide +kernel
theorem d_Mo_init_68 : decode M_Mo_init.2.1 68 = .ok (.putfield 38, 3) := by decide +kernel
theorem d_Mo_init_71 : decode M_Mo_init.2.1 71 = .ok (.aload_n 0, 1) := by decide +kernel
theorem d_Mo_init_72 : decode M_Mo_init.2.1 72 = .ok (.iconst 3, 1) := by decide +kernel
theorem d_Mo_init_73 : decode M_Mo_init.2.1 73 = .ok (.newarray .int, 2) := by decide +kernel
theorem d_Mo_init_75 : decode M_Mo_init.2.1 75 = .ok (.putfield 41, 3) := by decide +kernel
theorem d_Mo_init_78 : decode M_Mo_init.2.1 78 = .ok (.aload_n 0, 1) := by decide +kernel
theorem d_Mo_init_79 : decode M_Mo_init.2.1 79 = .ok (.iconst 3, 1) := by decide +kernel
theorem d_Mo_init_80 : decode M_Mo_init.2.1 80 = .ok (.newarray .int, 2) := by decide +kernel
theorem d_Mo_init_82 : decode M_Mo_init.2.1 82 = .ok (.putfield 44, 3) := by decide +kernel
theorem d_Mo_init_85 : decode M_Mo_init.2.1 85 = .ok (.aload_n 0, 1) := by decide +kernel
theorem d_Mo_init_86 : decode M_Mo_init.2.1 86 = .ok (.sipush 192, 3) := by decide +kernel
theorem d_Mo_init_89 : decode M_Mo_init.2.1 89 = .ok (.newarray .int, 2) := by decide +kernel
theorem d_Mo_init_91 : decode M_Mo_init.2.1 91 = .ok (.putfield 47, 3) := by decide +kernel
theorem d_Mo_init_94 : decode M_Mo_init.2.1 94 = .ok (.aload_n 0, 1) := by decide +kernel
theorem d_Mo_init_95 : decode M_Mo_init.2.1 95 = .ok (.sipush 800, 3) := by decide +kernel
theorem d_Mo_init_98 : decode M_Mo_init.2.1 98 = .ok (.newarray .int, 2) := by decide +kernel
theorem d_Mo_init_100 : decode M_Mo_init.2.1 100 = .ok (.putfield 50, 3) := by decide +kernel
theorem d_Mo_init_103 : decode M_Mo_init.2.1 103 = .ok (.aload_n 0, 1) := by decide +kernel
theorem d_Mo_init_104 : decode M_Mo_init.2.1 104 = .ok (.sipush 1700, 3) := by decide +kernel
theorem d_Mo_init_107 : decode M_Mo_init.2.1 107 = .ok (.newarray .int, 2) := by decide +kernel
theorem d_Mo_init_109 : decode M_Mo_init.2.1 109 = .ok (.putfield 53, 3) := by decide +kernel
theorem d_Mo_init_112 : decode M_Mo_init.2.1 112 = .ok (.aload_n 0, 1) := by decide +kernel
theorem d_Mo_init_113 : decode M_Mo_init.2.1 113 = .ok (.bipush 64, 2) := by decide +kernel
theorem d_Mo_init_115 : decode M_Mo_init.2.1 115 = .ok (.newarray .int, 2) := by decide +kernel
theorem d_Mo_init_117 : decode M_Mo_init.2.1 117 = .ok (.putfield 56, 3) := by decide +kernel
theorem d_Mo_init_120 : decode M_Mo_init.2.1 120 = .ok (.aload_n 0, 1) := by decide +kernel
theorem d_Mo_init_121 : decode M_Mo_init.2.1 121 = .ok (.getfield 22, 3) := by decide +kernel
theorem d_Mo_init_124 : decode M_Mo_init.2.1 124 = .ok (.iconst 0, 1) := by decide +kernel
theorem d_Mo_init_125 : decode M_Mo_init.2.1 125 = .ok (.bipush 97, 2) := by decide +kernel
theorem d_Mo_init_127 : decode M_Mo_init.2.1 127 = .ok (.iastore, 1) := by decide +kernel
theorem d_Mo_init_128 : decode M_Mo_init.2.1 128 = .ok (.aload_n 0, 1) := by decide +kernel
theorem d_Mo_init_129 : decode M_Mo_init.2.1 129 = .ok (.getfield 29, 3) := by decide +kernel
theorem d_Mo_init_132 : decode M_Mo_init.2.1 132 = .ok (.iconst 0, 1) := by decide +kernel
theorem d_Mo_init_133 : decode M_Mo_init.2.1 133 = .ok (.iconst 1, 1) := by decide +kernel
theorem d_Mo_init_134 : decode M_Mo_init.2.1 134 = .ok (.iastore, 1) := by decide +kernel
theorem d_Mo_init_135 : decode M_Mo_init.2.1 135 = .ok (.return_, 1) := by decide +kernel
theorem d_Mo_thrown_0 : decode M_Mo_thrown.2.1 0 = .ok (.aload_n 0, 1) := by decide +kernel
theorem d_Mo_thrown_1 : decode M_Mo_thrown.2.1 1 = .ok (.getfield 59, 3) := by decide +kernel
theorem d_Mo_thrown_4 : decode M_Mo_thrown.2.1 4 = .ok (.ireturn, 1) := by decide +kernel
theorem d_Mo_begin_0 : decode M_Mo_begin.2.1 0 = .ok (.iload_n 1, 1) := by decide +kernel
theorem d_Mo_begin_1 : decode M_Mo_begin.2.1 1 = .ok (.iconst 1, 1) := by decide +kernel
theorem d_Mo_begin_2 : decode M_Mo_begin.2.1 2 = .ok (.bipush 8, 2) := by decide +kernel
theorem d_Mo_begin_4 : decode M_Mo_begin.2.1 4 = .ok (.invokestatic 87, 3) := by decide +kernel
theorem d_Mo_begin_7 : decode M_Mo_begin.2.1 7 = .ok (.ifCond .eq 13, 3) := by decide +kernel
theorem d_Mo_begin_10 : decode M_Mo_begin.2.1 10 = .ok (.iload_n 2, 1) := by decide +kernel
theorem d_Mo_begin_11 : decode M_Mo_begin.2.1 11 = .ok (.iconst 1, 1) := by decide +kernel
theorem d_Mo_begin_12 : decode M_Mo_begin.2.1 12 = .ok (.bipush 8, 2) := by decide +kernel
theorem d_Mo_begin_14 : decode M_Mo_begin.2.1 14 = .ok (.invokestatic 87, 3) := by decide +kernel
theorem d_Mo_begin_17 : decode M_Mo_begin.2.1 17 = .ok (.ifCond .ne 9, 3) := by decide +kernel
theorem d_Mo_begin_20 : decode M_Mo_begin.2.1 20 = .ok (.aload_n 0, 1) := by decide +kernel
theorem d_Mo_begin_21 : decode M_Mo_begin.2.1 21 = .ok (.iconst 1, 1) := by decide +kernel
theorem d_Mo_begin_22 : decode M_Mo_begin.2.1 22 = .ok (.invokevirtual 91, 3) := by decide +kernel
theorem d_Mo_begin_25 : decode M_Mo_begin.2.1 25 = .ok (.ireturn, 1) := by decide +kernel
theorem d_Mo_begin_26 : decode M_Mo_begin.2.1 26 = .ok (.aload_n 0, 1) := by decide +kernel
theorem d_Mo_begin_27 : decode M_Mo_begin.2.1 27 = .ok (.iconst 0, 1) := by decide +kernel
theorem d_Mo_begin_28 : decode M_Mo_begin.2.1 28 = .ok (.putfield 59, 3) := by decide +kernel
theorem d_Mo_begin_31 : decode M_Mo_begin.2.1 31 = .ok (.aload_n 0, 1) := by decide +kernel
theorem d_Mo_begin_32 : decode M_Mo_begin.2.1 32 = .ok (.iload_n 1, 1) := by decide +kernel
theorem d_Mo_begin_33 : decode M_Mo_begin.2.1 33 = .ok (.putfield 7, 3) := by decide +kernel
theorem d_Mo_begin_36 : decode M_Mo_begin.2.1 36 = .ok (.aload_n 0, 1) := by decide +kernel
theorem d_Mo_begin_37 : decode M_Mo_begin.2.1 37 = .ok (.iload_n 2, 1) := by decide +kernel
theorem d_Mo_begin_38 : decode M_Mo_begin.2.1 38 = .ok (.putfield 13, 3) := by decide +kernel
theorem d_Mo_begin_41 : decode M_Mo_begin.2.1 41 = .ok (.aload_n 0, 1) := by decide +kernel
theorem d_Mo_begin_42 : decode M_Mo_begin.2.1 42 = .ok (.iconst 0, 1) := by decide +kernel
theorem d_Mo_begin_43 : decode M_Mo_begin.2.1 43 = .ok (.putfield 16, 3) := by decide +kernel
theorem d_Mo_begin_46 : decode M_Mo_begin.2.1 46 = .ok (.iconst 0, 1) := by decide +kernel
theorem d_Mo_begin_47 : decode M_Mo_begin.2.1 47 = .ok (.istore_n 3, 1) := by decide +kernel
theorem d_Mo_begin_48 : decode M_Mo_begin.2.1 48 = .ok (.iload_n 3, 1) := by decide +kernel
theorem d_Mo_begin_49 : decode M_Mo_begin.2.1 49 = .ok (.sipush 192, 3) := by decide +kernel
theorem d_Mo_begin_52 : decode M_Mo_begin.2.1 52 = .ok (.if_icmp .ge 16, 3) := by decide +kernel
theorem d_Mo_begin_55 : decode M_Mo_begin.2.1 55 = .ok (.aload_n 0, 1) := by decide +kernel
theorem d_Mo_begin_56 : decode M_Mo_begin.2.1 56 = .ok (.getfield 32, 3) := by decide +kernel
theorem d_Mo_begin_59 : decode M_Mo_begin.2.1 59 = .ok (.iload_n 3, 1) := by decide +kernel
theorem d_Mo_begin_60 : decode M_Mo_begin.2.1 60 = .ok (.iconst 0, 1) := by decide +kernel
theorem d_Mo_begin_61 : decode M_Mo_begin.2.1 61 = .ok (.iastore, 1) := by decide +kernel
theorem d_Mo_begin_62 : decode M_Mo_begin.2.1 62 = .ok (.iinc 3 1, 3) := by decide +kernel
theorem d_Mo_begin_65 : decode M_Mo_begin.2.1 65 = .ok (.goto (-17), 3) := by decide +kernel
theorem d_Mo_begin_68 : decode M_Mo_begin.2.1 68 = .ok (.iload_n 1, 1) := by decide +kernel
theorem d_Mo_begin_69 : decode M_Mo_begin.2.1 69 = .ok (.iload_n 2, 1) := by decide +kernel
theorem d_Mo_begin_70 : decode M_Mo_begin.2.1 70 = .ok (.imul, 1) := by decide +kernel
theorem d_Mo_begin_71 : decode M_Mo_begin.2.1 71 = .ok (.ireturn, 1) := by decide +kernel
theorem d_Mo_in_0 : decode M_Mo_in.2.1 0 = .ok (.iload_n 0, 1) := by decide +kernel
theorem d_Mo_in_1 : decode M_Mo_in.2.1 1 = .ok (.iload_n 1, 1) := by decide +kernel
theorem d_Mo_in_2 : decode M_Mo_in.2.1 2 = .ok (.if_icmp .lt 12, 3) := by decide +kernel
theorem d_Mo_in_5 : decode M_Mo_in.2.1 5 = .ok (.iload_n 0, 1) := by decide +kernel
theorem d_Mo_in_6 : decode M_Mo_in.2.1 6 = .ok (.iload_n 2, 1) := by decide +kernel
theorem d_Mo_in_7 : decode M_Mo_in.2.1 7 = .ok (.if_icmp .gt 7, 3) := by decide +kernel
theorem d_Mo_in_10 : decode M_Mo_in.2.1 10 = .ok (.iconst 1, 1) := by decide +kernel
theorem d_Mo_in_11 : decode M_Mo_in.2.1 11 = .ok (.goto 4, 3) := by decide +kernel
theorem d_Mo_in_14 : decode M_Mo_in.2.1 14 = .ok (.iconst 0, 1) := by decide +kernel
theorem d_Mo_in_15 : decode M_Mo_in.2.1 15 = .ok (.ireturn, 1) := by decide +kernel
theorem d_Mo_fail_0 : decode M_Mo_fail.2.1 0 = .ok (.aload_n 0, 1) := by decide +kernel
theorem d_Mo_fail_1 : decode M_Mo_fail.2.1 1 = .ok (.iload_n 1, 1) := by decide +kernel
theorem d_Mo_fail_2 : decode M_Mo_fail.2.1 2 = .ok (.putfield 59, 3) := by decide +kernel
theorem d_Mo_fail_5 : decode M_Mo_fail.2.1 5 = .ok (.iconst 0, 1) := by decide +kernel
theorem d_Mo_fail_6 : decode M_Mo_fail.2.1 6 = .ok (.ireturn, 1) := by decide +kernel
theorem d_Mo_channel_0 : decode M_Mo_channel.2.1 0 = .ok (.aload_n 0, 1) := by decide +kernel
theorem d_Mo_channel_1 : decode M_Mo_channel.2.1 1 = .ok (.getfield 16, 3) := by decide +kernel
theorem d_Mo_channel_4 : decode M_Mo_channel.2.1 4 = .ok (.ifCond .ne 8, 3) := by decide +kernel
theorem d_Mo_channel_7 : decode M_Mo_channel.2.1 7 = .ok (.bipush 97, 2) := by decide +kernel
theorem d_Mo_channel_9 : decode M_Mo_channel.2.1 9 = .ok (.goto 16, 3) := by decide +kernel
theorem d_Mo_channel_12 : decode M_Mo_channel.2.1 12 = .ok (.aload_n 0, 1) := by decide +kernel
theorem d_Mo_channel_13 : decode M_Mo_channel.2.1 13 = .ok (.getfield 22, 3) := by decide +kernel
theorem d_Mo_channel_16 : decode M_Mo_channel.2.1 16 = .ok (.aload_n 0, 1) := by decide +kernel
theorem d_Mo_channel_17 : decode M_Mo_channel.2.1 17 = .ok (.getfield 16, 3) := by decide +kernel
theorem d_Mo_channel_20 : decode M_Mo_channel.2.1 20 = .ok (.iconst 1, 1) := by decide +kernel
theorem d_Mo_channel_21 : decode M_Mo_channel.2.1 21 = .ok (.isub, 1) := by decide +kernel
theorem d_Mo_channel_22 : decode M_Mo_channel.2.1 22 = .ok (.iaload, 1) := by decide +kernel
theorem d_Mo_channel_23 : decode M_Mo_channel.2.1 23 = .ok (.iconst 1, 1) := by decide +kernel
theorem d_Mo_channel_24 : decode M_Mo_channel.2.1 24 = .ok (.iadd, 1) := by decide +kernel
theorem d_Mo_channel_25 : decode M_Mo_channel.2.1 25 = .ok (.istore 4, 2) := by decide +kernel
theorem d_Mo_channel_27 : decode M_Mo_channel.2.1 27 = .ok (.iload_n 1, 1) := by decide +kernel
theorem d_Mo_channel_28 : decode M_Mo_channel.2.1 28 = .ok (.iload 4, 2) := by decide +kernel
theorem d_Mo_channel_30 : decode M_Mo_channel.2.1 30 = .ok (.bipush 122, 2) := by decide +kernel
theorem d_Mo_channel_32 : decode M_Mo_channel.2.1 32 = .ok (.invokestatic 87, 3) := by decide +kernel
theorem d_Mo_channel_35 : decode M_Mo_channel.2.1 35 = .ok (.ifCond .eq 21, 3) := by decide +kernel
theorem d_Mo_channel_38 : decode M_Mo_channel.2.1 38 = .ok (.iload_n 2, 1) := by decide +kernel
theorem d_Mo_channel_39 : decode M_Mo_channel.2.1 39 = .ok (.iconst 0, 1) := by decide +kernel
theorem d_Mo_channel_40 : decode M_Mo_channel.2.1 40 = .ok (.iconst 2, 1) := by decide +kernel
theorem d_Mo_channel_41 : decode M_Mo_channel.2.1 41 = .ok (.invokestatic 87, 3) := by decide +kernel
theorem d_Mo_channel_44 : decode M_Mo_channel.2.1 44 = .ok (.ifCond .eq 12, 3) := by decide +kernel
theorem d_Mo_channel_47 : decode M_Mo_channel.2.1 47 = .ok (.iload_n 3, 1) := by decide +kernel
theorem d_Mo_channel_48 : decode M_Mo_channel.2.1 48 = .ok (.iconst 1, 1) := by decide +kernel
theorem d_Mo_channel_49 : decode M_Mo_channel.2.1 49 = .ok (.iconst 2, 1) := by decide +kernel
theorem d_Mo_channel_50 : decode M_Mo_channel.2.1 50 = .ok (.invokestatic 87, 3) := by decide +kernel
theorem d_Mo_channel_53 : decode M_Mo_channel.2.1 53 = .ok (.ifCond .ne 9, 3) := by decide +kernel
theorem d_Mo_channel_56 : decode M_Mo_channel.2.1 56 = .ok (.aload_n 0, 1) := by decide +kernel
theorem d_Mo_channel_57 : decode M_Mo_channel.2.1 57 = .ok (.iconst 1, 1) := by decide +kernel
theorem d_Mo_channel_58 : decode M_Mo_channel.2.1 58 = .ok (.invokevirtual 91, 3) := by decide +kernel
theorem d_Mo_channel_61 : decode M_Mo_channel.2.1 61 = .ok (.ireturn, 1) := by decide +kernel
theorem d_Mo_channel_62 : decode M_Mo_channel.2.1 62 = .ok (.aload_n 0, 1) := by decide +kernel
theorem d_Mo_channel_63 : decode M_Mo_channel.2.1 63 = .ok (.getfield 16, 3) := by decide +kernel
theorem d_Mo_channel_66 : decode M_Mo_channel.2.1 66 = .ok (.iconst 3, 1) := by decide +kernel
theorem d_Mo_channel_67 : decode M_Mo_channel.2.1 67 = .ok (.if_icmp .ne 9, 3) := by decide +kernel
theorem d_Mo_channel_70 : decode M_Mo_channel.2.1 70 = .ok (.aload_n 0, 1) := by decide +kernel
theorem d_Mo_channel_71 : decode M_Mo_channel.2.1 71 = .ok (.iconst 2, 1) := by decide +kernel
theorem d_Mo_channel_72 : decode M_Mo_channel.2.1 72 = .ok (.invokevirtual 91, 3) := by decide +kernel
theorem d_Mo_channel_75 : decode M_Mo_channel.2.1 75 = .ok (.ireturn, 1) := by decide +kernel
theorem d_Mo_channel_76 : decode M_Mo_channel.2.1 76 = .ok (.aload_n 0, 1) := by decide +kernel
theorem d_Mo_channel_77 : decode M_Mo_channel.2.1 77 = .ok (.iconst 0, 1) := by decide +kernel
theorem d_Mo_channel_78 : decode M_Mo_channel.2.1 78 = .ok (.putfield 59, 3) := by decide +kernel
theorem d_Mo_channel_81 : decode M_Mo_channel.2.1 81 = .ok (.aload_n 0, 1) := by decide +kernel
theorem d_Mo_channel_82 : decode M_Mo_channel.2.1 82 = .ok (.getfield 22, 3) := by decide +kernel
theorem d_Mo_channel_85 : decode M_Mo_channel.2.1 85 = .ok (.aload_n 0, 1) := by decide +kernel
theorem d_Mo_channel_86 : decode M_Mo_channel.2.1 86 = .ok (.getfield 16, 3) := by decide +kernel
theorem d_Mo_channel_89 : decode M_Mo_channel.2.1 89 = .ok (.iload_n 1, 1) := by decide +kernel
theorem d_Mo_channel_90 : decode M_Mo_channel.2.1 90 = .ok (.iastore, 1) := by decide +kernel
theorem d_Mo_channel_91 : decode M_Mo_channel.2.1 91 = .ok (.aload_n 0, 1) := by decide +kernel
theorem d_Mo_channel_92 : decode M_Mo_channel.2.1 92 = .ok (.getfield 26, 3) := by decide +kernel
theorem d_Mo_channel_95 : decode M_Mo_channel.2.1 95 = .ok (.aload_n 0, 1) := by decide +kernel
theorem d_Mo_channel_96 : decode M_Mo_channel.2.1 96 = .ok (.getfield 16, 3) := by decide +kernel
theorem d_Mo_channel_99 : decode M_Mo_channel.2.1 99 = .ok (.iload_n 2, 1) := by decide +kernel
theorem d_Mo_channel_100 : decode M_Mo_channel.2.1 100 = .ok (.iastore, 1) := by decide +kernel
theorem d_Mo_channel_101 : decode M_Mo_channel.2.1 101 = .ok (.aload_n 0, 1) := by decide +kernel
theorem d_Mo_channel_102 : decode M_Mo_channel.2.1 102 = .ok (.getfield 29, 3) := by decide +kernel
theorem d_Mo_channel_105 : decode M_Mo_channel.2.1 105 = .ok (.aload_n 0, 1) := by decide +kernel
theorem d_Mo_channel_106 : decode M_Mo_channel.2.1 106 = .ok (.getfield 16, 3) := by decide +kernel
theorem d_Mo_channel_109 : decode M_Mo_channel.2.1 109 = .ok (.iload_n 3, 1) := by decide +kernel
theorem d_Mo_channel_110 : decode M_Mo_channel.2.1 110 = .ok (.iastore, 1) := by decide +kernel
theorem d_Mo_channel_111 : decode M_Mo_channel.2.1 111 = .ok (.aload_n 0, 1) := by decide +kernel
theorem d_Mo_channel_112 : decode M_Mo_channel.2.1 112 = .ok (.dup, 1) := by decide +kernel
theorem d_Mo_channel_113 : decode M_Mo_channel.2.1 113 = .ok (.getfield 16, 3) := by decide +kernel
theorem d_Mo_channel_116 : decode M_Mo_channel.2.1 116 = .ok (.iconst 1, 1) := by decide +kernel
theorem d_Mo_channel_117 : decode M_Mo_channel.2.1 117 = .ok (.iadd, 1) := by decide +kernel
theorem d_Mo_channel_118 : decode M_Mo_channel.2.1 118 = .ok (.putfield 16, 3) := by decide +kernel
theorem d_Mo_channel_121 : decode M_Mo_channel.2.1 121 = .ok (.aload_n 0, 1) := by decide +kernel
theorem d_Mo_channel_122 : decode M_Mo_channel.2.1 122 = .ok (.getfield 16, 3) := by decide +kernel
theorem d_Mo_channel_125 : decode M_Mo_channel.2.1 125 = .ok (.ireturn, 1) := by decide +kernel
theorem d_Mo_set_0 : decode M_Mo_set.2.1 0 = .ok (.aload_n 0, 1) := by decide +kernel
theorem d_Mo_set_1 : decode M_Mo_set.2.1 1 = .ok (.iload_n 1, 1) := by decide +kernel
theorem d_Mo_set_2 : decode M_Mo_set.2.1 2 = .ok (.iload_n 2, 1) := by decide +kernel
theorem d_Mo_set_3 : decode M_Mo_set.2.1 3 = .ok (.iload_n 3, 1) := by decide +kernel
theorem d_Mo_set_4 : decode M_Mo_set.2.1 4 = .ok (.invokevirtual 95, 3) := by decide +kernel
theorem d_Mo_set_7 : decode M_Mo_set.2.1 7 = .ok (.istore 6, 2) := by decide +kernel
theorem d_Mo_set_9 : decode M_Mo_set.2.1 9 = .ok (.aload_n 0, 1) := by decide +kernel
theorem d_Mo_set_10 : decode M_Mo_set.2.1 10 = .ok (.dload 4, 2) := by decide +kernel
theorem d_Mo_set_12 : decode M_Mo_set.2.1 12 = .ok (.ldc2_w 98, 3) := by decide +kernel
theorem d_Mo_set_15 : decode M_Mo_set.2.1 15 = .ok (.dcmp .g, 1) := by decide +kernel
theorem d_Mo_set_16 : decode M_Mo_set.2.1 16 = .ok (.ifCond .gt 12, 3) := by decide +kernel
theorem d_Mo_set_19 : decode M_Mo_set.2.1 19 = .ok (.dload 4, 2) := by decide +kernel
theorem d_Mo_set_21 : decode M_Mo_set.2.1 21 = .ok (.ldc2_w 100, 3) := by decide +kernel
theorem d_Mo_set_24 : decode M_Mo_set.2.1 24 = .ok (.dcmp .l, 1) := by decide +kernel
theorem d_Mo_set_25 : decode M_Mo_set.2.1 25 = .ok (.ifCond .ge 7, 3) := by decide +kernel
theorem d_Mo_set_28 : decode M_Mo_set.2.1 28 = .ok (.iconst 1, 1) := by decide +kernel
theorem d_Mo_set_29 : decode M_Mo_set.2.1 29 = .ok (.goto 13, 3) := by decide +kernel
theorem d_Mo_set_32 : decode M_Mo_set.2.1 32 = .ok (.iload 6, 2) := by decide +kernel
theorem d_Mo_set_34 : decode M_Mo_set.2.1 34 = .ok (.ifCond .ne 7, 3) := by decide +kernel
theorem d_Mo_set_37 : decode M_Mo_set.2.1 37 = .ok (.iconst 2, 1) := by decide +kernel
theorem d_Mo_set_38 : decode M_Mo_set.2.1 38 = .ok (.goto 4, 3) := by decide +kernel
theorem d_Mo_set_41 : decode M_Mo_set.2.1 41 = .ok (.iconst 0, 1) := by decide +kernel
theorem d_Mo_set_42 : decode M_Mo_set.2.1 42 = .ok (.putfield 59, 3) := by decide +kernel
theorem d_Mo_set_45 : decode M_Mo_set.2.1 45 = .ok (.aload_n 0, 1) := by decide +kernel
theorem d_Mo_set_46 : decode M_Mo_set.2.1 46 = .ok (.getfield 59, 3) := by decide +kernel
theorem d_Mo_set_49 : decode M_Mo_set.2.1 49 = .ok (.ifCond .le 5, 3) := by decide +kernel
theorem d_Mo_set_52 : decode M_Mo_set.2.1 52 = .ok (.dconst 0, 1) := by decide +kernel
theorem d_Mo_set_53 : decode M_Mo_set.2.1 53 = .ok (.dreturn, 1) := by decide +kernel
theorem d_Mo_set_54 : decode M_Mo_set.2.1 54 = .ok (.aload_n 0, 1) := by decide +kernel
theorem d_Mo_set_55 : decode M_Mo_set.2.1 55 = .ok (.getfield 32, 3) := by decide +kernel
theorem d_Mo_set_58 : decode M_Mo_set.2.1 58 = .ok (.bipush 64, 2) := by decide +kernel
theorem d_Mo_set_60 : decode M_Mo_set.2.1 60 = .ok (.iload_n 1, 1) := by decide +kernel
theorem d_Mo_set_61 : decode M_Mo_set.2.1 61 = .ok (.imul, 1) := by decide +kernel
theorem d_Mo_set_62 : decode M_Mo_set.2.1 62 = .ok (.bipush 8, 2) := by decide +kernel
theorem d_Mo_set_64 : decode M_Mo_set.2.1 64 = .ok (.iload_n 3, 1) := by decide +kernel
theorem d_Mo_set_65 : decode M_Mo_set.2.1 65 = .ok (.imul, 1) := by decide +kernel
theorem d_Mo_set_66 : decode M_Mo_set.2.1 66 = .ok (.iadd, 1) := by decide +kernel
theorem d_Mo_set_67 : decode M_Mo_set.2.1 67 = .ok (.iload_n 2, 1) := by decide +kernel
theorem d_Mo_set_68 : decode M_Mo_set.2.1 68 = .ok (.iadd, 1) := by decide +kernel
theorem d_Mo_set_69 : decode M_Mo_set.2.1 69 = .ok (.aload_n 0, 1) := by decide +kernel
theorem d_Mo_set_70 : decode M_Mo_set.2.1 70 = .ok (.getfield 26, 3) := by decide +kernel
theorem d_Mo_set_73 : decode M_Mo_set.2.1 73 = .ok (.iload_n 1, 1) := by decide +kernel
theorem d_Mo_set_74 : decode M_Mo_set.2.1 74 = .ok (.iaload, 1) := by decide +kernel
theorem d_Mo_set_75 : decode M_Mo_set.2.1 75 = .ok (.dload 4, 2) := by decide +kernel
theorem d_Mo_set_77 : decode M_Mo_set.2.1 77 = .ok (.invokestatic 102, 3) := by decide +kernel
theorem d_Mo_set_80 : decode M_Mo_set.2.1 80 = .ok (.iastore, 1) := by decide +kernel
theorem d_Mo_set_81 : decode M_Mo_set.2.1 81 = .ok (.aload_n 0, 1) := by decide +kernel
theorem d_Mo_set_82 : decode M_Mo_set.2.1 82 = .ok (.getfield 26, 3) := by decide +kernel
theorem d_Mo_set_85 : decode M_Mo_set.2.1 85 = .ok (.iload_n 1, 1) := by decide +kernel
theorem d_Mo_set_86 : decode M_Mo_set.2.1 86 = .ok (.iaload, 1) := by decide +kernel
theorem d_Mo_set_87 : decode M_Mo_set.2.1 87 = .ok (.aload_n 0, 1) := by decide +kernel
theorem d_Mo_set_88 : decode M_Mo_set.2.1 88 = .ok (.getfield 32, 3) := by decide +kernel
theorem d_Mo_set_91 : decode M_Mo_set.2.1 91 = .ok (.bipush 64, 2) := by decide +kernel
theorem d_Mo_set_93 : decode M_Mo_set.2.1 93 = .ok (.iload_n 1, 1) := by decide +kernel
theorem d_Mo_set_94 : decode M_Mo_set.2.1 94 = .ok (.imul, 1) := by decide +kernel
theorem d_Mo_set_95 : decode M_Mo_set.2.1 95 = .ok (.bipush 8, 2) := by decide +kernel
theorem d_Mo_set_97 : decode M_Mo_set.2.1 97 = .ok (.iload_n 3, 1) := by decide +kernel
theorem d_Mo_set_98 : decode M_Mo_set.2.1 98 = .ok (.imul, 1) := by decide +kernel
theorem d_Mo_set_99 : decode M_Mo_set.2.1 99 = .ok (.iadd, 1) := by decide +kernel
theorem d_Mo_set_100 : decode M_Mo_set.2.1 100 = .ok (.iload_n 2, 1) := by decide +kernel
theorem d_Mo_set_101 : decode M_Mo_set.2.1 101 = .ok (.iadd, 1) := by decide +kernel
theorem d_Mo_set_102 : decode M_Mo_set.2.1 102 = .ok (.iaload, 1) := by decide +kernel
theorem d_Mo_set_103 : decode M_Mo_set.2.1 103 = .ok (.invokestatic 106, 3) := by decide +kernel
theorem d_Mo_set_106 : decode M_Mo_set.2.1 106 = .ok (.dreturn, 1) := by decide +kernel
theorem d_Mo_has_0 : decode M_Mo_has.2.1 0 = .ok (.iload_n 1, 1) := by decide +kernel
theorem d_Mo_has_1 : decode M_Mo_has.2.1 1 = .ok (.iconst 0, 1) := by decide +kernel
theorem d_Mo_has_2 : decode M_Mo_has.2.1 2 = .ok (.aload_n 0, 1) := by decide +kernel
theorem d_Mo_has_3 : decode M_Mo_has.2.1 3 = .ok (.getfield 16, 3) := by decide +kernel
theorem d_Mo_has_6 : decode M_Mo_has.2.1 6 = .ok (.iconst 1, 1) := by decide +kernel
theorem d_Mo_has_7 : decode M_Mo_has.2.1 7 = .ok (.isub, 1) := by decide +kernel
theorem d_Mo_has_8 : decode M_Mo_has.2.1 8 = .ok (.invokestatic 87, 3) := by decide +kernel
theorem d_Mo_has_11 : decode M_Mo_has.2.1 11 = .ok (.ifCond .eq 57, 3) := by decide +kernel
theorem d_Mo_has_14 : decode M_Mo_has.2.1 14 = .ok (.iload_n 2, 1) := by decide +kernel
theorem d_Mo_has_15 : decode M_Mo_has.2.1 15 = .ok (.iconst 0, 1) := by decide +kernel
theorem d_Mo_has_16 : decode M_Mo_has.2.1 16 = .ok (.aload_n 0, 1) := by decide +kernel
theorem d_Mo_has_17 : decode M_Mo_has.2.1 17 = .ok (.getfield 7, 3) := by decide +kernel
theorem d_Mo_has_20 : decode M_Mo_has.2.1 20 = .ok (.iconst 1, 1) := by decide +kernel
theorem d_Mo_has_21 : decode M_Mo_has.2.1 21 = .ok (.isub, 1) := by decide +kernel
theorem d_Mo_has_22 : decode M_Mo_has.2.1 22 = .ok (.invokestatic 87, 3) := by decide +kernel
theorem d_Mo_has_25 : decode M_Mo_has.2.1 25 = .ok (.ifCond .eq 43, 3) := by decide +kernel
theorem d_Mo_has_28 : decode M_Mo_has.2.1 28 = .ok (.iload_n 3, 1) := by decide +kernel
theorem d_Mo_has_29 : decode M_Mo_has.2.1 29 = .ok (.iconst 0, 1) := by decide +kernel
theorem d_Mo_has_30 : decode M_Mo_has.2.1 30 = .ok (.aload_n 0, 1) := by decide +kernel
theorem d_Mo_has_31 : decode M_Mo_has.2.1 31 = .ok (.getfield 13, 3) := by decide +kernel
theorem d_Mo_has_34 : decode M_Mo_has.2.1 34 = .ok (.iconst 1, 1) := by decide +kernel
theorem d_Mo_has_35 : decode M_Mo_has.2.1 35 = .ok (.isub, 1) := by decide +kernel
theorem d_Mo_has_36 : decode M_Mo_has.2.1 36 = .ok (.invokestatic 87, 3) := by decide +kernel
theorem d_Mo_has_39 : decode M_Mo_has.2.1 39 = .ok (.ifCond .eq 29, 3) := by decide +kernel
theorem d_Mo_has_42 : decode M_Mo_has.2.1 42 = .ok (.iload_n 2, 1) := by decide +kernel
theorem d_Mo_has_43 : decode M_Mo_has.2.1 43 = .ok (.aload_n 0, 1) := by decide +kernel
theorem d_Mo_has_44 : decode M_Mo_has.2.1 44 = .ok (.getfield 29, 3) := by decide +kernel
theorem d_Mo_has_47 : decode M_Mo_has.2.1 47 = .ok (.iload_n 1, 1) := by decide +kernel
theorem d_Mo_has_48 : decode M_Mo_has.2.1 48 = .ok (.iaload, 1) := by decide +kernel
theorem d_Mo_has_49 : decode M_Mo_has.2.1 49 = .ok (.irem, 1) := by decide +kernel
theorem d_Mo_has_50 : decode M_Mo_has.2.1 50 = .ok (.ifCond .ne 18, 3) := by decide +kernel
theorem d_Mo_has_53 : decode M_Mo_has.2.1 53 = .ok (.iload_n 3, 1) := by decide +kernel
theorem d_Mo_has_54 : decode M_Mo_has.2.1 54 = .ok (.aload_n 0, 1) := by decide +kernel
theorem d_Mo_has_55 : decode M_Mo_has.2.1 55 = .ok (.getfield 29, 3) := by decide +kernel
theorem d_Mo_has_58 : decode M_Mo_has.2.1 58 = .ok (.iload_n 1, 1) := by decide +kernel
theorem d_Mo_has_59 : decode M_Mo_has.2.1 59 = .ok (.iaload, 1) := by decide +kernel
theorem d_Mo_has_60 : decode M_Mo_has.2.1 60 = .ok (.irem, 1) := by decide +kernel
theorem d_Mo_has_61 : decode M_Mo_has.2.1 61 = .ok (.ifCond .ne 7, 3) := by decide +kernel
theorem d_Mo_has_64 : decode M_Mo_has.2.1 64 = .ok (.iconst 1, 1) := by decide +kernel
theorem d_Mo_has_65 : decode M_Mo_has.2.1 65 = .ok (.goto 4, 3) := by decide +kernel
theorem d_Mo_has_68 : decode M_Mo_has.2.1 68 = .ok (.iconst 0, 1) := by decide +kernel
theorem d_Mo_has_69 : decode M_Mo_has.2.1 69 = .ok (.ireturn, 1) := by decide +kernel
theorem d_Mo_bitsFor_0 : decode M_Mo_bitsFor.2.1 0 = .ok (.dload_n 1, 1) := by decide +kernel
theorem d_Mo_bitsFor_1 : decode M_Mo_bitsFor.2.1 1 = .ok (.dconst 0, 1) := by decide +kernel
theorem d_Mo_bitsFor_2 : decode M_Mo_bitsFor.2.1 2 = .ok (.dcmp .g, 1) := by decide +kernel
theorem d_Mo_bitsFor_3 : decode M_Mo_bitsFor.2.1 3 = .ok (.ifCond .ge 8, 3) := by decide +kernel
theorem d_Mo_bitsFor_6 : decode M_Mo_bitsFor.2.1 6 = .ok (.dload_n 1, 1) := by decide +kernel
theorem d_Mo_bitsFor_7 : decode M_Mo_bitsFor.2.1 7 = .ok (.dneg, 1) := by decide +kernel
theorem d_Mo_bitsFor_8 : decode M_Mo_bitsFor.2.1 8 = .ok (.goto 4, 3) := by decide +kernel
theorem d_Mo_bitsFor_11 : decode M_Mo_bitsFor.2.1 11 = .ok (.dload_n 1, 1) := by decide +kernel
theorem d_Mo_bitsFor_12 : decode M_Mo_bitsFor.2.1 12 = .ok (.dstore_n 3, 1) := by decide +kernel
theorem d_Mo_bitsFor_13 : decode M_Mo_bitsFor.2.1 13 = .ok (.iload_n 0, 1) := by decide +kernel
theorem d_Mo_bitsFor_14 : decode M_Mo_bitsFor.2.1 14 = .ok (.iconst 2, 1) := by decide +kernel
theorem d_Mo_bitsFor_15 : decode M_Mo_bitsFor.2.1 15 = .ok (.if_icmp .ne 29, 3) := by decide +kernel
theorem d_Mo_bitsFor_18 : decode M_Mo_bitsFor.2.1 18 = .ok (.dload_n 1, 1) := by decide +kernel
theorem d_Mo_bitsFor_19 : decode M_Mo_bitsFor.2.1 19 = .ok (.dconst 0, 1) := by decide +kernel
theorem d_Mo_bitsFor_20 : decode M_Mo_bitsFor.2.1 20 = .ok (.dcmp .g, 1) := by decide +kernel
theorem d_Mo_bitsFor_21 : decode M_Mo_bitsFor.2.1 21 = .ok (.ifCond .ge 7, 3) := by decide +kernel
theorem d_Mo_bitsFor_24 : decode M_Mo_bitsFor.2.1 24 = .ok (.iconst 0, 1) := by decide +kernel
theorem d_Mo_bitsFor_25 : decode M_Mo_bitsFor.2.1 25 = .ok (.goto 18, 3) := by decide +kernel
theorem d_Mo_bitsFor_28 : decode M_Mo_bitsFor.2.1 28 = .ok (.dload_n 1, 1) := by decide +kernel
theorem d_Mo_bitsFor_29 : decode M_Mo_bitsFor.2.1 29 = .ok (.ldc2_w 70, 3) := by decide +kernel
theorem d_Mo_bitsFor_32 : decode M_Mo_bitsFor.2.1 32 = .ok (.dcmp .l, 1) := by decide +kernel
theorem d_Mo_bitsFor_33 : decode M_Mo_bitsFor.2.1 33 = .ok (.ifCond .le 8, 3) := by decide +kernel
theorem d_Mo_bitsFor_36 : decode M_Mo_bitsFor.2.1 36 = .ok (.ldc 72, 2) := by decide +kernel
theorem d_Mo_bitsFor_38 : decode M_Mo_bitsFor.2.1 38 = .ok (.goto 5, 3) := by decide +kernel
theorem d_Mo_bitsFor_41 : decode M_Mo_bitsFor.2.1 41 = .ok (.dload_n 1, 1) := by decide +kernel
theorem d_Mo_bitsFor_42 : decode M_Mo_bitsFor.2.1 42 = .ok (.d2i, 1) := by decide +kernel
theorem d_Mo_bitsFor_43 : decode M_Mo_bitsFor.2.1 43 = .ok (.ireturn, 1) := by decide +kernel
theorem d_Mo_bitsFor_44 : decode M_Mo_bitsFor.2.1 44 = .ok (.iload_n 0, 1) := by decide +kernel
theorem d_Mo_bitsFor_45 : decode M_Mo_bitsFor.2.1 45 = .ok (.iconst 1, 1) := by decide +kernel
theorem d_Mo_bitsFor_46 : decode M_Mo_bitsFor.2.1 46 = .ok (.if_icmp .ne 15, 3) := by decide +kernel
theorem d_Mo_bitsFor_49 : decode M_Mo_bitsFor.2.1 49 = .ok (.dload_n 3, 1) := by decide +kernel
theorem d_Mo_bitsFor_50 : decode M_Mo_bitsFor.2.1 50 = .ok (.ldc 73, 2) := by decide +kernel
theorem d_Mo_bitsFor_52 : decode M_Mo_bitsFor.2.1 52 = .ok (.sipush 149, 3) := by decide +kernel
theorem d_Mo_bitsFor_55 : decode M_Mo_bitsFor.2.1 55 = .ok (.invokestatic 74, 3) := by decide +kernel
theorem d_Mo_bitsFor_58 : decode M_Mo_bitsFor.2.1 58 = .ok (.goto 26, 3) := by decide +kernel
theorem d_Mo_bitsFor_61 : decode M_Mo_bitsFor.2.1 61 = .ok (.dload_n 3, 1) := by decide +kernel
theorem d_Mo_bitsFor_62 : decode M_Mo_bitsFor.2.1 62 = .ok (.ldc2_w 78, 3) := by decide +kernel
theorem d_Mo_bitsFor_65 : decode M_Mo_bitsFor.2.1 65 = .ok (.dcmp .l, 1) := by decide +kernel
theorem d_Mo_bitsFor_66 : decode M_Mo_bitsFor.2.1 66 = .ok (.ifCond .lt 9, 3) := by decide +kernel
theorem d_Mo_bitsFor_69 : decode M_Mo_bitsFor.2.1 69 = .ok (.sipush 31743, 3) := by decide +kernel
theorem d_Mo_bitsFor_72 : decode M_Mo_bitsFor.2.1 72 = .ok (.goto 12, 3) := by decide +kernel
theorem d_Mo_bitsFor_75 : decode M_Mo_bitsFor.2.1 75 = .ok (.dload_n 3, 1) := by decide +kernel
theorem d_Mo_bitsFor_76 : decode M_Mo_bitsFor.2.1 76 = .ok (.sipush 1024, 3) := by decide +kernel
theorem d_Mo_bitsFor_79 : decode M_Mo_bitsFor.2.1 79 = .ok (.bipush 24, 2) := by decide +kernel
theorem d_Mo_bitsFor_81 : decode M_Mo_bitsFor.2.1 81 = .ok (.invokestatic 74, 3) := by decide +kernel
theorem d_Mo_bitsFor_84 : decode M_Mo_bitsFor.2.1 84 = .ok (.istore 5, 2) := by decide +kernel
theorem d_Mo_bitsFor_86 : decode M_Mo_bitsFor.2.1 86 = .ok (.iload 5, 2) := by decide +kernel
theorem d_Mo_bitsFor_88 : decode M_Mo_bitsFor.2.1 88 = .ok (.ifCond .eq 9, 3) := by decide +kernel
theorem d_Mo_bitsFor_91 : decode M_Mo_bitsFor.2.1 91 = .ok (.dload_n 1, 1) := by decide +kernel
theorem d_Mo_bitsFor_92 : decode M_Mo_bitsFor.2.1 92 = .ok (.dconst 0, 1) := by decide +kernel
theorem d_Mo_bitsFor_93 : decode M_Mo_bitsFor.2.1 93 = .ok (.dcmp .l, 1) := by decide +kernel
theorem d_Mo_bitsFor_94 : decode M_Mo_bitsFor.2.1 94 = .ok (.ifCond .lt 6, 3) := by decide +kernel
theorem d_Mo_bitsFor_97 : decode M_Mo_bitsFor.2.1 97 = .ok (.iload 5, 2) := by decide +kernel
theorem d_Mo_bitsFor_99 : decode M_Mo_bitsFor.2.1 99 = .ok (.ireturn, 1) := by decide +kernel
theorem d_Mo_bitsFor_100 : decode M_Mo_bitsFor.2.1 100 = .ok (.iload_n 0, 1) := by decide +kernel
theorem d_Mo_bitsFor_101 : decode M_Mo_bitsFor.2.1 101 = .ok (.iconst 1, 1) := by decide +kernel
theorem d_Mo_bitsFor_102 : decode M_Mo_bitsFor.2.1 102 = .ok (.if_icmp .ne 11, 3) := by decide +kernel
theorem d_Mo_bitsFor_105 : decode M_Mo_bitsFor.2.1 105 = .ok (.iload 5, 2) := by decide +kernel
theorem d_Mo_bitsFor_107 : decode M_Mo_bitsFor.2.1 107 = .ok (.ldc 80, 2) := by decide +kernel
theorem d_Mo_bitsFor_109 : decode M_Mo_bitsFor.2.1 109 = .ok (.ior, 1) := by decide +kernel
theorem d_Mo_bitsFor_110 : decode M_Mo_bitsFor.2.1 110 = .ok (.goto 8, 3) := by decide +kernel
theorem d_Mo_bitsFor_113 : decode M_Mo_bitsFor.2.1 113 = .ok (.iload 5, 2) := by decide +kernel
theorem d_Mo_bitsFor_115 : decode M_Mo_bitsFor.2.1 115 = .ok (.ldc 81, 2) := by decide +kernel
theorem d_Mo_bitsFor_117 : decode M_Mo_bitsFor.2.1 117 = .ok (.iadd, 1) := by decide +kernel
theorem d_Mo_bitsFor_118 : decode M_Mo_bitsFor.2.1 118 = .ok (.ireturn, 1) := by decide +kernel
theorem d_Mo_bitsOf_0 : decode M_Mo_bitsOf.2.1 0 = .ok (.dload_n 0, 1) := by decide +kernel
theorem d_Mo_bitsOf_1 : decode M_Mo_bitsOf.2.1 1 = .ok (.dstore 4, 2) := by decide +kernel
theorem d_Mo_bitsOf_3 : decode M_Mo_bitsOf.2.1 3 = .ok (.iconst 1, 1) := by decide +kernel
theorem d_Mo_bitsOf_4 : decode M_Mo_bitsOf.2.1 4 = .ok (.istore 6, 2) := by decide +kernel
theorem d_Mo_bitsOf_6 : decode M_Mo_bitsOf.2.1 6 = .ok (.iconst 0, 1) := by decide +kernel
theorem d_Mo_bitsOf_7 : decode M_Mo_bitsOf.2.1 7 = .ok (.istore 7, 2) := by decide +kernel
theorem d_Mo_bitsOf_9 : decode M_Mo_bitsOf.2.1 9 = .ok (.iload 7, 2) := by decide +kernel
theorem d_Mo_bitsOf_11 : decode M_Mo_bitsOf.2.1 11 = .ok (.iload_n 3, 1) := by decide +kernel
theorem d_Mo_bitsOf_12 : decode M_Mo_bitsOf.2.1 12 = .ok (.if_icmp .ge 17, 3) := by decide +kernel
theorem d_Mo_bitsOf_15 : decode M_Mo_bitsOf.2.1 15 = .ok (.dload 4, 2) := by decide +kernel
theorem d_Mo_bitsOf_17 : decode M_Mo_bitsOf.2.1 17 = .ok (.ldc2_w 64, 3) := by decide +kernel
theorem d_Mo_bitsOf_20 : decode M_Mo_bitsOf.2.1 20 = .ok (.dmul, 1) := by decide +kernel
theorem d_Mo_bitsOf_21 : decode M_Mo_bitsOf.2.1 21 = .ok (.dstore 4, 2) := by decide +kernel
theorem d_Mo_bitsOf_23 : decode M_Mo_bitsOf.2.1 23 = .ok (.iinc 7 1, 3) := by decide +kernel
theorem d_Mo_bitsOf_26 : decode M_Mo_bitsOf.2.1 26 = .ok (.goto (-17), 3) := by decide +kernel
theorem d_Mo_bitsOf_29 : decode M_Mo_bitsOf.2.1 29 = .ok (.dload 4, 2) := by decide +kernel
theorem d_Mo_bitsOf_31 : decode M_Mo_bitsOf.2.1 31 = .ok (.iconst 2, 1) := by decide +kernel
theorem d_Mo_bitsOf_32 : decode M_Mo_bitsOf.2.1 32 = .ok (.iload_n 2, 1) := by decide +kernel
theorem d_Mo_bitsOf_33 : decode M_Mo_bitsOf.2.1 33 = .ok (.imul, 1) := by decide +kernel
theorem d_Mo_bitsOf_34 : decode M_Mo_bitsOf.2.1 34 = .ok (.i2d, 1) := by decide +kernel
theorem d_Mo_bitsOf_35 : decode M_Mo_bitsOf.2.1 35 = .ok (.dcmp .l, 1) := by decide +kernel
theorem d_Mo_bitsOf_36 : decode M_Mo_bitsOf.2.1 36 = .ok (.ifCond .lt 17, 3) := by decide +kernel
theorem d_Mo_bitsOf_39 : decode M_Mo_bitsOf.2.1 39 = .ok (.dload 4, 2) := by decide +kernel
theorem d_Mo_bitsOf_41 : decode M_Mo_bitsOf.2.1 41 = .ok (.ldc2_w 64, 3) := by decide +kernel
theorem d_Mo_bitsOf_44 : decode M_Mo_bitsOf.2.1 44 = .ok (.ddiv, 1) := by decide +kernel
theorem d_Mo_bitsOf_45 : decode M_Mo_bitsOf.2.1 45 = .ok (.dstore 4, 2) := by decide +kernel
theorem d_Mo_bitsOf_47 : decode M_Mo_bitsOf.2.1 47 = .ok (.iinc 6 1, 3) := by decide +kernel
theorem d_Mo_bitsOf_50 : decode M_Mo_bitsOf.2.1 50 = .ok (.goto (-21), 3) := by decide +kernel
theorem d_Mo_bitsOf_53 : decode M_Mo_bitsOf.2.1 53 = .ok (.dload 4, 2) := by decide +kernel
theorem d_Mo_bitsOf_55 : decode M_Mo_bitsOf.2.1 55 = .ok (.invokestatic 66, 3) := by decide +kernel
theorem d_Mo_bitsOf_58 : decode M_Mo_bitsOf.2.1 58 = .ok (.istore 7, 2) := by decide +kernel
theorem d_Mo_bitsOf_60 : decode M_Mo_bitsOf.2.1 60 = .ok (.iload_n 2, 1) := by decide +kernel
theorem d_Mo_bitsOf_61 : decode M_Mo_bitsOf.2.1 61 = .ok (.iload 6, 2) := by decide +kernel
theorem d_Mo_bitsOf_63 : decode M_Mo_bitsOf.2.1 63 = .ok (.iconst 1, 1) := by decide +kernel
theorem d_Mo_bitsOf_64 : decode M_Mo_bitsOf.2.1 64 = .ok (.isub, 1) := by decide +kernel
theorem d_Mo_bitsOf_65 : decode M_Mo_bitsOf.2.1 65 = .ok (.imul, 1) := by decide +kernel
theorem d_Mo_bitsOf_66 : decode M_Mo_bitsOf.2.1 66 = .ok (.iload 7, 2) := by decide +kernel
theorem d_Mo_bitsOf_68 : decode M_Mo_bitsOf.2.1 68 = .ok (.iadd, 1) := by decide +kernel
theorem d_Mo_bitsOf_69 : decode M_Mo_bitsOf.2.1 69 = .ok (.ireturn, 1) := by decide +kernel
theorem d_Mo_nearest_0 : decode M_Mo_nearest.2.1 0 = .ok (.dload_n 0, 1) := by decide +kernel
theorem d_Mo_nearest_1 : decode M_Mo_nearest.2.1 1 = .ok (.d2i, 1) := by decide +kernel
theorem d_Mo_nearest_2 : decode M_Mo_nearest.2.1 2 = .ok (.istore_n 2, 1) := by decide +kernel
theorem d_Mo_nearest_3 : decode M_Mo_nearest.2.1 3 = .ok (.dload_n 0, 1) := by decide +kernel
theorem d_Mo_nearest_4 : decode M_Mo_nearest.2.1 4 = .ok (.iload_n 2, 1) := by decide +kernel
theorem d_Mo_nearest_5 : decode M_Mo_nearest.2.1 5 = .ok (.i2d, 1) := by decide +kernel
theorem d_Mo_nearest_6 : decode M_Mo_nearest.2.1 6 = .ok (.dsub, 1) := by decide +kernel
theorem d_Mo_nearest_7 : decode M_Mo_nearest.2.1 7 = .ok (.dstore_n 3, 1) := by decide +kernel
theorem d_Mo_nearest_8 : decode M_Mo_nearest.2.1 8 = .ok (.dload_n 3, 1) := by decide +kernel
theorem d_Mo_nearest_9 : decode M_Mo_nearest.2.1 9 = .ok (.ldc2_w 62, 3) := by decide +kernel
theorem d_Mo_nearest_12 : decode M_Mo_nearest.2.1 12 = .ok (.dcmp .l, 1) := by decide +kernel
theorem d_Mo_nearest_13 : decode M_Mo_nearest.2.1 13 = .ok (.ifCond .gt 18, 3) := by decide +kernel
theorem d_Mo_nearest_16 : decode M_Mo_nearest.2.1 16 = .ok (.dload_n 3, 1) := by decide +kernel
theorem d_Mo_nearest_17 : decode M_Mo_nearest.2.1 17 = .ok (.ldc2_w 62, 3) := by decide +kernel
theorem d_Mo_nearest_20 : decode M_Mo_nearest.2.1 20 = .ok (.dcmp .l, 1) := by decide +kernel
theorem d_Mo_nearest_21 : decode M_Mo_nearest.2.1 21 = .ok (.ifCond .ne 16, 3) := by decide +kernel
theorem d_Mo_nearest_24 : decode M_Mo_nearest.2.1 24 = .ok (.iload_n 2, 1) := by decide +kernel
theorem d_Mo_nearest_25 : decode M_Mo_nearest.2.1 25 = .ok (.iconst 1, 1) := by decide +kernel
theorem d_Mo_nearest_26 : decode M_Mo_nearest.2.1 26 = .ok (.iand, 1) := by decide +kernel
theorem d_Mo_nearest_27 : decode M_Mo_nearest.2.1 27 = .ok (.iconst 1, 1) := by decide +kernel
theorem d_Mo_nearest_28 : decode M_Mo_nearest.2.1 28 = .ok (.if_icmp .ne 9, 3) := by decide +kernel
theorem d_Mo_nearest_31 : decode M_Mo_nearest.2.1 31 = .ok (.iload_n 2, 1) := by decide +kernel
theorem d_Mo_nearest_32 : decode M_Mo_nearest.2.1 32 = .ok (.iconst 1, 1) := by decide +kernel
theorem d_Mo_nearest_33 : decode M_Mo_nearest.2.1 33 = .ok (.iadd, 1) := by decide +kernel
theorem d_Mo_nearest_34 : decode M_Mo_nearest.2.1 34 = .ok (.goto 4, 3) := by decide +kernel
theorem d_Mo_nearest_37 : decode M_Mo_nearest.2.1 37 = .ok (.iload_n 2, 1) := by decide +kernel
theorem d_Mo_nearest_38 : decode M_Mo_nearest.2.1 38 = .ok (.ireturn, 1) := by decide +kernel
theorem d_Mo_told_0 : decode M_Mo_told.2.1 0 = .ok (.iload_n 0, 1) := by decide +kernel
theorem d_Mo_told_1 : decode M_Mo_told.2.1 1 = .ok (.iconst 2, 1) := by decide +kernel
theorem d_Mo_told_2 : decode M_Mo_told.2.1 2 = .ok (.if_icmp .ne 6, 3) := by decide +kernel
theorem d_Mo_told_5 : decode M_Mo_told.2.1 5 = .ok (.iload_n 1, 1) := by decide +kernel
theorem d_Mo_told_6 : decode M_Mo_told.2.1 6 = .ok (.i2d, 1) := by decide +kernel
theorem d_Mo_told_7 : decode M_Mo_told.2.1 7 = .ok (.dreturn, 1) := by decide +kernel
theorem d_Mo_told_8 : decode M_Mo_told.2.1 8 = .ok (.iload_n 0, 1) := by decide +kernel
theorem d_Mo_told_9 : decode M_Mo_told.2.1 9 = .ok (.iconst 1, 1) := by decide +kernel
theorem d_Mo_told_10 : decode M_Mo_told.2.1 10 = .ok (.if_icmp .ne 28, 3) := by decide +kernel
theorem d_Mo_told_13 : decode M_Mo_told.2.1 13 = .ok (.ldc 73, 2) := by decide +kernel
theorem d_Mo_told_15 : decode M_Mo_told.2.1 15 = .ok (.sipush 149, 3) := by decide +kernel
theorem d_Mo_told_18 : decode M_Mo_told.2.1 18 = .ok (.iload_n 1, 1) := by decide +kernel
theorem d_Mo_told_19 : decode M_Mo_told.2.1 19 = .ok (.ldc 82, 2) := by decide +kernel
theorem d_Mo_told_21 : decode M_Mo_told.2.1 21 = .ok (.iand, 1) := by decide +kernel
theorem d_Mo_told_22 : decode M_Mo_told.2.1 22 = .ok (.invokestatic 83, 3) := by decide +kernel
theorem d_Mo_told_25 : decode M_Mo_told.2.1 25 = .ok (.dstore_n 2, 1) := by decide +kernel
theorem d_Mo_told_26 : decode M_Mo_told.2.1 26 = .ok (.iload_n 1, 1) := by decide +kernel
theorem d_Mo_told_27 : decode M_Mo_told.2.1 27 = .ok (.ifCond .ge 9, 3) := by decide +kernel
theorem d_Mo_told_30 : decode M_Mo_told.2.1 30 = .ok (.dconst 0, 1) := by decide +kernel
theorem d_Mo_told_31 : decode M_Mo_told.2.1 31 = .ok (.dload_n 2, 1) := by decide +kernel
theorem d_Mo_told_32 : decode M_Mo_told.2.1 32 = .ok (.dsub, 1) := by decide +kernel
theorem d_Mo_told_33 : decode M_Mo_told.2.1 33 = .ok (.goto 4, 3) := by decide +kernel
theorem d_Mo_told_36 : decode M_Mo_told.2.1 36 = .ok (.dload_n 2, 1) := by decide +kernel
theorem d_Mo_told_37 : decode M_Mo_told.2.1 37 = .ok (.dreturn, 1) := by decide +kernel
theorem d_Mo_told_38 : decode M_Mo_told.2.1 38 = .ok (.sipush 1024, 3) := by decide +kernel
theorem d_Mo_told_41 : decode M_Mo_told.2.1 41 = .ok (.bipush 24, 2) := by decide +kernel
theorem d_Mo_told_43 : decode M_Mo_told.2.1 43 = .ok (.iload_n 1, 1) := by decide +kernel
theorem d_Mo_told_44 : decode M_Mo_told.2.1 44 = .ok (.sipush 32767, 3) := by decide +kernel
theorem d_Mo_told_47 : decode M_Mo_told.2.1 47 = .ok (.iand, 1) := by decide +kernel
theorem d_Mo_told_48 : decode M_Mo_told.2.1 48 = .ok (.invokestatic 83, 3) := by decide +kernel
theorem d_Mo_told_51 : decode M_Mo_told.2.1 51 = .ok (.dstore_n 2, 1) := by decide +kernel
theorem d_Mo_told_52 : decode M_Mo_told.2.1 52 = .ok (.iload_n 1, 1) := by decide +kernel
theorem d_Mo_told_53 : decode M_Mo_told.2.1 53 = .ok (.sipush 32767, 3) := by decide +kernel
theorem d_Mo_told_56 : decode M_Mo_told.2.1 56 = .ok (.if_icmp .le 9, 3) := by decide +kernel
theorem d_Mo_told_59 : decode M_Mo_told.2.1 59 = .ok (.dconst 0, 1) := by decide +kernel
theorem d_Mo_told_60 : decode M_Mo_told.2.1 60 = .ok (.dload_n 2, 1) := by decide +kernel
theorem d_Mo_told_61 : decode M_Mo_told.2.1 61 = .ok (.dsub, 1) := by decide +kernel
theorem d_Mo_told_62 : decode M_Mo_told.2.1 62 = .ok (.goto 4, 3) := by decide +kernel
theorem d_Mo_told_65 : decode M_Mo_told.2.1 65 = .ok (.dload_n 2, 1) := by decide +kernel
theorem d_Mo_told_66 : decode M_Mo_told.2.1 66 = .ok (.dreturn, 1) := by decide +kernel
theorem d_Mo_valueOf_0 : decode M_Mo_valueOf.2.1 0 = .ok (.iload_n 2, 1) := by decide +kernel
theorem d_Mo_valueOf_1 : decode M_Mo_valueOf.2.1 1 = .ok (.iload_n 0, 1) := by decide +kernel
theorem d_Mo_valueOf_2 : decode M_Mo_valueOf.2.1 2 = .ok (.idiv, 1) := by decide +kernel
theorem d_Mo_valueOf_3 : decode M_Mo_valueOf.2.1 3 = .ok (.istore_n 3, 1) := by decide +kernel
theorem d_Mo_valueOf_4 : decode M_Mo_valueOf.2.1 4 = .ok (.iload_n 2, 1) := by decide +kernel
theorem d_Mo_valueOf_5 : decode M_Mo_valueOf.2.1 5 = .ok (.iload_n 0, 1) := by decide +kernel
theorem d_Mo_valueOf_6 : decode M_Mo_valueOf.2.1 6 = .ok (.irem, 1) := by decide +kernel
theorem d_Mo_valueOf_7 : decode M_Mo_valueOf.2.1 7 = .ok (.istore 4, 2) := by decide +kernel
theorem d_Mo_valueOf_9 : decode M_Mo_valueOf.2.1 9 = .ok (.iload_n 3, 1) := by decide +kernel
theorem d_Mo_valueOf_10 : decode M_Mo_valueOf.2.1 10 = .ok (.ifCond .ne 9, 3) := by decide +kernel
theorem d_Mo_valueOf_13 : decode M_Mo_valueOf.2.1 13 = .ok (.iload 4, 2) := by decide +kernel
theorem d_Mo_valueOf_15 : decode M_Mo_valueOf.2.1 15 = .ok (.i2d, 1) := by decide +kernel
theorem d_Mo_valueOf_16 : decode M_Mo_valueOf.2.1 16 = .ok (.goto 8, 3) := by decide +kernel
theorem d_Mo_valueOf_19 : decode M_Mo_valueOf.2.1 19 = .ok (.iload_n 0, 1) := by decide +kernel
theorem d_Mo_valueOf_20 : decode M_Mo_valueOf.2.1 20 = .ok (.iload 4, 2) := by decide +kernel
theorem d_Mo_valueOf_22 : decode M_Mo_valueOf.2.1 22 = .ok (.iadd, 1) := by decide +kernel
theorem d_Mo_valueOf_23 : decode M_Mo_valueOf.2.1 23 = .ok (.i2d, 1) := by decide +kernel
theorem d_Mo_valueOf_24 : decode M_Mo_valueOf.2.1 24 = .ok (.dstore 5, 2) := by decide +kernel
theorem d_Mo_valueOf_26 : decode M_Mo_valueOf.2.1 26 = .ok (.iload_n 3, 1) := by decide +kernel
theorem d_Mo_valueOf_27 : decode M_Mo_valueOf.2.1 27 = .ok (.ifCond .ne 7, 3) := by decide +kernel
theorem d_Mo_valueOf_30 : decode M_Mo_valueOf.2.1 30 = .ok (.iconst 1, 1) := by decide +kernel
theorem d_Mo_valueOf_31 : decode M_Mo_valueOf.2.1 31 = .ok (.goto 4, 3) := by decide +kernel
theorem d_Mo_valueOf_34 : decode M_Mo_valueOf.2.1 34 = .ok (.iload_n 3, 1) := by decide +kernel
theorem d_Mo_valueOf_35 : decode M_Mo_valueOf.2.1 35 = .ok (.istore 7, 2) := by decide +kernel
theorem d_Mo_valueOf_37 : decode M_Mo_valueOf.2.1 37 = .ok (.iload 7, 2) := by decide +kernel
theorem d_Mo_valueOf_39 : decode M_Mo_valueOf.2.1 39 = .ok (.iconst 1, 1) := by decide +kernel
theorem d_Mo_valueOf_40 : decode M_Mo_valueOf.2.1 40 = .ok (.if_icmp .le 17, 3) := by decide +kernel
theorem d_Mo_valueOf_43 : decode M_Mo_valueOf.2.1 43 = .ok (.dload 5, 2) := by decide +kernel
theorem d_Mo_valueOf_45 : decode M_Mo_valueOf.2.1 45 = .ok (.ldc2_w 64, 3) := by decide +kernel
theorem d_Mo_valueOf_48 : decode M_Mo_valueOf.2.1 48 = .ok (.dmul, 1) := by decide +kernel
theorem d_Mo_valueOf_49 : decode M_Mo_valueOf.2.1 49 = .ok (.dstore 5, 2) := by decide +kernel
theorem d_Mo_valueOf_51 : decode M_Mo_valueOf.2.1 51 = .ok (.iinc 7 (-1), 3) := by decide +kernel
theorem d_Mo_valueOf_54 : decode M_Mo_valueOf.2.1 54 = .ok (.goto (-17), 3) := by decide +kernel
theorem d_Mo_valueOf_57 : decode M_Mo_valueOf.2.1 57 = .ok (.iconst 0, 1) := by decide +kernel
theorem d_Mo_valueOf_58 : decode M_Mo_valueOf.2.1 58 = .ok (.istore 7, 2) := by decide +kernel
theorem d_Mo_valueOf_60 : decode M_Mo_valueOf.2.1 60 = .ok (.iload 7, 2) := by decide +kernel
theorem d_Mo_valueOf_62 : decode M_Mo_valueOf.2.1 62 = .ok (.iload_n 1, 1) := by decide +kernel
theorem d_Mo_valueOf_63 : decode M_Mo_valueOf.2.1 63 = .ok (.if_icmp .ge 17, 3) := by decide +kernel
theorem d_Mo_valueOf_66 : decode M_Mo_valueOf.2.1 66 = .ok (.dload 5, 2) := by decide +kernel
theorem d_Mo_valueOf_68 : decode M_Mo_valueOf.2.1 68 = .ok (.ldc2_w 64, 3) := by decide +kernel
theorem d_Mo_valueOf_71 : decode M_Mo_valueOf.2.1 71 = .ok (.ddiv, 1) := by decide +kernel
theorem d_Mo_valueOf_72 : decode M_Mo_valueOf.2.1 72 = .ok (.dstore 5, 2) := by decide +kernel
theorem d_Mo_valueOf_74 : decode M_Mo_valueOf.2.1 74 = .ok (.iinc 7 1, 3) := by decide +kernel
theorem d_Mo_valueOf_77 : decode M_Mo_valueOf.2.1 77 = .ok (.goto (-17), 3) := by decide +kernel
theorem d_Mo_valueOf_80 : decode M_Mo_valueOf.2.1 80 = .ok (.dload 5, 2) := by decide +kernel
theorem d_Mo_valueOf_82 : decode M_Mo_valueOf.2.1 82 = .ok (.dreturn, 1) := by decide +kernel
theorem d_Mo_get_0 : decode M_Mo_get.2.1 0 = .ok (.aload_n 0, 1) := by decide +kernel
theorem d_Mo_get_1 : decode M_Mo_get.2.1 1 = .ok (.iload_n 1, 1) := by decide +kernel
theorem d_Mo_get_2 : decode M_Mo_get.2.1 2 = .ok (.iload_n 2, 1) := by decide +kernel
theorem d_Mo_get_3 : decode M_Mo_get.2.1 3 = .ok (.iload_n 3, 1) := by decide +kernel
theorem d_Mo_get_4 : decode M_Mo_get.2.1 4 = .ok (.invokevirtual 95, 3) := by decide +kernel
theorem d_Mo_get_7 : decode M_Mo_get.2.1 7 = .ok (.istore 4, 2) := by decide +kernel
theorem d_Mo_get_9 : decode M_Mo_get.2.1 9 = .ok (.aload_n 0, 1) := by decide +kernel
theorem d_Mo_get_10 : decode M_Mo_get.2.1 10 = .ok (.iload 4, 2) := by decide +kernel
theorem d_Mo_get_12 : decode M_Mo_get.2.1 12 = .ok (.ifCond .eq 7, 3) := by decide +kernel
theorem d_Mo_get_15 : decode M_Mo_get.2.1 15 = .ok (.iconst 0, 1) := by decide +kernel
theorem d_Mo_get_16 : decode M_Mo_get.2.1 16 = .ok (.goto 4, 3) := by decide +kernel
theorem d_Mo_get_19 : decode M_Mo_get.2.1 19 = .ok (.iconst 1, 1) := by decide +kernel
theorem d_Mo_get_20 : decode M_Mo_get.2.1 20 = .ok (.putfield 59, 3) := by decide +kernel
theorem d_Mo_get_23 : decode M_Mo_get.2.1 23 = .ok (.iload 4, 2) := by decide +kernel
theorem d_Mo_get_25 : decode M_Mo_get.2.1 25 = .ok (.ifCond .eq 31, 3) := by decide +kernel
theorem d_Mo_get_28 : decode M_Mo_get.2.1 28 = .ok (.aload_n 0, 1) := by decide +kernel
theorem d_Mo_get_29 : decode M_Mo_get.2.1 29 = .ok (.getfield 26, 3) := by decide +kernel
theorem d_Mo_get_32 : decode M_Mo_get.2.1 32 = .ok (.iload_n 1, 1) := by decide +kernel
theorem d_Mo_get_33 : decode M_Mo_get.2.1 33 = .ok (.iaload, 1) := by decide +kernel
theorem d_Mo_get_34 : decode M_Mo_get.2.1 34 = .ok (.aload_n 0, 1) := by decide +kernel
theorem d_Mo_get_35 : decode M_Mo_get.2.1 35 = .ok (.getfield 32, 3) := by decide +kernel
theorem d_Mo_get_38 : decode M_Mo_get.2.1 38 = .ok (.bipush 64, 2) := by decide +kernel
theorem d_Mo_get_40 : decode M_Mo_get.2.1 40 = .ok (.iload_n 1, 1) := by decide +kernel
theorem d_Mo_get_41 : decode M_Mo_get.2.1 41 = .ok (.imul, 1) := by decide +kernel
theorem d_Mo_get_42 : decode M_Mo_get.2.1 42 = .ok (.bipush 8, 2) := by decide +kernel
theorem d_Mo_get_44 : decode M_Mo_get.2.1 44 = .ok (.iload_n 3, 1) := by decide +kernel
theorem d_Mo_get_45 : decode M_Mo_get.2.1 45 = .ok (.imul, 1) := by decide +kernel
theorem d_Mo_get_46 : decode M_Mo_get.2.1 46 = .ok (.iadd, 1) := by decide +kernel
theorem d_Mo_get_47 : decode M_Mo_get.2.1 47 = .ok (.iload_n 2, 1) := by decide +kernel
theorem d_Mo_get_48 : decode M_Mo_get.2.1 48 = .ok (.iadd, 1) := by decide +kernel
theorem d_Mo_get_49 : decode M_Mo_get.2.1 49 = .ok (.iaload, 1) := by decide +kernel
theorem d_Mo_get_50 : decode M_Mo_get.2.1 50 = .ok (.invokestatic 106, 3) := by decide +kernel
theorem d_Mo_get_53 : decode M_Mo_get.2.1 53 = .ok (.goto 4, 3) := by decide +kernel
theorem d_Mo_get_56 : decode M_Mo_get.2.1 56 = .ok (.dconst 0, 1) := by decide +kernel
theorem d_Mo_get_57 : decode M_Mo_get.2.1 57 = .ok (.dreturn, 1) := by decide +kernel
theorem d_Mo_bits_0 : decode M_Mo_bits.2.1 0 = .ok (.aload_n 0, 1) := by decide +kernel
theorem d_Mo_bits_1 : decode M_Mo_bits.2.1 1 = .ok (.iload_n 1, 1) := by decide +kernel
theorem d_Mo_bits_2 : decode M_Mo_bits.2.1 2 = .ok (.iload_n 2, 1) := by decide +kernel
theorem d_Mo_bits_3 : decode M_Mo_bits.2.1 3 = .ok (.iload_n 3, 1) := by decide +kernel
theorem d_Mo_bits_4 : decode M_Mo_bits.2.1 4 = .ok (.invokevirtual 95, 3) := by decide +kernel
theorem d_Mo_bits_7 : decode M_Mo_bits.2.1 7 = .ok (.istore 4, 2) := by decide +kernel
theorem d_Mo_bits_9 : decode M_Mo_bits.2.1 9 = .ok (.aload_n 0, 1) := by decide +kernel
theorem d_Mo_bits_10 : decode M_Mo_bits.2.1 10 = .ok (.iload 4, 2) := by decide +kernel
theorem d_Mo_bits_12 : decode M_Mo_bits.2.1 12 = .ok (.ifCond .eq 7, 3) := by decide +kernel
theorem d_Mo_bits_15 : decode M_Mo_bits.2.1 15 = .ok (.iconst 0, 1) := by decide +kernel
theorem d_Mo_bits_16 : decode M_Mo_bits.2.1 16 = .ok (.goto 4, 3) := by decide +kernel
theorem d_Mo_bits_19 : decode M_Mo_bits.2.1 19 = .ok (.iconst 1, 1) := by decide +kernel
theorem d_Mo_bits_20 : decode M_Mo_bits.2.1 20 = .ok (.putfield 59, 3) := by decide +kernel
theorem d_Mo_bits_23 : decode M_Mo_bits.2.1 23 = .ok (.iload 4, 2) := by decide +kernel
theorem d_Mo_bits_25 : decode M_Mo_bits.2.1 25 = .ok (.ifCond .eq 22, 3) := by decide +kernel
theorem d_Mo_bits_28 : decode M_Mo_bits.2.1 28 = .ok (.aload_n 0, 1) := by decide +kernel
theorem d_Mo_bits_29 : decode M_Mo_bits.2.1 29 = .ok (.getfield 32, 3) := by decide +kernel
theorem d_Mo_bits_32 : decode M_Mo_bits.2.1 32 = .ok (.bipush 64, 2) := by decide +kernel
theorem d_Mo_bits_34 : decode M_Mo_bits.2.1 34 = .ok (.iload_n 1, 1) := by decide +kernel
theorem d_Mo_bits_35 : decode M_Mo_bits.2.1 35 = .ok (.imul, 1) := by decide +kernel
theorem d_Mo_bits_36 : decode M_Mo_bits.2.1 36 = .ok (.bipush 8, 2) := by decide +kernel
theorem d_Mo_bits_38 : decode M_Mo_bits.2.1 38 = .ok (.iload_n 3, 1) := by decide +kernel
theorem d_Mo_bits_39 : decode M_Mo_bits.2.1 39 = .ok (.imul, 1) := by decide +kernel
theorem d_Mo_bits_40 : decode M_Mo_bits.2.1 40 = .ok (.iadd, 1) := by decide +kernel
theorem d_Mo_bits_41 : decode M_Mo_bits.2.1 41 = .ok (.iload_n 2, 1) := by decide +kernel
theorem d_Mo_bits_42 : decode M_Mo_bits.2.1 42 = .ok (.iadd, 1) := by decide +kernel
theorem d_Mo_bits_43 : decode M_Mo_bits.2.1 43 = .ok (.iaload, 1) := by decide +kernel
theorem d_Mo_bits_44 : decode M_Mo_bits.2.1 44 = .ok (.goto 4, 3) := by decide +kernel
theorem d_Mo_bits_47 : decode M_Mo_bits.2.1 47 = .ok (.iconst 0, 1) := by decide +kernel
theorem d_Mo_bits_48 : decode M_Mo_bits.2.1 48 = .ok (.ireturn, 1) := by decide +kernel
theorem d_Mo_spread_0 : decode M_Mo_spread.2.1 0 = .ok (.aload_n 0, 1) := by decide +kernel
theorem d_Mo_spread_1 : decode M_Mo_spread.2.1 1 = .ok (.dload_n 2, 1) := by decide +kernel
theorem d_Mo_spread_2 : decode M_Mo_spread.2.1 2 = .ok (.ldc2_w 98, 3) := by decide +kernel
theorem d_Mo_spread_5 : decode M_Mo_spread.2.1 5 = .ok (.dcmp .g, 1) := by decide +kernel
theorem d_Mo_spread_6 : decode M_Mo_spread.2.1 6 = .ok (.ifCond .gt 11, 3) := by decide +kernel
theorem d_Mo_spread_9 : decode M_Mo_spread.2.1 9 = .ok (.dload_n 2, 1) := by decide +kernel
theorem d_Mo_spread_10 : decode M_Mo_spread.2.1 10 = .ok (.ldc2_w 100, 3) := by decide +kernel
theorem d_Mo_spread_13 : decode M_Mo_spread.2.1 13 = .ok (.dcmp .l, 1) := by decide +kernel
theorem d_Mo_spread_14 : decode M_Mo_spread.2.1 14 = .ok (.ifCond .ge 7, 3) := by decide +kernel
theorem d_Mo_spread_17 : decode M_Mo_spread.2.1 17 = .ok (.iconst 1, 1) := by decide +kernel
theorem d_Mo_spread_18 : decode M_Mo_spread.2.1 18 = .ok (.goto 22, 3) := by decide +kernel
theorem d_Mo_spread_21 : decode M_Mo_spread.2.1 21 = .ok (.iload_n 1, 1) := by decide +kernel
theorem d_Mo_spread_22 : decode M_Mo_spread.2.1 22 = .ok (.iconst 0, 1) := by decide +kernel
theorem d_Mo_spread_23 : decode M_Mo_spread.2.1 23 = .ok (.aload_n 0, 1) := by decide +kernel
theorem d_Mo_spread_24 : decode M_Mo_spread.2.1 24 = .ok (.getfield 16, 3) := by decide +kernel
theorem d_Mo_spread_27 : decode M_Mo_spread.2.1 27 = .ok (.iconst 1, 1) := by decide +kernel
theorem d_Mo_spread_28 : decode M_Mo_spread.2.1 28 = .ok (.isub, 1) := by decide +kernel
theorem d_Mo_spread_29 : decode M_Mo_spread.2.1 29 = .ok (.invokestatic 87, 3) := by decide +kernel
theorem d_Mo_spread_32 : decode M_Mo_spread.2.1 32 = .ok (.ifCond .ne 7, 3) := by decide +kernel
theorem d_Mo_spread_35 : decode M_Mo_spread.2.1 35 = .ok (.iconst 2, 1) := by decide +kernel
theorem d_Mo_spread_36 : decode M_Mo_spread.2.1 36 = .ok (.goto 4, 3) := by decide +kernel
theorem d_Mo_spread_39 : decode M_Mo_spread.2.1 39 = .ok (.iconst 0, 1) := by decide +kernel
theorem d_Mo_spread_40 : decode M_Mo_spread.2.1 40 = .ok (.putfield 59, 3) := by decide +kernel
theorem d_Mo_spread_43 : decode M_Mo_spread.2.1 43 = .ok (.aload_n 0, 1) := by decide +kernel
theorem d_Mo_spread_44 : decode M_Mo_spread.2.1 44 = .ok (.getfield 59, 3) := by decide +kernel
theorem d_Mo_spread_47 : decode M_Mo_spread.2.1 47 = .ok (.ifCond .le 5, 3) := by decide +kernel
theorem d_Mo_spread_50 : decode M_Mo_spread.2.1 50 = .ok (.dconst 0, 1) := by decide +kernel
theorem d_Mo_spread_51 : decode M_Mo_spread.2.1 51 = .ok (.dreturn, 1) := by decide +kernel
theorem d_Mo_spread_52 : decode M_Mo_spread.2.1 52 = .ok (.dconst 0, 1) := by decide +kernel
theorem d_Mo_spread_53 : decode M_Mo_spread.2.1 53 = .ok (.dstore 4, 2) := by decide +kernel
theorem d_Mo_spread_55 : decode M_Mo_spread.2.1 55 = .ok (.iconst 0, 1) := by decide +kernel
theorem d_Mo_spread_56 : decode M_Mo_spread.2.1 56 = .ok (.istore 6, 2) := by decide +kernel
theorem d_Mo_spread_58 : decode M_Mo_spread.2.1 58 = .ok (.iload 6, 2) := by decide +kernel
theorem d_Mo_spread_60 : decode M_Mo_spread.2.1 60 = .ok (.aload_n 0, 1) := by decide +kernel
theorem d_Mo_spread_61 : decode M_Mo_spread.2.1 61 = .ok (.getfield 13, 3) := by decide +kernel
theorem d_Mo_spread_64 : decode M_Mo_spread.2.1 64 = .ok (.if_icmp .ge 103, 3) := by decide +kernel
theorem d_Mo_spread_67 : decode M_Mo_spread.2.1 67 = .ok (.iconst 0, 1) := by decide +kernel
theorem d_Mo_spread_68 : decode M_Mo_spread.2.1 68 = .ok (.istore 7, 2) := by decide +kernel
theorem d_Mo_spread_70 : decode M_Mo_spread.2.1 70 = .ok (.iload 7, 2) := by decide +kernel
theorem d_Mo_spread_72 : decode M_Mo_spread.2.1 72 = .ok (.aload_n 0, 1) := by decide +kernel
theorem d_Mo_spread_73 : decode M_Mo_spread.2.1 73 = .ok (.getfield 7, 3) := by decide +kernel
theorem d_Mo_spread_76 : decode M_Mo_spread.2.1 76 = .ok (.if_icmp .ge 77, 3) := by decide +kernel
theorem d_Mo_spread_79 : decode M_Mo_spread.2.1 79 = .ok (.aload_n 0, 1) := by decide +kernel
theorem d_Mo_spread_80 : decode M_Mo_spread.2.1 80 = .ok (.getfield 26, 3) := by decide +kernel
theorem d_Mo_spread_83 : decode M_Mo_spread.2.1 83 = .ok (.iload_n 1, 1) := by decide +kernel
theorem d_Mo_spread_84 : decode M_Mo_spread.2.1 84 = .ok (.iaload, 1) := by decide +kernel
theorem d_Mo_spread_85 : decode M_Mo_spread.2.1 85 = .ok (.aload_n 0, 1) := by decide +kernel
theorem d_Mo_spread_86 : decode M_Mo_spread.2.1 86 = .ok (.getfield 32, 3) := by decide +kernel
theorem d_Mo_spread_89 : decode M_Mo_spread.2.1 89 = .ok (.bipush 64, 2) := by decide +kernel
theorem d_Mo_spread_91 : decode M_Mo_spread.2.1 91 = .ok (.iload_n 1, 1) := by decide +kernel
theorem d_Mo_spread_92 : decode M_Mo_spread.2.1 92 = .ok (.imul, 1) := by decide +kernel
theorem d_Mo_spread_93 : decode M_Mo_spread.2.1 93 = .ok (.bipush 8, 2) := by decide +kernel
theorem d_Mo_spread_95 : decode M_Mo_spread.2.1 95 = .ok (.iload 6, 2) := by decide +kernel
theorem d_Mo_spread_97 : decode M_Mo_spread.2.1 97 = .ok (.imul, 1) := by decide +kernel
theorem d_Mo_spread_98 : decode M_Mo_spread.2.1 98 = .ok (.iadd, 1) := by decide +kernel
theorem d_Mo_spread_99 : decode M_Mo_spread.2.1 99 = .ok (.iload 7, 2) := by decide +kernel
theorem d_Mo_spread_101 : decode M_Mo_spread.2.1 101 = .ok (.iadd, 1) := by decide +kernel
theorem d_Mo_spread_102 : decode M_Mo_spread.2.1 102 = .ok (.iaload, 1) := by decide +kernel
theorem d_Mo_spread_103 : decode M_Mo_spread.2.1 103 = .ok (.invokestatic 106, 3) := by decide +kernel
theorem d_Mo_spread_106 : decode M_Mo_spread.2.1 106 = .ok (.dload_n 2, 1) := by decide +kernel
theorem d_Mo_spread_107 : decode M_Mo_spread.2.1 107 = .ok (.dsub, 1) := by decide +kernel
theorem d_Mo_spread_108 : decode M_Mo_spread.2.1 108 = .ok (.dstore 8, 2) := by decide +kernel
theorem d_Mo_spread_110 : decode M_Mo_spread.2.1 110 = .ok (.dload 8, 2) := by decide +kernel
theorem d_Mo_spread_112 : decode M_Mo_spread.2.1 112 = .ok (.dconst 0, 1) := by decide +kernel
theorem d_Mo_spread_113 : decode M_Mo_spread.2.1 113 = .ok (.dcmp .g, 1) := by decide +kernel
theorem d_Mo_spread_114 : decode M_Mo_spread.2.1 114 = .ok (.ifCond .ge 9, 3) := by decide +kernel
theorem d_Mo_spread_117 : decode M_Mo_spread.2.1 117 = .ok (.dload 8, 2) := by decide +kernel
theorem d_Mo_spread_119 : decode M_Mo_spread.2.1 119 = .ok (.dneg, 1) := by decide +kernel
theorem d_Mo_spread_120 : decode M_Mo_spread.2.1 120 = .ok (.goto 5, 3) := by decide +kernel
theorem d_Mo_spread_123 : decode M_Mo_spread.2.1 123 = .ok (.dload 8, 2) := by decide +kernel
theorem d_Mo_spread_125 : decode M_Mo_spread.2.1 125 = .ok (.dstore 10, 2) := by decide +kernel
theorem d_Mo_spread_127 : decode M_Mo_spread.2.1 127 = .ok (.dload 10, 2) := by decide +kernel
theorem d_Mo_spread_129 : decode M_Mo_spread.2.1 129 = .ok (.dload 4, 2) := by decide +kernel
theorem d_Mo_spread_131 : decode M_Mo_spread.2.1 131 = .ok (.dcmp .l, 1) := by decide +kernel
theorem d_Mo_spread_132 : decode M_Mo_spread.2.1 132 = .ok (.ifCond .le 7, 3) := by decide +kernel
theorem d_Mo_spread_135 : decode M_Mo_spread.2.1 135 = .ok (.dload 10, 2) := by decide +kernel
theorem d_Mo_spread_137 : decode M_Mo_spread.2.1 137 = .ok (.dstore 4, 2) := by decide +kernel
theorem d_Mo_spread_139 : decode M_Mo_spread.2.1 139 = .ok (.iload 7, 2) := by decide +kernel
theorem d_Mo_spread_141 : decode M_Mo_spread.2.1 141 = .ok (.aload_n 0, 1) := by decide +kernel
theorem d_Mo_spread_142 : decode M_Mo_spread.2.1 142 = .ok (.getfield 29, 3) := by decide +kernel
theorem d_Mo_spread_145 : decode M_Mo_spread.2.1 145 = .ok (.iload_n 1, 1) := by decide +kernel
theorem d_Mo_spread_146 : decode M_Mo_spread.2.1 146 = .ok (.iaload, 1) := by decide +kernel
theorem d_Mo_spread_147 : decode M_Mo_spread.2.1 147 = .ok (.iadd, 1) := by decide +kernel
theorem d_Mo_spread_148 : decode M_Mo_spread.2.1 148 = .ok (.istore 7, 2) := by decide +kernel
theorem d_Mo_spread_150 : decode M_Mo_spread.2.1 150 = .ok (.goto (-80), 3) := by decide +kernel
theorem d_Mo_spread_153 : decode M_Mo_spread.2.1 153 = .ok (.iload 6, 2) := by decide +kernel
theorem d_Mo_spread_155 : decode M_Mo_spread.2.1 155 = .ok (.aload_n 0, 1) := by decide +kernel
theorem d_Mo_spread_156 : decode M_Mo_spread.2.1 156 = .ok (.getfield 29, 3) := by decide +kernel
theorem d_Mo_spread_159 : decode M_Mo_spread.2.1 159 = .ok (.iload_n 1, 1) := by decide +kernel
theorem d_Mo_spread_160 : decode M_Mo_spread.2.1 160 = .ok (.iaload, 1) := by decide +kernel
theorem d_Mo_spread_161 : decode M_Mo_spread.2.1 161 = .ok (.iadd, 1) := by decide +kernel
theorem d_Mo_spread_162 : decode M_Mo_spread.2.1 162 = .ok (.istore 6, 2) := by decide +kernel
theorem d_Mo_spread_164 : decode M_Mo_spread.2.1 164 = .ok (.goto (-106), 3) := by decide +kernel
theorem d_Mo_spread_167 : decode M_Mo_spread.2.1 167 = .ok (.dload 4, 2) := by decide +kernel
theorem d_Mo_spread_169 : decode M_Mo_spread.2.1 169 = .ok (.dreturn, 1) := by decide +kernel
theorem d_Mo_encode_0 : decode M_Mo_encode.2.1 0 = .ok (.iload_n 1, 1) := by decide +kernel
theorem d_Mo_encode_1 : decode M_Mo_encode.2.1 1 = .ok (.iconst 0, 1) := by decide +kernel
theorem d_Mo_encode_2 : decode M_Mo_encode.2.1 2 = .ok (.iconst 3, 1) := by decide +kernel
theorem d_Mo_encode_3 : decode M_Mo_encode.2.1 3 = .ok (.invokestatic 87, 3) := by decide +kernel
theorem d_Mo_encode_6 : decode M_Mo_encode.2.1 6 = .ok (.ifCond .ne 9, 3) := by decide +kernel
theorem d_Mo_encode_9 : decode M_Mo_encode.2.1 9 = .ok (.aload_n 0, 1) := by decide +kernel
theorem d_Mo_encode_10 : decode M_Mo_encode.2.1 10 = .ok (.iconst 1, 1) := by decide +kernel
theorem d_Mo_encode_11 : decode M_Mo_encode.2.1 11 = .ok (.invokevirtual 91, 3) := by decide +kernel
theorem d_Mo_encode_14 : decode M_Mo_encode.2.1 14 = .ok (.ireturn, 1) := by decide +kernel
theorem d_Mo_encode_15 : decode M_Mo_encode.2.1 15 = .ok (.aload_n 0, 1) := by decide +kernel
theorem d_Mo_encode_16 : decode M_Mo_encode.2.1 16 = .ok (.getfield 16, 3) := by decide +kernel
theorem d_Mo_encode_19 : decode M_Mo_encode.2.1 19 = .ok (.ifCond .ne 9, 3) := by decide +kernel
theorem d_Mo_encode_22 : decode M_Mo_encode.2.1 22 = .ok (.aload_n 0, 1) := by decide +kernel
theorem d_Mo_encode_23 : decode M_Mo_encode.2.1 23 = .ok (.iconst 2, 1) := by decide +kernel
theorem d_Mo_encode_24 : decode M_Mo_encode.2.1 24 = .ok (.invokevirtual 91, 3) := by decide +kernel
theorem d_Mo_encode_27 : decode M_Mo_encode.2.1 27 = .ok (.ireturn, 1) := by decide +kernel
theorem d_Mo_encode_28 : decode M_Mo_encode.2.1 28 = .ok (.aload_n 0, 1) := by decide +kernel
theorem d_Mo_encode_29 : decode M_Mo_encode.2.1 29 = .ok (.iconst 0, 1) := by decide +kernel
theorem d_Mo_encode_30 : decode M_Mo_encode.2.1 30 = .ok (.putfield 59, 3) := by decide +kernel
theorem d_Mo_encode_33 : decode M_Mo_encode.2.1 33 = .ok (.aload_n 0, 1) := by decide +kernel
theorem d_Mo_encode_34 : decode M_Mo_encode.2.1 34 = .ok (.iconst 0, 1) := by decide +kernel
theorem d_Mo_encode_35 : decode M_Mo_encode.2.1 35 = .ok (.putfield 158, 3) := by decide +kernel
theorem d_Mo_encode_38 : decode M_Mo_encode.2.1 38 = .ok (.aload_n 0, 1) := by decide +kernel
theorem d_Mo_encode_39 : decode M_Mo_encode.2.1 39 = .ok (.bipush 118, 2) := by decide +kernel
theorem d_Mo_encode_41 : decode M_Mo_encode.2.1 41 = .ok (.invokevirtual 170, 3) := by decide +kernel
theorem d_Mo_encode_44 : decode M_Mo_encode.2.1 44 = .ok (.aload_n 0, 1) := by decide +kernel
theorem d_Mo_encode_45 : decode M_Mo_encode.2.1 45 = .ok (.bipush 47, 2) := by decide +kernel
theorem d_Mo_encode_47 : decode M_Mo_encode.2.1 47 = .ok (.invokevirtual 170, 3) := by decide +kernel
theorem d_Mo_encode_50 : decode M_Mo_encode.2.1 50 = .ok (.aload_n 0, 1) := by decide +kernel
theorem d_Mo_encode_51 : decode M_Mo_encode.2.1 51 = .ok (.bipush 49, 2) := by decide +kernel
theorem d_Mo_encode_53 : decode M_Mo_encode.2.1 53 = .ok (.invokevirtual 170, 3) := by decide +kernel
theorem d_Mo_encode_56 : decode M_Mo_encode.2.1 56 = .ok (.aload_n 0, 1) := by decide +kernel
theorem d_Mo_encode_57 : decode M_Mo_encode.2.1 57 = .ok (.iconst 1, 1) := by decide +kernel
theorem d_Mo_encode_58 : decode M_Mo_encode.2.1 58 = .ok (.invokevirtual 170, 3) := by decide +kernel
theorem d_Mo_encode_61 : decode M_Mo_encode.2.1 61 = .ok (.aload_n 0, 1) := by decide +kernel
theorem d_Mo_encode_62 : decode M_Mo_encode.2.1 62 = .ok (.iconst 2, 1) := by decide +kernel
theorem d_Mo_encode_63 : decode M_Mo_encode.2.1 63 = .ok (.invokevirtual 170, 3) := by decide +kernel
theorem d_Mo_encode_66 : decode M_Mo_encode.2.1 66 = .ok (.aload_n 0, 1) := by decide +kernel
theorem d_Mo_encode_67 : decode M_Mo_encode.2.1 67 = .ok (.aload_n 0, 1) := by decide +kernel
theorem d_Mo_encode_68 : decode M_Mo_encode.2.1 68 = .ok (.getfield 7, 3) := by decide +kernel
theorem d_Mo_encode_71 : decode M_Mo_encode.2.1 71 = .ok (.invokevirtual 170, 3) := by decide +kernel
theorem d_Mo_encode_74 : decode M_Mo_encode.2.1 74 = .ok (.aload_n 0, 1) := by decide +kernel
theorem d_Mo_encode_75 : decode M_Mo_encode.2.1 75 = .ok (.aload_n 0, 1) := by decide +kernel
theorem d_Mo_encode_76 : decode M_Mo_encode.2.1 76 = .ok (.getfield 13, 3) := by decide +kernel
theorem d_Mo_encode_79 : decode M_Mo_encode.2.1 79 = .ok (.invokevirtual 170, 3) := by decide +kernel
theorem d_Mo_encode_82 : decode M_Mo_encode.2.1 82 = .ok (.aload_n 0, 1) := by decide +kernel
theorem d_Mo_encode_83 : decode M_Mo_encode.2.1 83 = .ok (.iload_n 1, 1) := by decide +kernel
theorem d_Mo_encode_84 : decode M_Mo_encode.2.1 84 = .ok (.invokevirtual 170, 3) := by decide +kernel
theorem d_Mo_encode_87 : decode M_Mo_encode.2.1 87 = .ok (.aload_n 0, 1) := by decide +kernel
theorem d_Mo_encode_88 : decode M_Mo_encode.2.1 88 = .ok (.aload_n 0, 1) := by decide +kernel
theorem d_Mo_encode_89 : decode M_Mo_encode.2.1 89 = .ok (.getfield 16, 3) := by decide +kernel
theorem d_Mo_encode_92 : decode M_Mo_encode.2.1 92 = .ok (.invokevirtual 170, 3) := by decide +kernel
theorem d_Mo_encode_95 : decode M_Mo_encode.2.1 95 = .ok (.iconst 0, 1) := by decide +kernel
theorem d_Mo_encode_96 : decode M_Mo_encode.2.1 96 = .ok (.istore_n 2, 1) := by decide +kernel
theorem d_Mo_encode_97 : decode M_Mo_encode.2.1 97 = .ok (.iload_n 2, 1) := by decide +kernel
theorem d_Mo_encode_98 : decode M_Mo_encode.2.1 98 = .ok (.aload_n 0, 1) := by decide +kernel
theorem d_Mo_encode_99 : decode M_Mo_encode.2.1 99 = .ok (.getfield 16, 3) := by decide +kernel
theorem d_Mo_encode_102 : decode M_Mo_encode.2.1 102 = .ok (.if_icmp .ge 39, 3) := by decide +kernel
theorem d_Mo_encode_105 : decode M_Mo_encode.2.1 105 = .ok (.aload_n 0, 1) := by decide +kernel
theorem d_Mo_encode_106 : decode M_Mo_encode.2.1 106 = .ok (.aload_n 0, 1) := by decide +kernel
theorem d_Mo_encode_107 : decode M_Mo_encode.2.1 107 = .ok (.getfield 22, 3) := by decide +kernel
theorem d_Mo_encode_110 : decode M_Mo_encode.2.1 110 = .ok (.iload_n 2, 1) := by decide +kernel
theorem d_Mo_encode_111 : decode M_Mo_encode.2.1 111 = .ok (.iaload, 1) := by decide +kernel
theorem d_Mo_encode_112 : decode M_Mo_encode.2.1 112 = .ok (.invokevirtual 170, 3) := by decide +kernel
theorem d_Mo_encode_115 : decode M_Mo_encode.2.1 115 = .ok (.aload_n 0, 1) := by decide +kernel
theorem d_Mo_encode_116 : decode M_Mo_encode.2.1 116 = .ok (.aload_n 0, 1) := by decide +kernel
theorem d_Mo_encode_117 : decode M_Mo_encode.2.1 117 = .ok (.getfield 26, 3) := by decide +kernel
theorem d_Mo_encode_120 : decode M_Mo_encode.2.1 120 = .ok (.iload_n 2, 1) := by decide +kernel
theorem d_Mo_encode_121 : decode M_Mo_encode.2.1 121 = .ok (.iaload, 1) := by decide +kernel
theorem d_Mo_encode_122 : decode M_Mo_encode.2.1 122 = .ok (.invokevirtual 170, 3) := by decide +kernel
theorem d_Mo_encode_125 : decode M_Mo_encode.2.1 125 = .ok (.aload_n 0, 1) := by decide +kernel
theorem d_Mo_encode_126 : decode M_Mo_encode.2.1 126 = .ok (.aload_n 0, 1) := by decide +kernel
theorem d_Mo_encode_127 : decode M_Mo_encode.2.1 127 = .ok (.getfield 29, 3) := by decide +kernel
theorem d_Mo_encode_130 : decode M_Mo_encode.2.1 130 = .ok (.iload_n 2, 1) := by decide +kernel
theorem d_Mo_encode_131 : decode M_Mo_encode.2.1 131 = .ok (.iaload, 1) := by decide +kernel
theorem d_Mo_encode_132 : decode M_Mo_encode.2.1 132 = .ok (.invokevirtual 170, 3) := by decide +kernel
theorem d_Mo_encode_135 : decode M_Mo_encode.2.1 135 = .ok (.iinc 2 1, 3) := by decide +kernel
theorem d_Mo_encode_138 : decode M_Mo_encode.2.1 138 = .ok (.goto (-41), 3) := by decide +kernel
theorem d_Mo_encode_141 : decode M_Mo_encode.2.1 141 = .ok (.iload_n 1, 1) := by decide +kernel
theorem d_Mo_encode_142 : decode M_Mo_encode.2.1 142 = .ok (.invokestatic 173, 3) := by decide +kernel
theorem d_Mo_encode_145 : decode M_Mo_encode.2.1 145 = .ok (.istore_n 2, 1) := by decide +kernel
theorem d_Mo_encode_146 : decode M_Mo_encode.2.1 146 = .ok (.iconst 0, 1) := by decide +kernel
theorem d_Mo_encode_147 : decode M_Mo_encode.2.1 147 = .ok (.istore_n 3, 1) := by decide +kernel
theorem d_Mo_encode_148 : decode M_Mo_encode.2.1 148 = .ok (.aload_n 0, 1) := by decide +kernel
theorem d_Mo_encode_149 : decode M_Mo_encode.2.1 149 = .ok (.getfield 158, 3) := by decide +kernel
theorem d_Mo_encode_152 : decode M_Mo_encode.2.1 152 = .ok (.istore 4, 2) := by decide +kernel
theorem d_Mo_encode_154 : decode M_Mo_encode.2.1 154 = .ok (.aload_n 0, 1) := by decide +kernel
theorem d_Mo_encode_155 : decode M_Mo_encode.2.1 155 = .ok (.dup, 1) := by decide +kernel
theorem d_Mo_encode_156 : decode M_Mo_encode.2.1 156 = .ok (.getfield 158, 3) := by decide +kernel
theorem d_Mo_encode_159 : decode M_Mo_encode.2.1 159 = .ok (.iconst 2, 1) := by decide +kernel
theorem d_Mo_encode_160 : decode M_Mo_encode.2.1 160 = .ok (.aload_n 0, 1) := by decide +kernel
theorem d_Mo_encode_161 : decode M_Mo_encode.2.1 161 = .ok (.getfield 13, 3) := by decide +kernel
theorem d_Mo_encode_164 : decode M_Mo_encode.2.1 164 = .ok (.iload_n 2, 1) := by decide +kernel
theorem d_Mo_encode_165 : decode M_Mo_encode.2.1 165 = .ok (.iadd, 1) := by decide +kernel
theorem d_Mo_encode_166 : decode M_Mo_encode.2.1 166 = .ok (.iconst 1, 1) := by decide +kernel
theorem d_Mo_encode_167 : decode M_Mo_encode.2.1 167 = .ok (.isub, 1) := by decide +kernel
theorem d_Mo_encode_168 : decode M_Mo_encode.2.1 168 = .ok (.iload_n 2, 1) := by decide +kernel
theorem d_Mo_encode_169 : decode M_Mo_encode.2.1 169 = .ok (.idiv, 1) := by decide +kernel
theorem d_Mo_encode_170 : decode M_Mo_encode.2.1 170 = .ok (.imul, 1) := by decide +kernel
theorem d_Mo_encode_171 : decode M_Mo_encode.2.1 171 = .ok (.iadd, 1) := by decide +kernel
theorem d_Mo_encode_172 : decode M_Mo_encode.2.1 172 = .ok (.putfield 158, 3) := by decide +kernel
theorem d_Mo_encode_175 : decode M_Mo_encode.2.1 175 = .ok (.iconst 0, 1) := by decide +kernel
theorem d_Mo_encode_176 : decode M_Mo_encode.2.1 176 = .ok (.istore 5, 2) := by decide +kernel
theorem d_Mo_encode_178 : decode M_Mo_encode.2.1 178 = .ok (.iload 5, 2) := by decide +kernel
theorem d_Mo_encode_180 : decode M_Mo_encode.2.1 180 = .ok (.aload_n 0, 1) := by decide +kernel
theorem d_Mo_encode_181 : decode M_Mo_encode.2.1 181 = .ok (.getfield 13, 3) := by decide +kernel
theorem d_Mo_encode_184 : decode M_Mo_encode.2.1 184 = .ok (.if_icmp .ge 72, 3) := by decide +kernel
theorem d_Mo_encode_187 : decode M_Mo_encode.2.1 187 = .ok (.aload_n 0, 1) := by decide +kernel
theorem d_Mo_encode_188 : decode M_Mo_encode.2.1 188 = .ok (.getfield 35, 3) := by decide +kernel
theorem d_Mo_encode_191 : decode M_Mo_encode.2.1 191 = .ok (.iload 4, 2) := by decide +kernel
theorem d_Mo_encode_193 : decode M_Mo_encode.2.1 193 = .ok (.iconst 2, 1) := by decide +kernel
theorem d_Mo_encode_194 : decode M_Mo_encode.2.1 194 = .ok (.iload_n 3, 1) := by decide +kernel
theorem d_Mo_encode_195 : decode M_Mo_encode.2.1 195 = .ok (.imul, 1) := by decide +kernel
theorem d_Mo_encode_196 : decode M_Mo_encode.2.1 196 = .ok (.iadd, 1) := by decide +kernel
theorem d_Mo_encode_197 : decode M_Mo_encode.2.1 197 = .ok (.aload_n 0, 1) := by decide +kernel
theorem d_Mo_encode_198 : decode M_Mo_encode.2.1 198 = .ok (.getfield 158, 3) := by decide +kernel
theorem d_Mo_encode_201 : decode M_Mo_encode.2.1 201 = .ok (.sipush 255, 3) := by decide +kernel
theorem d_Mo_encode_204 : decode M_Mo_encode.2.1 204 = .ok (.iand, 1) := by decide +kernel
theorem d_Mo_encode_205 : decode M_Mo_encode.2.1 205 = .ok (.iastore, 1) := by decide +kernel
theorem d_Mo_encode_206 : decode M_Mo_encode.2.1 206 = .ok (.aload_n 0, 1) := by decide +kernel
theorem d_Mo_encode_207 : decode M_Mo_encode.2.1 207 = .ok (.getfield 35, 3) := by decide +kernel
theorem d_Mo_encode_210 : decode M_Mo_encode.2.1 210 = .ok (.iload 4, 2) := by decide +kernel
theorem d_Mo_encode_212 : decode M_Mo_encode.2.1 212 = .ok (.iconst 2, 1) := by decide +kernel
theorem d_Mo_encode_213 : decode M_Mo_encode.2.1 213 = .ok (.iload_n 3, 1) := by decide +kernel
theorem d_Mo_encode_214 : decode M_Mo_encode.2.1 214 = .ok (.imul, 1) := by decide +kernel
theorem d_Mo_encode_215 : decode M_Mo_encode.2.1 215 = .ok (.iadd, 1) := by decide +kernel
theorem d_Mo_encode_216 : decode M_Mo_encode.2.1 216 = .ok (.iconst 1, 1) := by decide +kernel
theorem d_Mo_encode_217 : decode M_Mo_encode.2.1 217 = .ok (.iadd, 1) := by decide +kernel
theorem d_Mo_encode_218 : decode M_Mo_encode.2.1 218 = .ok (.aload_n 0, 1) := by decide +kernel
theorem d_Mo_encode_219 : decode M_Mo_encode.2.1 219 = .ok (.getfield 158, 3) := by decide +kernel
theorem d_Mo_encode_222 : decode M_Mo_encode.2.1 222 = .ok (.bipush 8, 2) := by decide +kernel
theorem d_Mo_encode_224 : decode M_Mo_encode.2.1 224 = .ok (.ishr, 1) := by decide +kernel
theorem d_Mo_encode_225 : decode M_Mo_encode.2.1 225 = .ok (.iastore, 1) := by decide +kernel
theorem d_Mo_encode_226 : decode M_Mo_encode.2.1 226 = .ok (.aload_n 0, 1) := by decide +kernel
theorem d_Mo_encode_227 : decode M_Mo_encode.2.1 227 = .ok (.iload_n 1, 1) := by decide +kernel
theorem d_Mo_encode_228 : decode M_Mo_encode.2.1 228 = .ok (.iload 5, 2) := by decide +kernel
theorem d_Mo_encode_230 : decode M_Mo_encode.2.1 230 = .ok (.iload_n 2, 1) := by decide +kernel
theorem d_Mo_encode_231 : decode M_Mo_encode.2.1 231 = .ok (.aload_n 0, 1) := by decide +kernel
theorem d_Mo_encode_232 : decode M_Mo_encode.2.1 232 = .ok (.getfield 13, 3) := by decide +kernel
theorem d_Mo_encode_235 : decode M_Mo_encode.2.1 235 = .ok (.iload 5, 2) := by decide +kernel
theorem d_Mo_encode_237 : decode M_Mo_encode.2.1 237 = .ok (.isub, 1) := by decide +kernel
theorem d_Mo_encode_238 : decode M_Mo_encode.2.1 238 = .ok (.invokestatic 139, 3) := by decide +kernel
theorem d_Mo_encode_241 : decode M_Mo_encode.2.1 241 = .ok (.invokevirtual 176, 3) := by decide +kernel
theorem d_Mo_encode_244 : decode M_Mo_encode.2.1 244 = .ok (.iinc 3 1, 3) := by decide +kernel
theorem d_Mo_encode_247 : decode M_Mo_encode.2.1 247 = .ok (.iload 5, 2) := by decide +kernel
theorem d_Mo_encode_249 : decode M_Mo_encode.2.1 249 = .ok (.iload_n 2, 1) := by decide +kernel
theorem d_Mo_encode_250 : decode M_Mo_encode.2.1 250 = .ok (.iadd, 1) := by decide +kernel
theorem d_Mo_encode_251 : decode M_Mo_encode.2.1 251 = .ok (.istore 5, 2) := by decide +kernel
theorem d_Mo_encode_253 : decode M_Mo_encode.2.1 253 = .ok (.goto (-75), 3) := by decide +kernel
theorem d_Mo_encode_256 : decode M_Mo_encode.2.1 256 = .ok (.aload_n 0, 1) := by decide +kernel
theorem d_Mo_encode_257 : decode M_Mo_encode.2.1 257 = .ok (.getfield 158, 3) := by decide +kernel
theorem d_Mo_encode_260 : decode M_Mo_encode.2.1 260 = .ok (.ireturn, 1) := by decide +kernel
theorem d_Mo_write_0 : decode M_Mo_write.2.1 0 = .ok (.aload_n 0, 1) := by decide +kernel
theorem d_Mo_write_1 : decode M_Mo_write.2.1 1 = .ok (.getfield 35, 3) := by decide +kernel
theorem d_Mo_write_4 : decode M_Mo_write.2.1 4 = .ok (.aload_n 0, 1) := by decide +kernel
theorem d_Mo_write_5 : decode M_Mo_write.2.1 5 = .ok (.getfield 158, 3) := by decide +kernel
theorem d_Mo_write_8 : decode M_Mo_write.2.1 8 = .ok (.iload_n 1, 1) := by decide +kernel
theorem d_Mo_write_9 : decode M_Mo_write.2.1 9 = .ok (.iastore, 1) := by decide +kernel
theorem d_Mo_write_10 : decode M_Mo_write.2.1 10 = .ok (.aload_n 0, 1) := by decide +kernel
theorem d_Mo_write_11 : decode M_Mo_write.2.1 11 = .ok (.dup, 1) := by decide +kernel
theorem d_Mo_write_12 : decode M_Mo_write.2.1 12 = .ok (.getfield 158, 3) := by decide +kernel
theorem d_Mo_write_15 : decode M_Mo_write.2.1 15 = .ok (.iconst 1, 1) := by decide +kernel
theorem d_Mo_write_16 : decode M_Mo_write.2.1 16 = .ok (.iadd, 1) := by decide +kernel
theorem d_Mo_write_17 : decode M_Mo_write.2.1 17 = .ok (.putfield 158, 3) := by decide +kernel
theorem d_Mo_write_20 : decode M_Mo_write.2.1 20 = .ok (.return_, 1) := by decide +kernel
theorem d_Mo_linesOf_0 : decode M_Mo_linesOf.2.1 0 = .ok (.iload_n 0, 1) := by decide +kernel
theorem d_Mo_linesOf_1 : decode M_Mo_linesOf.2.1 1 = .ok (.iconst 2, 1) := by decide +kernel
theorem d_Mo_linesOf_2 : decode M_Mo_linesOf.2.1 2 = .ok (.if_icmp .ge 7, 3) := by decide +kernel
theorem d_Mo_linesOf_5 : decode M_Mo_linesOf.2.1 5 = .ok (.iconst 1, 1) := by decide +kernel
theorem d_Mo_linesOf_6 : decode M_Mo_linesOf.2.1 6 = .ok (.goto 4, 3) := by decide +kernel
theorem d_Mo_linesOf_9 : decode M_Mo_linesOf.2.1 9 = .ok (.iconst 4, 1) := by decide +kernel
theorem d_Mo_linesOf_10 : decode M_Mo_linesOf.2.1 10 = .ok (.ireturn, 1) := by decide +kernel
theorem d_Mo_least_0 : decode M_Mo_least.2.1 0 = .ok (.iload_n 0, 1) := by decide +kernel
theorem d_Mo_least_1 : decode M_Mo_least.2.1 1 = .ok (.iload_n 1, 1) := by decide +kernel
theorem d_Mo_least_2 : decode M_Mo_least.2.1 2 = .ok (.if_icmp .ge 7, 3) := by decide +kernel
theorem d_Mo_least_5 : decode M_Mo_least.2.1 5 = .ok (.iload_n 0, 1) := by decide +kernel
theorem d_Mo_least_6 : decode M_Mo_least.2.1 6 = .ok (.goto 4, 3) := by decide +kernel
theorem d_Mo_least_9 : decode M_Mo_least.2.1 9 = .ok (.iload_n 1, 1) := by decide +kernel
theorem d_Mo_least_10 : decode M_Mo_least.2.1 10 = .ok (.ireturn, 1) := by decide +kernel
theorem d_Mo_chunk_0 : decode M_Mo_chunk.2.1 0 = .ok (.iload_n 1, 1) := by decide +kernel
theorem d_Mo_chunk_1 : decode M_Mo_chunk.2.1 1 = .ok (.iconst 2, 1) := by decide +kernel
theorem d_Mo_chunk_2 : decode M_Mo_chunk.2.1 2 = .ok (.if_icmp .ne 7, 3) := by decide +kernel
theorem d_Mo_chunk_5 : decode M_Mo_chunk.2.1 5 = .ok (.iconst 1, 1) := by decide +kernel
theorem d_Mo_chunk_6 : decode M_Mo_chunk.2.1 6 = .ok (.goto 4, 3) := by decide +kernel
theorem d_Mo_chunk_9 : decode M_Mo_chunk.2.1 9 = .ok (.iconst 0, 1) := by decide +kernel
theorem d_Mo_chunk_10 : decode M_Mo_chunk.2.1 10 = .ok (.istore 4, 2) := by decide +kernel
theorem d_Mo_chunk_12 : decode M_Mo_chunk.2.1 12 = .ok (.aload_n 0, 1) := by decide +kernel
theorem d_Mo_chunk_13 : decode M_Mo_chunk.2.1 13 = .ok (.iload_n 2, 1) := by decide +kernel
theorem d_Mo_chunk_14 : decode M_Mo_chunk.2.1 14 = .ok (.iload_n 3, 1) := by decide +kernel
theorem d_Mo_chunk_15 : decode M_Mo_chunk.2.1 15 = .ok (.iload 4, 2) := by decide +kernel
theorem d_Mo_chunk_17 : decode M_Mo_chunk.2.1 17 = .ok (.invokevirtual 161, 3) := by decide +kernel
theorem d_Mo_chunk_20 : decode M_Mo_chunk.2.1 20 = .ok (.aload_n 0, 1) := by decide +kernel
theorem d_Mo_chunk_21 : decode M_Mo_chunk.2.1 21 = .ok (.getfield 110, 3) := by decide +kernel
theorem d_Mo_chunk_24 : decode M_Mo_chunk.2.1 24 = .ok (.istore 5, 2) := by decide +kernel
theorem d_Mo_chunk_26 : decode M_Mo_chunk.2.1 26 = .ok (.iload_n 1, 1) := by decide +kernel
theorem d_Mo_chunk_27 : decode M_Mo_chunk.2.1 27 = .ok (.iconst 2, 1) := by decide +kernel
theorem d_Mo_chunk_28 : decode M_Mo_chunk.2.1 28 = .ok (.if_icmp .ne 10, 3) := by decide +kernel
theorem d_Mo_chunk_31 : decode M_Mo_chunk.2.1 31 = .ok (.aload_n 0, 1) := by decide +kernel
theorem d_Mo_chunk_32 : decode M_Mo_chunk.2.1 32 = .ok (.iload_n 2, 1) := by decide +kernel
theorem d_Mo_chunk_33 : decode M_Mo_chunk.2.1 33 = .ok (.iload_n 3, 1) := by decide +kernel
theorem d_Mo_chunk_34 : decode M_Mo_chunk.2.1 34 = .ok (.iconst 2, 1) := by decide +kernel
theorem d_Mo_chunk_35 : decode M_Mo_chunk.2.1 35 = .ok (.invokevirtual 161, 3) := by decide +kernel
theorem d_Mo_chunk_38 : decode M_Mo_chunk.2.1 38 = .ok (.iload_n 1, 1) := by decide +kernel
theorem d_Mo_chunk_39 : decode M_Mo_chunk.2.1 39 = .ok (.iconst 3, 1) := by decide +kernel
theorem d_Mo_chunk_40 : decode M_Mo_chunk.2.1 40 = .ok (.if_icmp .ne 9, 3) := by decide +kernel
theorem d_Mo_chunk_43 : decode M_Mo_chunk.2.1 43 = .ok (.aload_n 0, 1) := by decide +kernel
theorem d_Mo_chunk_44 : decode M_Mo_chunk.2.1 44 = .ok (.iload_n 2, 1) := by decide +kernel
theorem d_Mo_chunk_45 : decode M_Mo_chunk.2.1 45 = .ok (.iload_n 3, 1) := by decide +kernel
theorem d_Mo_chunk_46 : decode M_Mo_chunk.2.1 46 = .ok (.invokevirtual 164, 3) := by decide +kernel
theorem d_Mo_chunk_49 : decode M_Mo_chunk.2.1 49 = .ok (.aload_n 0, 1) := by decide +kernel
theorem d_Mo_chunk_50 : decode M_Mo_chunk.2.1 50 = .ok (.invokevirtual 167, 3) := by decide +kernel
theorem d_Mo_chunk_53 : decode M_Mo_chunk.2.1 53 = .ok (.iload_n 1, 1) := by decide +kernel
