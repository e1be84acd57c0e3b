theorem d_RF_init_0 : decode M_RF_init.2.1 0 = .ok (.aload_n 0, 1) := by decide +kernel
theorem d_RF_init_1 : decode M_RF_init.2.1 1 = .ok (.invokespecial 1, 3) := by decide +kernel
theorem d_RF_init_4 : decode M_RF_init.2.1 4 = .ok (.aload_n 0, 1) := by decide +kernel
theorem d_RF_init_5 : decode M_RF_init.2.1 5 = .ok (.new 7, 3) := by decide +kernel
theorem d_RF_init_8 : decode M_RF_init.2.1 8 = .ok (.dup, 1) := by decide +kernel
theorem d_RF_init_9 : decode M_RF_init.2.1 9 = .ok (.sipush 1500, 3) := by decide +kernel
theorem d_RF_init_12 : decode M_RF_init.2.1 12 = .ok (.invokespecial 11, 3) := by decide +kernel
theorem d_RF_init_15 : decode M_RF_init.2.1 15 = .ok (.putfield 14, 3) := by decide +kernel
theorem d_RF_init_18 : decode M_RF_init.2.1 18 = .ok (.aload_n 0, 1) := by decide +kernel
theorem d_RF_init_19 : decode M_RF_init.2.1 19 = .ok (.new 18, 3) := by decide +kernel
theorem d_RF_init_22 : decode M_RF_init.2.1 22 = .ok (.dup, 1) := by decide +kernel
theorem d_RF_init_23 : decode M_RF_init.2.1 23 = .ok (.invokespecial 20, 3) := by decide +kernel
theorem d_RF_init_26 : decode M_RF_init.2.1 26 = .ok (.putfield 21, 3) := by decide +kernel
theorem d_RF_init_29 : decode M_RF_init.2.1 29 = .ok (.aload_n 0, 1) := by decide +kernel
theorem d_RF_init_30 : decode M_RF_init.2.1 30 = .ok (.new 25, 3) := by decide +kernel
theorem d_RF_init_33 : decode M_RF_init.2.1 33 = .ok (.dup, 1) := by decide +kernel
theorem d_RF_init_34 : decode M_RF_init.2.1 34 = .ok (.invokespecial 27, 3) := by decide +kernel
theorem d_RF_init_37 : decode M_RF_init.2.1 37 = .ok (.putfield 28, 3) := by decide +kernel
theorem d_RF_init_40 : decode M_RF_init.2.1 40 = .ok (.aload_n 0, 1) := by decide +kernel
theorem d_RF_init_41 : decode M_RF_init.2.1 41 = .ok (.new 32, 3) := by decide +kernel
theorem d_RF_init_44 : decode M_RF_init.2.1 44 = .ok (.dup, 1) := by decide +kernel
theorem d_RF_init_45 : decode M_RF_init.2.1 45 = .ok (.invokespecial 34, 3) := by decide +kernel
theorem d_RF_init_48 : decode M_RF_init.2.1 48 = .ok (.putfield 35, 3) := by decide +kernel
theorem d_RF_init_51 : decode M_RF_init.2.1 51 = .ok (.aload_n 0, 1) := by decide +kernel
theorem d_RF_init_52 : decode M_RF_init.2.1 52 = .ok (.new 39, 3) := by decide +kernel
theorem d_RF_init_55 : decode M_RF_init.2.1 55 = .ok (.dup, 1) := by decide +kernel
theorem d_RF_init_56 : decode M_RF_init.2.1 56 = .ok (.invokespecial 41, 3) := by decide +kernel
theorem d_RF_init_59 : decode M_RF_init.2.1 59 = .ok (.putfield 42, 3) := by decide +kernel
theorem d_RF_init_62 : decode M_RF_init.2.1 62 = .ok (.aload_n 0, 1) := by decide +kernel
theorem d_RF_init_63 : decode M_RF_init.2.1 63 = .ok (.new 39, 3) := by decide +kernel
theorem d_RF_init_66 : decode M_RF_init.2.1 66 = .ok (.dup, 1) := by decide +kernel
theorem d_RF_init_67 : decode M_RF_init.2.1 67 = .ok (.invokespecial 41, 3) := by decide +kernel
theorem d_RF_init_70 : decode M_RF_init.2.1 70 = .ok (.putfield 46, 3) := by decide +kernel
theorem d_RF_init_73 : decode M_RF_init.2.1 73 = .ok (.aload_n 0, 1) := by decide +kernel
theorem d_RF_init_74 : decode M_RF_init.2.1 74 = .ok (.bipush (-2), 2) := by decide +kernel
theorem d_RF_init_76 : decode M_RF_init.2.1 76 = .ok (.putfield 49, 3) := by decide +kernel
theorem d_RF_init_79 : decode M_RF_init.2.1 79 = .ok (.aload_n 0, 1) := by decide +kernel
theorem d_RF_init_80 : decode M_RF_init.2.1 80 = .ok (.getfield 42, 3) := by decide +kernel
theorem d_RF_init_83 : decode M_RF_init.2.1 83 = .ok (.iconst 1, 1) := by decide +kernel
theorem d_RF_init_84 : decode M_RF_init.2.1 84 = .ok (.iconst 1, 1) := by decide +kernel
theorem d_RF_init_85 : decode M_RF_init.2.1 85 = .ok (.invokevirtual 53, 3) := by decide +kernel
theorem d_RF_init_88 : decode M_RF_init.2.1 88 = .ok (.aload_n 0, 1) := by decide +kernel
theorem d_RF_init_89 : decode M_RF_init.2.1 89 = .ok (.getfield 42, 3) := by decide +kernel
theorem d_RF_init_92 : decode M_RF_init.2.1 92 = .ok (.bipush 97, 2) := by decide +kernel
theorem d_RF_init_94 : decode M_RF_init.2.1 94 = .ok (.iconst 0, 1) := by decide +kernel
theorem d_RF_init_95 : decode M_RF_init.2.1 95 = .ok (.iconst 1, 1) := by decide +kernel
theorem d_RF_init_96 : decode M_RF_init.2.1 96 = .ok (.invokevirtual 57, 3) := by decide +kernel
theorem d_RF_init_99 : decode M_RF_init.2.1 99 = .ok (.return_, 1) := by decide +kernel
theorem d_RF_where_0 : decode M_RF_where.2.1 0 = .ok (.aload_n 0, 1) := by decide +kernel
theorem d_RF_where_1 : decode M_RF_where.2.1 1 = .ok (.getfield 49, 3) := by decide +kernel
theorem d_RF_where_4 : decode M_RF_where.2.1 4 = .ok (.ireturn, 1) := by decide +kernel
theorem d_RF_begin_0 : decode M_RF_begin.2.1 0 = .ok (.iload_n 1, 1) := by decide +kernel
theorem d_RF_begin_1 : decode M_RF_begin.2.1 1 = .ok (.iconst 1, 1) := by decide +kernel
theorem d_RF_begin_2 : decode M_RF_begin.2.1 2 = .ok (.if_icmp .lt 20, 3) := by decide +kernel
theorem d_RF_begin_5 : decode M_RF_begin.2.1 5 = .ok (.iload_n 1, 1) := by decide +kernel
theorem d_RF_begin_6 : decode M_RF_begin.2.1 6 = .ok (.bipush 8, 2) := by decide +kernel
theorem d_RF_begin_8 : decode M_RF_begin.2.1 8 = .ok (.if_icmp .gt 14, 3) := by decide +kernel
theorem d_RF_begin_11 : decode M_RF_begin.2.1 11 = .ok (.iload_n 2, 1) := by decide +kernel
theorem d_RF_begin_12 : decode M_RF_begin.2.1 12 = .ok (.iconst 1, 1) := by decide +kernel
theorem d_RF_begin_13 : decode M_RF_begin.2.1 13 = .ok (.if_icmp .lt 9, 3) := by decide +kernel
theorem d_RF_begin_16 : decode M_RF_begin.2.1 16 = .ok (.iload_n 2, 1) := by decide +kernel
theorem d_RF_begin_17 : decode M_RF_begin.2.1 17 = .ok (.bipush 8, 2) := by decide +kernel
theorem d_RF_begin_19 : decode M_RF_begin.2.1 19 = .ok (.if_icmp .le 11, 3) := by decide +kernel
theorem d_RF_begin_22 : decode M_RF_begin.2.1 22 = .ok (.new 61, 3) := by decide +kernel
theorem d_RF_begin_25 : decode M_RF_begin.2.1 25 = .ok (.dup, 1) := by decide +kernel
theorem d_RF_begin_26 : decode M_RF_begin.2.1 26 = .ok (.invokespecial 63, 3) := by decide +kernel
theorem d_RF_begin_29 : decode M_RF_begin.2.1 29 = .ok (.athrow, 1) := by decide +kernel
theorem d_RF_begin_30 : decode M_RF_begin.2.1 30 = .ok (.aload_n 0, 1) := by decide +kernel
theorem d_RF_begin_31 : decode M_RF_begin.2.1 31 = .ok (.getfield 42, 3) := by decide +kernel
theorem d_RF_begin_34 : decode M_RF_begin.2.1 34 = .ok (.iload_n 1, 1) := by decide +kernel
theorem d_RF_begin_35 : decode M_RF_begin.2.1 35 = .ok (.iload_n 2, 1) := by decide +kernel
theorem d_RF_begin_36 : decode M_RF_begin.2.1 36 = .ok (.invokevirtual 53, 3) := by decide +kernel
theorem d_RF_begin_39 : decode M_RF_begin.2.1 39 = .ok (.iload_n 1, 1) := by decide +kernel
theorem d_RF_begin_40 : decode M_RF_begin.2.1 40 = .ok (.iload_n 2, 1) := by decide +kernel
theorem d_RF_begin_41 : decode M_RF_begin.2.1 41 = .ok (.imul, 1) := by decide +kernel
theorem d_RF_begin_42 : decode M_RF_begin.2.1 42 = .ok (.ireturn, 1) := by decide +kernel
theorem d_RF_channel_0 : decode M_RF_channel.2.1 0 = .ok (.iload_n 2, 1) := by decide +kernel
theorem d_RF_channel_1 : decode M_RF_channel.2.1 1 = .ok (.ifCond .lt 12, 3) := by decide +kernel
theorem d_RF_channel_4 : decode M_RF_channel.2.1 4 = .ok (.iload_n 2, 1) := by decide +kernel
theorem d_RF_channel_5 : decode M_RF_channel.2.1 5 = .ok (.iconst 2, 1) := by decide +kernel
theorem d_RF_channel_6 : decode M_RF_channel.2.1 6 = .ok (.if_icmp .gt 7, 3) := by decide +kernel
theorem d_RF_channel_9 : decode M_RF_channel.2.1 9 = .ok (.iconst 1, 1) := by decide +kernel
theorem d_RF_channel_10 : decode M_RF_channel.2.1 10 = .ok (.goto 4, 3) := by decide +kernel
theorem d_RF_channel_13 : decode M_RF_channel.2.1 13 = .ok (.iconst 0, 1) := by decide +kernel
theorem d_RF_channel_14 : decode M_RF_channel.2.1 14 = .ok (.istore 4, 2) := by decide +kernel
theorem d_RF_channel_16 : decode M_RF_channel.2.1 16 = .ok (.iload_n 3, 1) := by decide +kernel
theorem d_RF_channel_17 : decode M_RF_channel.2.1 17 = .ok (.iconst 1, 1) := by decide +kernel
theorem d_RF_channel_18 : decode M_RF_channel.2.1 18 = .ok (.if_icmp .lt 12, 3) := by decide +kernel
theorem d_RF_channel_21 : decode M_RF_channel.2.1 21 = .ok (.iload_n 3, 1) := by decide +kernel
theorem d_RF_channel_22 : decode M_RF_channel.2.1 22 = .ok (.iconst 2, 1) := by decide +kernel
theorem d_RF_channel_23 : decode M_RF_channel.2.1 23 = .ok (.if_icmp .gt 7, 3) := by decide +kernel
theorem d_RF_channel_26 : decode M_RF_channel.2.1 26 = .ok (.iconst 1, 1) := by decide +kernel
theorem d_RF_channel_27 : decode M_RF_channel.2.1 27 = .ok (.goto 4, 3) := by decide +kernel
theorem d_RF_channel_30 : decode M_RF_channel.2.1 30 = .ok (.iconst 0, 1) := by decide +kernel
theorem d_RF_channel_31 : decode M_RF_channel.2.1 31 = .ok (.istore 5, 2) := by decide +kernel
theorem d_RF_channel_33 : decode M_RF_channel.2.1 33 = .ok (.iload_n 1, 1) := by decide +kernel
theorem d_RF_channel_34 : decode M_RF_channel.2.1 34 = .ok (.aload_n 0, 1) := by decide +kernel
theorem d_RF_channel_35 : decode M_RF_channel.2.1 35 = .ok (.getfield 42, 3) := by decide +kernel
theorem d_RF_channel_38 : decode M_RF_channel.2.1 38 = .ok (.invokevirtual 64, 3) := by decide +kernel
theorem d_RF_channel_41 : decode M_RF_channel.2.1 41 = .ok (.if_icmp .lt 19, 3) := by decide +kernel
theorem d_RF_channel_44 : decode M_RF_channel.2.1 44 = .ok (.iload_n 1, 1) := by decide +kernel
theorem d_RF_channel_45 : decode M_RF_channel.2.1 45 = .ok (.bipush 122, 2) := by decide +kernel
theorem d_RF_channel_47 : decode M_RF_channel.2.1 47 = .ok (.if_icmp .gt 13, 3) := by decide +kernel
theorem d_RF_channel_50 : decode M_RF_channel.2.1 50 = .ok (.iload 4, 2) := by decide +kernel
theorem d_RF_channel_52 : decode M_RF_channel.2.1 52 = .ok (.ifCond .eq 8, 3) := by decide +kernel
theorem d_RF_channel_55 : decode M_RF_channel.2.1 55 = .ok (.iload 5, 2) := by decide +kernel
theorem d_RF_channel_57 : decode M_RF_channel.2.1 57 = .ok (.ifCond .ne 11, 3) := by decide +kernel
theorem d_RF_channel_60 : decode M_RF_channel.2.1 60 = .ok (.new 61, 3) := by decide +kernel
theorem d_RF_channel_63 : decode M_RF_channel.2.1 63 = .ok (.dup, 1) := by decide +kernel
theorem d_RF_channel_64 : decode M_RF_channel.2.1 64 = .ok (.invokespecial 63, 3) := by decide +kernel
theorem d_RF_channel_67 : decode M_RF_channel.2.1 67 = .ok (.athrow, 1) := by decide +kernel
theorem d_RF_channel_68 : decode M_RF_channel.2.1 68 = .ok (.aload_n 0, 1) := by decide +kernel
theorem d_RF_channel_69 : decode M_RF_channel.2.1 69 = .ok (.getfield 42, 3) := by decide +kernel
theorem d_RF_channel_72 : decode M_RF_channel.2.1 72 = .ok (.getfield 68, 3) := by decide +kernel
theorem d_RF_channel_75 : decode M_RF_channel.2.1 75 = .ok (.iconst 3, 1) := by decide +kernel
theorem d_RF_channel_76 : decode M_RF_channel.2.1 76 = .ok (.if_icmp .lt 11, 3) := by decide +kernel
theorem d_RF_channel_79 : decode M_RF_channel.2.1 79 = .ok (.new 71, 3) := by decide +kernel
theorem d_RF_channel_82 : decode M_RF_channel.2.1 82 = .ok (.dup, 1) := by decide +kernel
theorem d_RF_channel_83 : decode M_RF_channel.2.1 83 = .ok (.invokespecial 73, 3) := by decide +kernel
theorem d_RF_channel_86 : decode M_RF_channel.2.1 86 = .ok (.athrow, 1) := by decide +kernel
theorem d_RF_channel_87 : decode M_RF_channel.2.1 87 = .ok (.aload_n 0, 1) := by decide +kernel
theorem d_RF_channel_88 : decode M_RF_channel.2.1 88 = .ok (.getfield 42, 3) := by decide +kernel
theorem d_RF_channel_91 : decode M_RF_channel.2.1 91 = .ok (.iload_n 1, 1) := by decide +kernel
theorem d_RF_channel_92 : decode M_RF_channel.2.1 92 = .ok (.iload_n 2, 1) := by decide +kernel
theorem d_RF_channel_93 : decode M_RF_channel.2.1 93 = .ok (.iload_n 3, 1) := by decide +kernel
theorem d_RF_channel_94 : decode M_RF_channel.2.1 94 = .ok (.invokevirtual 57, 3) := by decide +kernel
theorem d_RF_channel_97 : decode M_RF_channel.2.1 97 = .ok (.aload_n 0, 1) := by decide +kernel
theorem d_RF_channel_98 : decode M_RF_channel.2.1 98 = .ok (.getfield 42, 3) := by decide +kernel
theorem d_RF_channel_101 : decode M_RF_channel.2.1 101 = .ok (.getfield 68, 3) := by decide +kernel
theorem d_RF_channel_104 : decode M_RF_channel.2.1 104 = .ok (.ireturn, 1) := by decide +kernel
theorem d_RF_set_0 : decode M_RF_set.2.1 0 = .ok (.dload 4, 2) := by decide +kernel
theorem d_RF_set_2 : decode M_RF_set.2.1 2 = .ok (.invokestatic 74, 3) := by decide +kernel
theorem d_RF_set_5 : decode M_RF_set.2.1 5 = .ok (.ifCond .ne 11, 3) := by decide +kernel
theorem d_RF_set_8 : decode M_RF_set.2.1 8 = .ok (.new 61, 3) := by decide +kernel
theorem d_RF_set_11 : decode M_RF_set.2.1 11 = .ok (.dup, 1) := by decide +kernel
theorem d_RF_set_12 : decode M_RF_set.2.1 12 = .ok (.invokespecial 63, 3) := by decide +kernel
theorem d_RF_set_15 : decode M_RF_set.2.1 15 = .ok (.athrow, 1) := by decide +kernel
theorem d_RF_set_16 : decode M_RF_set.2.1 16 = .ok (.aload_n 0, 1) := by decide +kernel
theorem d_RF_set_17 : decode M_RF_set.2.1 17 = .ok (.getfield 42, 3) := by decide +kernel
theorem d_RF_set_20 : decode M_RF_set.2.1 20 = .ok (.iload_n 1, 1) := by decide +kernel
theorem d_RF_set_21 : decode M_RF_set.2.1 21 = .ok (.iload_n 2, 1) := by decide +kernel
theorem d_RF_set_22 : decode M_RF_set.2.1 22 = .ok (.iload_n 3, 1) := by decide +kernel
theorem d_RF_set_23 : decode M_RF_set.2.1 23 = .ok (.invokevirtual 78, 3) := by decide +kernel
theorem d_RF_set_26 : decode M_RF_set.2.1 26 = .ok (.ifCond .ne 11, 3) := by decide +kernel
theorem d_RF_set_29 : decode M_RF_set.2.1 29 = .ok (.new 82, 3) := by decide +kernel
theorem d_RF_set_32 : decode M_RF_set.2.1 32 = .ok (.dup, 1) := by decide +kernel
theorem d_RF_set_33 : decode M_RF_set.2.1 33 = .ok (.invokespecial 84, 3) := by decide +kernel
theorem d_RF_set_36 : decode M_RF_set.2.1 36 = .ok (.athrow, 1) := by decide +kernel
theorem d_RF_set_37 : decode M_RF_set.2.1 37 = .ok (.aload_n 0, 1) := by decide +kernel
theorem d_RF_set_38 : decode M_RF_set.2.1 38 = .ok (.getfield 42, 3) := by decide +kernel
theorem d_RF_set_41 : decode M_RF_set.2.1 41 = .ok (.iload_n 1, 1) := by decide +kernel
theorem d_RF_set_42 : decode M_RF_set.2.1 42 = .ok (.iload_n 2, 1) := by decide +kernel
theorem d_RF_set_43 : decode M_RF_set.2.1 43 = .ok (.iload_n 3, 1) := by decide +kernel
theorem d_RF_set_44 : decode M_RF_set.2.1 44 = .ok (.aload_n 0, 1) := by decide +kernel
theorem d_RF_set_45 : decode M_RF_set.2.1 45 = .ok (.getfield 42, 3) := by decide +kernel
theorem d_RF_set_48 : decode M_RF_set.2.1 48 = .ok (.getfield 85, 3) := by decide +kernel
theorem d_RF_set_51 : decode M_RF_set.2.1 51 = .ok (.iload_n 1, 1) := by decide +kernel
theorem d_RF_set_52 : decode M_RF_set.2.1 52 = .ok (.iaload, 1) := by decide +kernel
theorem d_RF_set_53 : decode M_RF_set.2.1 53 = .ok (.dload 4, 2) := by decide +kernel
theorem d_RF_set_55 : decode M_RF_set.2.1 55 = .ok (.invokestatic 89, 3) := by decide +kernel
theorem d_RF_set_58 : decode M_RF_set.2.1 58 = .ok (.invokevirtual 95, 3) := by decide +kernel
theorem d_RF_set_61 : decode M_RF_set.2.1 61 = .ok (.aload_n 0, 1) := by decide +kernel
theorem d_RF_set_62 : decode M_RF_set.2.1 62 = .ok (.getfield 42, 3) := by decide +kernel
theorem d_RF_set_65 : decode M_RF_set.2.1 65 = .ok (.iload_n 1, 1) := by decide +kernel
theorem d_RF_set_66 : decode M_RF_set.2.1 66 = .ok (.iload_n 2, 1) := by decide +kernel
theorem d_RF_set_67 : decode M_RF_set.2.1 67 = .ok (.iload_n 3, 1) := by decide +kernel
theorem d_RF_set_68 : decode M_RF_set.2.1 68 = .ok (.invokevirtual 99, 3) := by decide +kernel
theorem d_RF_set_71 : decode M_RF_set.2.1 71 = .ok (.dreturn, 1) := by decide +kernel
theorem d_RF_isValue_0 : decode M_RF_isValue.2.1 0 = .ok (.dload_n 0, 1) := by decide +kernel
theorem d_RF_isValue_1 : decode M_RF_isValue.2.1 1 = .ok (.ldc2_w 154, 3) := by decide +kernel
theorem d_RF_isValue_4 : decode M_RF_isValue.2.1 4 = .ok (.dcmp .l, 1) := by decide +kernel
theorem d_RF_isValue_5 : decode M_RF_isValue.2.1 5 = .ok (.ifCond .lt 15, 3) := by decide +kernel
theorem d_RF_isValue_8 : decode M_RF_isValue.2.1 8 = .ok (.dload_n 0, 1) := by decide +kernel
theorem d_RF_isValue_9 : decode M_RF_isValue.2.1 9 = .ok (.ldc2_w 156, 3) := by decide +kernel
theorem d_RF_isValue_12 : decode M_RF_isValue.2.1 12 = .ok (.dcmp .g, 1) := by decide +kernel
theorem d_RF_isValue_13 : decode M_RF_isValue.2.1 13 = .ok (.ifCond .gt 7, 3) := by decide +kernel
theorem d_RF_isValue_16 : decode M_RF_isValue.2.1 16 = .ok (.iconst 1, 1) := by decide +kernel
theorem d_RF_isValue_17 : decode M_RF_isValue.2.1 17 = .ok (.goto 4, 3) := by decide +kernel
theorem d_RF_isValue_20 : decode M_RF_isValue.2.1 20 = .ok (.iconst 0, 1) := by decide +kernel
theorem d_RF_isValue_21 : decode M_RF_isValue.2.1 21 = .ok (.ireturn, 1) := by decide +kernel
theorem d_RF_get_0 : decode M_RF_get.2.1 0 = .ok (.aload_n 0, 1) := by decide +kernel
theorem d_RF_get_1 : decode M_RF_get.2.1 1 = .ok (.getfield 42, 3) := by decide +kernel
theorem d_RF_get_4 : decode M_RF_get.2.1 4 = .ok (.iload_n 1, 1) := by decide +kernel
theorem d_RF_get_5 : decode M_RF_get.2.1 5 = .ok (.iload_n 2, 1) := by decide +kernel
theorem d_RF_get_6 : decode M_RF_get.2.1 6 = .ok (.iload_n 3, 1) := by decide +kernel
theorem d_RF_get_7 : decode M_RF_get.2.1 7 = .ok (.invokevirtual 78, 3) := by decide +kernel
theorem d_RF_get_10 : decode M_RF_get.2.1 10 = .ok (.ifCond .ne 11, 3) := by decide +kernel
theorem d_RF_get_13 : decode M_RF_get.2.1 13 = .ok (.new 82, 3) := by decide +kernel
theorem d_RF_get_16 : decode M_RF_get.2.1 16 = .ok (.dup, 1) := by decide +kernel
theorem d_RF_get_17 : decode M_RF_get.2.1 17 = .ok (.invokespecial 84, 3) := by decide +kernel
theorem d_RF_get_20 : decode M_RF_get.2.1 20 = .ok (.athrow, 1) := by decide +kernel
theorem d_RF_get_21 : decode M_RF_get.2.1 21 = .ok (.aload_n 0, 1) := by decide +kernel
theorem d_RF_get_22 : decode M_RF_get.2.1 22 = .ok (.getfield 42, 3) := by decide +kernel
theorem d_RF_get_25 : decode M_RF_get.2.1 25 = .ok (.iload_n 1, 1) := by decide +kernel
theorem d_RF_get_26 : decode M_RF_get.2.1 26 = .ok (.iload_n 2, 1) := by decide +kernel
theorem d_RF_get_27 : decode M_RF_get.2.1 27 = .ok (.iload_n 3, 1) := by decide +kernel
theorem d_RF_get_28 : decode M_RF_get.2.1 28 = .ok (.invokevirtual 99, 3) := by decide +kernel
theorem d_RF_get_31 : decode M_RF_get.2.1 31 = .ok (.dreturn, 1) := by decide +kernel
theorem d_RF_bits_0 : decode M_RF_bits.2.1 0 = .ok (.aload_n 0, 1) := by decide +kernel
theorem d_RF_bits_1 : decode M_RF_bits.2.1 1 = .ok (.getfield 42, 3) := by decide +kernel
theorem d_RF_bits_4 : decode M_RF_bits.2.1 4 = .ok (.iload_n 1, 1) := by decide +kernel
theorem d_RF_bits_5 : decode M_RF_bits.2.1 5 = .ok (.iload_n 2, 1) := by decide +kernel
theorem d_RF_bits_6 : decode M_RF_bits.2.1 6 = .ok (.iload_n 3, 1) := by decide +kernel
theorem d_RF_bits_7 : decode M_RF_bits.2.1 7 = .ok (.invokevirtual 78, 3) := by decide +kernel
theorem d_RF_bits_10 : decode M_RF_bits.2.1 10 = .ok (.ifCond .ne 11, 3) := by decide +kernel
theorem d_RF_bits_13 : decode M_RF_bits.2.1 13 = .ok (.new 82, 3) := by decide +kernel
theorem d_RF_bits_16 : decode M_RF_bits.2.1 16 = .ok (.dup, 1) := by decide +kernel
theorem d_RF_bits_17 : decode M_RF_bits.2.1 17 = .ok (.invokespecial 84, 3) := by decide +kernel
theorem d_RF_bits_20 : decode M_RF_bits.2.1 20 = .ok (.athrow, 1) := by decide +kernel
theorem d_RF_bits_21 : decode M_RF_bits.2.1 21 = .ok (.aload_n 0, 1) := by decide +kernel
theorem d_RF_bits_22 : decode M_RF_bits.2.1 22 = .ok (.getfield 42, 3) := by decide +kernel
theorem d_RF_bits_25 : decode M_RF_bits.2.1 25 = .ok (.iload_n 1, 1) := by decide +kernel
theorem d_RF_bits_26 : decode M_RF_bits.2.1 26 = .ok (.iload_n 2, 1) := by decide +kernel
theorem d_RF_bits_27 : decode M_RF_bits.2.1 27 = .ok (.iload_n 3, 1) := by decide +kernel
theorem d_RF_bits_28 : decode M_RF_bits.2.1 28 = .ok (.invokevirtual 103, 3) := by decide +kernel
theorem d_RF_bits_31 : decode M_RF_bits.2.1 31 = .ok (.ireturn, 1) := by decide +kernel
theorem d_RF_encode_0 : decode M_RF_encode.2.1 0 = .ok (.iload_n 1, 1) := by decide +kernel
theorem d_RF_encode_1 : decode M_RF_encode.2.1 1 = .ok (.ifCond .lt 8, 3) := by decide +kernel
theorem d_RF_encode_4 : decode M_RF_encode.2.1 4 = .ok (.iload_n 1, 1) := by decide +kernel
theorem d_RF_encode_5 : decode M_RF_encode.2.1 5 = .ok (.iconst 3, 1) := by decide +kernel
theorem d_RF_encode_6 : decode M_RF_encode.2.1 6 = .ok (.if_icmp .le 11, 3) := by decide +kernel
theorem d_RF_encode_9 : decode M_RF_encode.2.1 9 = .ok (.new 61, 3) := by decide +kernel
theorem d_RF_encode_12 : decode M_RF_encode.2.1 12 = .ok (.dup, 1) := by decide +kernel
theorem d_RF_encode_13 : decode M_RF_encode.2.1 13 = .ok (.invokespecial 63, 3) := by decide +kernel
theorem d_RF_encode_16 : decode M_RF_encode.2.1 16 = .ok (.athrow, 1) := by decide +kernel
theorem d_RF_encode_17 : decode M_RF_encode.2.1 17 = .ok (.aload_n 0, 1) := by decide +kernel
theorem d_RF_encode_18 : decode M_RF_encode.2.1 18 = .ok (.getfield 42, 3) := by decide +kernel
theorem d_RF_encode_21 : decode M_RF_encode.2.1 21 = .ok (.getfield 68, 3) := by decide +kernel
theorem d_RF_encode_24 : decode M_RF_encode.2.1 24 = .ok (.ifCond .ne 11, 3) := by decide +kernel
theorem d_RF_encode_27 : decode M_RF_encode.2.1 27 = .ok (.new 71, 3) := by decide +kernel
theorem d_RF_encode_30 : decode M_RF_encode.2.1 30 = .ok (.dup, 1) := by decide +kernel
theorem d_RF_encode_31 : decode M_RF_encode.2.1 31 = .ok (.invokespecial 73, 3) := by decide +kernel
theorem d_RF_encode_34 : decode M_RF_encode.2.1 34 = .ok (.athrow, 1) := by decide +kernel
theorem d_RF_encode_35 : decode M_RF_encode.2.1 35 = .ok (.aload_n 0, 1) := by decide +kernel
theorem d_RF_encode_36 : decode M_RF_encode.2.1 36 = .ok (.getfield 28, 3) := by decide +kernel
theorem d_RF_encode_39 : decode M_RF_encode.2.1 39 = .ok (.aload_n 0, 1) := by decide +kernel
theorem d_RF_encode_40 : decode M_RF_encode.2.1 40 = .ok (.getfield 42, 3) := by decide +kernel
theorem d_RF_encode_43 : decode M_RF_encode.2.1 43 = .ok (.iload_n 1, 1) := by decide +kernel
theorem d_RF_encode_44 : decode M_RF_encode.2.1 44 = .ok (.aload_n 0, 1) := by decide +kernel
theorem d_RF_encode_45 : decode M_RF_encode.2.1 45 = .ok (.getfield 14, 3) := by decide +kernel
theorem d_RF_encode_48 : decode M_RF_encode.2.1 48 = .ok (.aload_n 0, 1) := by decide +kernel
theorem d_RF_encode_49 : decode M_RF_encode.2.1 49 = .ok (.getfield 21, 3) := by decide +kernel
theorem d_RF_encode_52 : decode M_RF_encode.2.1 52 = .ok (.invokevirtual 107, 3) := by decide +kernel
theorem d_RF_encode_55 : decode M_RF_encode.2.1 55 = .ok (.aload_n 0, 1) := by decide +kernel
theorem d_RF_encode_56 : decode M_RF_encode.2.1 56 = .ok (.getfield 14, 3) := by decide +kernel
theorem d_RF_encode_59 : decode M_RF_encode.2.1 59 = .ok (.getfield 111, 3) := by decide +kernel
theorem d_RF_encode_62 : decode M_RF_encode.2.1 62 = .ok (.ireturn, 1) := by decide +kernel
theorem d_RF_linesOfChunk_0 : decode M_RF_linesOfChunk.2.1 0 = .ok (.iload_n 0, 1) := by decide +kernel
theorem d_RF_linesOfChunk_1 : decode M_RF_linesOfChunk.2.1 1 = .ok (.ifCond .eq 8, 3) := by decide +kernel
theorem d_RF_linesOfChunk_4 : decode M_RF_linesOfChunk.2.1 4 = .ok (.iload_n 0, 1) := by decide +kernel
theorem d_RF_linesOfChunk_5 : decode M_RF_linesOfChunk.2.1 5 = .ok (.iconst 1, 1) := by decide +kernel
theorem d_RF_linesOfChunk_6 : decode M_RF_linesOfChunk.2.1 6 = .ok (.if_icmp .ne 7, 3) := by decide +kernel
theorem d_RF_linesOfChunk_9 : decode M_RF_linesOfChunk.2.1 9 = .ok (.iconst 1, 1) := by decide +kernel
theorem d_RF_linesOfChunk_10 : decode M_RF_linesOfChunk.2.1 10 = .ok (.goto 4, 3) := by decide +kernel
theorem d_RF_linesOfChunk_13 : decode M_RF_linesOfChunk.2.1 13 = .ok (.iconst 4, 1) := by decide +kernel
theorem d_RF_linesOfChunk_14 : decode M_RF_linesOfChunk.2.1 14 = .ok (.ireturn, 1) := by decide +kernel
theorem d_RF_bytesOfSample_0 : decode M_RF_bytesOfSample.2.1 0 = .ok (.iload_n 0, 1) := by decide +kernel
theorem d_RF_bytesOfSample_1 : decode M_RF_bytesOfSample.2.1 1 = .ok (.iconst 1, 1) := by decide +kernel
theorem d_RF_bytesOfSample_2 : decode M_RF_bytesOfSample.2.1 2 = .ok (.if_icmp .eq 5, 3) := by decide +kernel
theorem d_RF_bytesOfSample_5 : decode M_RF_bytesOfSample.2.1 5 = .ok (.iconst 2, 1) := by decide +kernel
theorem d_RF_bytesOfSample_6 : decode M_RF_bytesOfSample.2.1 6 = .ok (.ireturn, 1) := by decide +kernel
theorem d_RF_bytesOfSample_7 : decode M_RF_bytesOfSample.2.1 7 = .ok (.iload_n 1, 1) := by decide +kernel
theorem d_RF_bytesOfSample_8 : decode M_RF_bytesOfSample.2.1 8 = .ok (.iconst 2, 1) := by decide +kernel
theorem d_RF_bytesOfSample_9 : decode M_RF_bytesOfSample.2.1 9 = .ok (.if_icmp .ne 7, 3) := by decide +kernel
theorem d_RF_bytesOfSample_12 : decode M_RF_bytesOfSample.2.1 12 = .ok (.iconst 3, 1) := by decide +kernel
theorem d_RF_bytesOfSample_13 : decode M_RF_bytesOfSample.2.1 13 = .ok (.goto 4, 3) := by decide +kernel
theorem d_RF_bytesOfSample_16 : decode M_RF_bytesOfSample.2.1 16 = .ok (.iconst 4, 1) := by decide +kernel
theorem d_RF_bytesOfSample_17 : decode M_RF_bytesOfSample.2.1 17 = .ok (.ireturn, 1) := by decide +kernel
theorem d_RF_decode_0 : decode M_RF_decode.2.1 0 = .ok (.aload_n 0, 1) := by decide +kernel
theorem d_RF_decode_1 : decode M_RF_decode.2.1 1 = .ok (.getfield 35, 3) := by decide +kernel
theorem d_RF_decode_4 : decode M_RF_decode.2.1 4 = .ok (.aload_n 0, 1) := by decide +kernel
theorem d_RF_decode_5 : decode M_RF_decode.2.1 5 = .ok (.getfield 14, 3) := by decide +kernel
theorem d_RF_decode_8 : decode M_RF_decode.2.1 8 = .ok (.aload_n 0, 1) := by decide +kernel
theorem d_RF_decode_9 : decode M_RF_decode.2.1 9 = .ok (.getfield 46, 3) := by decide +kernel
theorem d_RF_decode_12 : decode M_RF_decode.2.1 12 = .ok (.aload_n 0, 1) := by decide +kernel
theorem d_RF_decode_13 : decode M_RF_decode.2.1 13 = .ok (.getfield 21, 3) := by decide +kernel
theorem d_RF_decode_16 : decode M_RF_decode.2.1 16 = .ok (.invokevirtual 114, 3) := by decide +kernel
theorem d_RF_decode_19 : decode M_RF_decode.2.1 19 = .ok (.istore_n 1, 1) := by decide +kernel
theorem d_RF_decode_20 : decode M_RF_decode.2.1 20 = .ok (.aload_n 0, 1) := by decide +kernel
theorem d_RF_decode_21 : decode M_RF_decode.2.1 21 = .ok (.aload_n 0, 1) := by decide +kernel
theorem d_RF_decode_22 : decode M_RF_decode.2.1 22 = .ok (.getfield 35, 3) := by decide +kernel
theorem d_RF_decode_25 : decode M_RF_decode.2.1 25 = .ok (.getfield 118, 3) := by decide +kernel
theorem d_RF_decode_28 : decode M_RF_decode.2.1 28 = .ok (.putfield 49, 3) := by decide +kernel
theorem d_RF_decode_31 : decode M_RF_decode.2.1 31 = .ok (.iload_n 1, 1) := by decide +kernel
theorem d_RF_decode_32 : decode M_RF_decode.2.1 32 = .ok (.ifCond .ne 21, 3) := by decide +kernel
theorem d_RF_decode_35 : decode M_RF_decode.2.1 35 = .ok (.aload_n 0, 1) := by decide +kernel
theorem d_RF_decode_36 : decode M_RF_decode.2.1 36 = .ok (.getfield 35, 3) := by decide +kernel
theorem d_RF_decode_39 : decode M_RF_decode.2.1 39 = .ok (.getfield 121, 3) := by decide +kernel
theorem d_RF_decode_42 : decode M_RF_decode.2.1 42 = .ok (.ifCond .ne 11, 3) := by decide +kernel
theorem d_RF_decode_45 : decode M_RF_decode.2.1 45 = .ok (.new 61, 3) := by decide +kernel
theorem d_RF_decode_48 : decode M_RF_decode.2.1 48 = .ok (.dup, 1) := by decide +kernel
theorem d_RF_decode_49 : decode M_RF_decode.2.1 49 = .ok (.invokespecial 63, 3) := by decide +kernel
theorem d_RF_decode_52 : decode M_RF_decode.2.1 52 = .ok (.athrow, 1) := by decide +kernel
theorem d_RF_decode_53 : decode M_RF_decode.2.1 53 = .ok (.iload_n 1, 1) := by decide +kernel
theorem d_RF_decode_54 : decode M_RF_decode.2.1 54 = .ok (.ifCond .ne 11, 3) := by decide +kernel
theorem d_RF_decode_57 : decode M_RF_decode.2.1 57 = .ok (.new 125, 3) := by decide +kernel
theorem d_RF_decode_60 : decode M_RF_decode.2.1 60 = .ok (.dup, 1) := by decide +kernel
theorem d_RF_decode_61 : decode M_RF_decode.2.1 61 = .ok (.invokespecial 127, 3) := by decide +kernel
theorem d_RF_decode_64 : decode M_RF_decode.2.1 64 = .ok (.athrow, 1) := by decide +kernel
theorem d_RF_decode_65 : decode M_RF_decode.2.1 65 = .ok (.aload_n 0, 1) := by decide +kernel
theorem d_RF_decode_66 : decode M_RF_decode.2.1 66 = .ok (.getfield 42, 3) := by decide +kernel
theorem d_RF_decode_69 : decode M_RF_decode.2.1 69 = .ok (.astore_n 2, 1) := by decide +kernel
theorem d_RF_decode_70 : decode M_RF_decode.2.1 70 = .ok (.aload_n 0, 1) := by decide +kernel
theorem d_RF_decode_71 : decode M_RF_decode.2.1 71 = .ok (.aload_n 0, 1) := by decide +kernel
theorem d_RF_decode_72 : decode M_RF_decode.2.1 72 = .ok (.getfield 46, 3) := by decide +kernel
theorem d_RF_decode_75 : decode M_RF_decode.2.1 75 = .ok (.putfield 42, 3) := by decide +kernel
theorem d_RF_decode_78 : decode M_RF_decode.2.1 78 = .ok (.aload_n 0, 1) := by decide +kernel
theorem d_RF_decode_79 : decode M_RF_decode.2.1 79 = .ok (.aload_n 2, 1) := by decide +kernel
theorem d_RF_decode_80 : decode M_RF_decode.2.1 80 = .ok (.putfield 46, 3) := by decide +kernel
theorem d_RF_decode_83 : decode M_RF_decode.2.1 83 = .ok (.aload_n 0, 1) := by decide +kernel
theorem d_RF_decode_84 : decode M_RF_decode.2.1 84 = .ok (.getfield 35, 3) := by decide +kernel
theorem d_RF_decode_87 : decode M_RF_decode.2.1 87 = .ok (.getfield 128, 3) := by decide +kernel
theorem d_RF_decode_90 : decode M_RF_decode.2.1 90 = .ok (.ireturn, 1) := by decide +kernel
theorem d_RF_file_0 : decode M_RF_file.2.1 0 = .ok (.iload_n 1, 1) := by decide +kernel
theorem d_RF_file_1 : decode M_RF_file.2.1 1 = .ok (.iconst (-1), 1) := by decide +kernel
theorem d_RF_file_2 : decode M_RF_file.2.1 2 = .ok (.if_icmp .lt 14, 3) := by decide +kernel
theorem d_RF_file_5 : decode M_RF_file.2.1 5 = .ok (.iload_n 1, 1) := by decide +kernel
theorem d_RF_file_6 : decode M_RF_file.2.1 6 = .ok (.aload_n 0, 1) := by decide +kernel
theorem d_RF_file_7 : decode M_RF_file.2.1 7 = .ok (.getfield 14, 3) := by decide +kernel
theorem d_RF_file_10 : decode M_RF_file.2.1 10 = .ok (.getfield 111, 3) := by decide +kernel
theorem d_RF_file_13 : decode M_RF_file.2.1 13 = .ok (.if_icmp .lt 11, 3) := by decide +kernel
theorem d_RF_file_16 : decode M_RF_file.2.1 16 = .ok (.new 82, 3) := by decide +kernel
theorem d_RF_file_19 : decode M_RF_file.2.1 19 = .ok (.dup, 1) := by decide +kernel
theorem d_RF_file_20 : decode M_RF_file.2.1 20 = .ok (.invokespecial 84, 3) := by decide +kernel
theorem d_RF_file_23 : decode M_RF_file.2.1 23 = .ok (.athrow, 1) := by decide +kernel
theorem d_RF_file_24 : decode M_RF_file.2.1 24 = .ok (.iload_n 1, 1) := by decide +kernel
theorem d_RF_file_25 : decode M_RF_file.2.1 25 = .ok (.iconst (-1), 1) := by decide +kernel
theorem d_RF_file_26 : decode M_RF_file.2.1 26 = .ok (.if_icmp .ne 13, 3) := by decide +kernel
theorem d_RF_file_29 : decode M_RF_file.2.1 29 = .ok (.aload_n 0, 1) := by decide +kernel
theorem d_RF_file_30 : decode M_RF_file.2.1 30 = .ok (.getfield 14, 3) := by decide +kernel
theorem d_RF_file_33 : decode M_RF_file.2.1 33 = .ok (.getfield 111, 3) := by decide +kernel
theorem d_RF_file_36 : decode M_RF_file.2.1 36 = .ok (.goto 11, 3) := by decide +kernel
theorem d_RF_file_39 : decode M_RF_file.2.1 39 = .ok (.aload_n 0, 1) := by decide +kernel
theorem d_RF_file_40 : decode M_RF_file.2.1 40 = .ok (.getfield 14, 3) := by decide +kernel
theorem d_RF_file_43 : decode M_RF_file.2.1 43 = .ok (.iload_n 1, 1) := by decide +kernel
theorem d_RF_file_44 : decode M_RF_file.2.1 44 = .ok (.invokevirtual 131, 3) := by decide +kernel
theorem d_RF_file_47 : decode M_RF_file.2.1 47 = .ok (.ireturn, 1) := by decide +kernel
theorem d_RF_patch_0 : decode M_RF_patch.2.1 0 = .ok (.iload_n 2, 1) := by decide +kernel
theorem d_RF_patch_1 : decode M_RF_patch.2.1 1 = .ok (.ifCond .lt 10, 3) := by decide +kernel
theorem d_RF_patch_4 : decode M_RF_patch.2.1 4 = .ok (.iload_n 2, 1) := by decide +kernel
theorem d_RF_patch_5 : decode M_RF_patch.2.1 5 = .ok (.sipush 255, 3) := by decide +kernel
theorem d_RF_patch_8 : decode M_RF_patch.2.1 8 = .ok (.if_icmp .le 11, 3) := by decide +kernel
theorem d_RF_patch_11 : decode M_RF_patch.2.1 11 = .ok (.new 61, 3) := by decide +kernel
theorem d_RF_patch_14 : decode M_RF_patch.2.1 14 = .ok (.dup, 1) := by decide +kernel
theorem d_RF_patch_15 : decode M_RF_patch.2.1 15 = .ok (.invokespecial 63, 3) := by decide +kernel
theorem d_RF_patch_18 : decode M_RF_patch.2.1 18 = .ok (.athrow, 1) := by decide +kernel
theorem d_RF_patch_19 : decode M_RF_patch.2.1 19 = .ok (.iload_n 1, 1) := by decide +kernel
theorem d_RF_patch_20 : decode M_RF_patch.2.1 20 = .ok (.ifCond .lt 21, 3) := by decide +kernel
theorem d_RF_patch_23 : decode M_RF_patch.2.1 23 = .ok (.iload_n 1, 1) := by decide +kernel
theorem d_RF_patch_24 : decode M_RF_patch.2.1 24 = .ok (.aload_n 0, 1) := by decide +kernel
theorem d_RF_patch_25 : decode M_RF_patch.2.1 25 = .ok (.getfield 14, 3) := by decide +kernel
theorem d_RF_patch_28 : decode M_RF_patch.2.1 28 = .ok (.getfield 111, 3) := by decide +kernel
theorem d_RF_patch_31 : decode M_RF_patch.2.1 31 = .ok (.if_icmp .gt 10, 3) := by decide +kernel
theorem d_RF_patch_34 : decode M_RF_patch.2.1 34 = .ok (.iload_n 1, 1) := by decide +kernel
theorem d_RF_patch_35 : decode M_RF_patch.2.1 35 = .ok (.sipush 1500, 3) := by decide +kernel
theorem d_RF_patch_38 : decode M_RF_patch.2.1 38 = .ok (.if_icmp .lt 11, 3) := by decide +kernel
theorem d_RF_patch_41 : decode M_RF_patch.2.1 41 = .ok (.new 82, 3) := by decide +kernel
theorem d_RF_patch_44 : decode M_RF_patch.2.1 44 = .ok (.dup, 1) := by decide +kernel
theorem d_RF_patch_45 : decode M_RF_patch.2.1 45 = .ok (.invokespecial 84, 3) := by decide +kernel
theorem d_RF_patch_48 : decode M_RF_patch.2.1 48 = .ok (.athrow, 1) := by decide +kernel
theorem d_RF_patch_49 : decode M_RF_patch.2.1 49 = .ok (.iload_n 1, 1) := by decide +kernel
theorem d_RF_patch_50 : decode M_RF_patch.2.1 50 = .ok (.aload_n 0, 1) := by decide +kernel
theorem d_RF_patch_51 : decode M_RF_patch.2.1 51 = .ok (.getfield 14, 3) := by decide +kernel
theorem d_RF_patch_54 : decode M_RF_patch.2.1 54 = .ok (.getfield 111, 3) := by decide +kernel
theorem d_RF_patch_57 : decode M_RF_patch.2.1 57 = .ok (.if_icmp .ne 13, 3) := by decide +kernel
theorem d_RF_patch_60 : decode M_RF_patch.2.1 60 = .ok (.aload_n 0, 1) := by decide +kernel
theorem d_RF_patch_61 : decode M_RF_patch.2.1 61 = .ok (.getfield 14, 3) := by decide +kernel
theorem d_RF_patch_64 : decode M_RF_patch.2.1 64 = .ok (.iload_n 2, 1) := by decide +kernel
theorem d_RF_patch_65 : decode M_RF_patch.2.1 65 = .ok (.invokevirtual 134, 3) := by decide +kernel
theorem d_RF_patch_68 : decode M_RF_patch.2.1 68 = .ok (.iconst (-1), 1) := by decide +kernel
theorem d_RF_patch_69 : decode M_RF_patch.2.1 69 = .ok (.ireturn, 1) := by decide +kernel
theorem d_RF_patch_70 : decode M_RF_patch.2.1 70 = .ok (.aload_n 0, 1) := by decide +kernel
theorem d_RF_patch_71 : decode M_RF_patch.2.1 71 = .ok (.getfield 14, 3) := by decide +kernel
theorem d_RF_patch_74 : decode M_RF_patch.2.1 74 = .ok (.iload_n 1, 1) := by decide +kernel
theorem d_RF_patch_75 : decode M_RF_patch.2.1 75 = .ok (.invokevirtual 131, 3) := by decide +kernel
theorem d_RF_patch_78 : decode M_RF_patch.2.1 78 = .ok (.istore_n 3, 1) := by decide +kernel
theorem d_RF_patch_79 : decode M_RF_patch.2.1 79 = .ok (.aload_n 0, 1) := by decide +kernel
theorem d_RF_patch_80 : decode M_RF_patch.2.1 80 = .ok (.getfield 14, 3) := by decide +kernel
theorem d_RF_patch_83 : decode M_RF_patch.2.1 83 = .ok (.iload_n 1, 1) := by decide +kernel
theorem d_RF_patch_84 : decode M_RF_patch.2.1 84 = .ok (.iload_n 2, 1) := by decide +kernel
theorem d_RF_patch_85 : decode M_RF_patch.2.1 85 = .ok (.invokevirtual 137, 3) := by decide +kernel
theorem d_RF_patch_88 : decode M_RF_patch.2.1 88 = .ok (.iload_n 3, 1) := by decide +kernel
theorem d_RF_patch_89 : decode M_RF_patch.2.1 89 = .ok (.ireturn, 1) := by decide +kernel
theorem d_RF_cut_0 : decode M_RF_cut.2.1 0 = .ok (.iload_n 1, 1) := by decide +kernel
theorem d_RF_cut_1 : decode M_RF_cut.2.1 1 = .ok (.ifCond .lt 14, 3) := by decide +kernel
theorem d_RF_cut_4 : decode M_RF_cut.2.1 4 = .ok (.iload_n 1, 1) := by decide +kernel
theorem d_RF_cut_5 : decode M_RF_cut.2.1 5 = .ok (.aload_n 0, 1) := by decide +kernel
theorem d_RF_cut_6 : decode M_RF_cut.2.1 6 = .ok (.getfield 14, 3) := by decide +kernel
theorem d_RF_cut_9 : decode M_RF_cut.2.1 9 = .ok (.getfield 111, 3) := by decide +kernel
theorem d_RF_cut_12 : decode M_RF_cut.2.1 12 = .ok (.if_icmp .le 11, 3) := by decide +kernel
theorem d_RF_cut_15 : decode M_RF_cut.2.1 15 = .ok (.new 61, 3) := by decide +kernel
theorem d_RF_cut_18 : decode M_RF_cut.2.1 18 = .ok (.dup, 1) := by decide +kernel
theorem d_RF_cut_19 : decode M_RF_cut.2.1 19 = .ok (.invokespecial 63, 3) := by decide +kernel
theorem d_RF_cut_22 : decode M_RF_cut.2.1 22 = .ok (.athrow, 1) := by decide +kernel
theorem d_RF_cut_23 : decode M_RF_cut.2.1 23 = .ok (.aload_n 0, 1) := by decide +kernel
theorem d_RF_cut_24 : decode M_RF_cut.2.1 24 = .ok (.getfield 14, 3) := by decide +kernel
theorem d_RF_cut_27 : decode M_RF_cut.2.1 27 = .ok (.getfield 111, 3) := by decide +kernel
theorem d_RF_cut_30 : decode M_RF_cut.2.1 30 = .ok (.iload_n 1, 1) := by decide +kernel
theorem d_RF_cut_31 : decode M_RF_cut.2.1 31 = .ok (.isub, 1) := by decide +kernel
theorem d_RF_cut_32 : decode M_RF_cut.2.1 32 = .ok (.istore_n 2, 1) := by decide +kernel
theorem d_RF_cut_33 : decode M_RF_cut.2.1 33 = .ok (.aload_n 0, 1) := by decide +kernel
theorem d_RF_cut_34 : decode M_RF_cut.2.1 34 = .ok (.getfield 14, 3) := by decide +kernel
theorem d_RF_cut_37 : decode M_RF_cut.2.1 37 = .ok (.iload_n 1, 1) := by decide +kernel
theorem d_RF_cut_38 : decode M_RF_cut.2.1 38 = .ok (.putfield 111, 3) := by decide +kernel
theorem d_RF_cut_41 : decode M_RF_cut.2.1 41 = .ok (.iload_n 2, 1) := by decide +kernel
theorem d_RF_cut_42 : decode M_RF_cut.2.1 42 = .ok (.ireturn, 1) := by decide +kernel
theorem d_RF_count_0 : decode M_RF_count.2.1 0 = .ok (.iload_n 1, 1) := by decide +kernel
theorem d_RF_count_1 : decode M_RF_count.2.1 1 = .ok (.bipush 10, 2) := by decide +kernel
theorem d_RF_count_3 : decode M_RF_count.2.1 3 = .ok (.irem, 1) := by decide +kernel
theorem d_RF_count_4 : decode M_RF_count.2.1 4 = .ok (.istore_n 2, 1) := by decide +kernel
theorem d_RF_count_5 : decode M_RF_count.2.1 5 = .ok (.iload_n 1, 1) := by decide +kernel
theorem d_RF_count_6 : decode M_RF_count.2.1 6 = .ok (.ifCond .lt 14, 3) := by decide +kernel
theorem d_RF_count_9 : decode M_RF_count.2.1 9 = .ok (.iload_n 1, 1) := by decide +kernel
theorem d_RF_count_10 : decode M_RF_count.2.1 10 = .ok (.bipush 50, 2) := by decide +kernel
theorem d_RF_count_12 : decode M_RF_count.2.1 12 = .ok (.if_icmp .ge 8, 3) := by decide +kernel
theorem d_RF_count_15 : decode M_RF_count.2.1 15 = .ok (.iload_n 2, 1) := by decide +kernel
theorem d_RF_count_16 : decode M_RF_count.2.1 16 = .ok (.iconst 3, 1) := by decide +kernel
theorem d_RF_count_17 : decode M_RF_count.2.1 17 = .ok (.if_icmp .lt 11, 3) := by decide +kernel
theorem d_RF_count_20 : decode M_RF_count.2.1 20 = .ok (.new 61, 3) := by decide +kernel
theorem d_RF_count_23 : decode M_RF_count.2.1 23 = .ok (.dup, 1) := by decide +kernel
theorem d_RF_count_24 : decode M_RF_count.2.1 24 = .ok (.invokespecial 63, 3) := by decide +kernel
theorem d_RF_count_27 : decode M_RF_count.2.1 27 = .ok (.athrow, 1) := by decide +kernel
theorem d_RF_count_28 : decode M_RF_count.2.1 28 = .ok (.iload_n 1, 1) := by decide +kernel
theorem d_RF_count_29 : decode M_RF_count.2.1 29 = .ok (.tableswitch 51 0 2 #[27, 35, 43], 27) := by decide +kernel
theorem d_RF_count_56 : decode M_RF_count.2.1 56 = .ok (.aload_n 0, 1) := by decide +kernel
theorem d_RF_count_57 : decode M_RF_count.2.1 57 = .ok (.getfield 42, 3) := by decide +kernel
theorem d_RF_count_60 : decode M_RF_count.2.1 60 = .ok (.getfield 140, 3) := by decide +kernel
theorem d_RF_count_63 : decode M_RF_count.2.1 63 = .ok (.ireturn, 1) := by decide +kernel
theorem d_RF_count_64 : decode M_RF_count.2.1 64 = .ok (.aload_n 0, 1) := by decide +kernel
theorem d_RF_count_65 : decode M_RF_count.2.1 65 = .ok (.getfield 42, 3) := by decide +kernel
theorem d_RF_count_68 : decode M_RF_count.2.1 68 = .ok (.getfield 143, 3) := by decide +kernel
theorem d_RF_count_71 : decode M_RF_count.2.1 71 = .ok (.ireturn, 1) := by decide +kernel
theorem d_RF_count_72 : decode M_RF_count.2.1 72 = .ok (.aload_n 0, 1) := by decide +kernel
theorem d_RF_count_73 : decode M_RF_count.2.1 73 = .ok (.getfield 42, 3) := by decide +kernel
theorem d_RF_count_76 : decode M_RF_count.2.1 76 = .ok (.getfield 68, 3) := by decide +kernel
theorem d_RF_count_79 : decode M_RF_count.2.1 79 = .ok (.ireturn, 1) := by decide +kernel
theorem d_RF_count_80 : decode M_RF_count.2.1 80 = .ok (.iload_n 2, 1) := by decide +kernel
theorem d_RF_count_81 : decode M_RF_count.2.1 81 = .ok (.aload_n 0, 1) := by decide +kernel
theorem d_RF_count_82 : decode M_RF_count.2.1 82 = .ok (.getfield 42, 3) := by decide +kernel
theorem d_RF_count_85 : decode M_RF_count.2.1 85 = .ok (.getfield 68, 3) := by decide +kernel
theorem d_RF_count_88 : decode M_RF_count.2.1 88 = .ok (.if_icmp .ge 18, 3) := by decide +kernel
theorem d_RF_count_91 : decode M_RF_count.2.1 91 = .ok (.aload_n 0, 1) := by decide +kernel
theorem d_RF_count_92 : decode M_RF_count.2.1 92 = .ok (.getfield 42, 3) := by decide +kernel
theorem d_RF_count_95 : decode M_RF_count.2.1 95 = .ok (.iload_n 1, 1) := by decide +kernel
theorem d_RF_count_96 : decode M_RF_count.2.1 96 = .ok (.bipush 10, 2) := by decide +kernel
theorem d_RF_count_98 : decode M_RF_count.2.1 98 = .ok (.idiv, 1) := by decide +kernel
theorem d_RF_count_99 : decode M_RF_count.2.1 99 = .ok (.iload_n 2, 1) := by decide +kernel
theorem d_RF_count_100 : decode M_RF_count.2.1 100 = .ok (.invokevirtual 146, 3) := by decide +kernel
theorem d_RF_count_103 : decode M_RF_count.2.1 103 = .ok (.goto 4, 3) := by decide +kernel
theorem d_RF_count_106 : decode M_RF_count.2.1 106 = .ok (.iconst 0, 1) := by decide +kernel
theorem d_RF_count_107 : decode M_RF_count.2.1 107 = .ok (.ireturn, 1) := by decide +kernel
theorem d_RF_spread_0 : decode M_RF_spread.2.1 0 = .ok (.dload_n 2, 1) := by decide +kernel
theorem d_RF_spread_1 : decode M_RF_spread.2.1 1 = .ok (.invokestatic 74, 3) := by decide +kernel
theorem d_RF_spread_4 : decode M_RF_spread.2.1 4 = .ok (.ifCond .ne 11, 3) := by decide +kernel
theorem d_RF_spread_7 : decode M_RF_spread.2.1 7 = .ok (.new 61, 3) := by decide +kernel
theorem d_RF_spread_10 : decode M_RF_spread.2.1 10 = .ok (.dup, 1) := by decide +kernel
theorem d_RF_spread_11 : decode M_RF_spread.2.1 11 = .ok (.invokespecial 63, 3) := by decide +kernel
theorem d_RF_spread_14 : decode M_RF_spread.2.1 14 = .ok (.athrow, 1) := by decide +kernel
theorem d_RF_spread_15 : decode M_RF_spread.2.1 15 = .ok (.iload_n 1, 1) := by decide +kernel
theorem d_RF_spread_16 : decode M_RF_spread.2.1 16 = .ok (.ifCond .lt 14, 3) := by decide +kernel
theorem d_RF_spread_19 : decode M_RF_spread.2.1 19 = .ok (.iload_n 1, 1) := by decide +kernel
theorem d_RF_spread_20 : decode M_RF_spread.2.1 20 = .ok (.aload_n 0, 1) := by decide +kernel
theorem d_RF_spread_21 : decode M_RF_spread.2.1 21 = .ok (.getfield 42, 3) := by decide +kernel
theorem d_RF_spread_24 : decode M_RF_spread.2.1 24 = .ok (.getfield 68, 3) := by decide +kernel
theorem d_RF_spread_27 : decode M_RF_spread.2.1 27 = .ok (.if_icmp .lt 11, 3) := by decide +kernel
theorem d_RF_spread_30 : decode M_RF_spread.2.1 30 = .ok (.new 82, 3) := by decide +kernel
theorem d_RF_spread_33 : decode M_RF_spread.2.1 33 = .ok (.dup, 1) := by decide +kernel
theorem d_RF_spread_34 : decode M_RF_spread.2.1 34 = .ok (.invokespecial 84, 3) := by decide +kernel
theorem d_RF_spread_37 : decode M_RF_spread.2.1 37 = .ok (.athrow, 1) := by decide +kernel
theorem d_RF_spread_38 : decode M_RF_spread.2.1 38 = .ok (.aload_n 0, 1) := by decide +kernel
theorem d_RF_spread_39 : decode M_RF_spread.2.1 39 = .ok (.getfield 42, 3) := by decide +kernel
theorem d_RF_spread_42 : decode M_RF_spread.2.1 42 = .ok (.iload_n 1, 1) := by decide +kernel
theorem d_RF_spread_43 : decode M_RF_spread.2.1 43 = .ok (.dload_n 2, 1) := by decide +kernel
theorem d_RF_spread_44 : decode M_RF_spread.2.1 44 = .ok (.invokevirtual 150, 3) := by decide +kernel
theorem d_RF_spread_47 : decode M_RF_spread.2.1 47 = .ok (.dreturn, 1) := by decide +kernel
theorem d_By_init_0 : decode M_By_init.2.1 0 = .ok (.aload_n 0, 1) := by decide +kernel
theorem d_By_init_1 : decode M_By_init.2.1 1 = .ok (.invokespecial 1, 3) := by decide +kernel
theorem d_By_init_4 : decode M_By_init.2.1 4 = .ok (.aload_n 0, 1) := by decide +kernel
theorem d_By_init_5 : decode M_By_init.2.1 5 = .ok (.iload_n 1, 1) := by decide +kernel
theorem d_By_init_6 : decode M_By_init.2.1 6 = .ok (.newarray .int, 2) := by decide +kernel
theorem d_By_init_8 : decode M_By_init.2.1 8 = .ok (.putfield 7, 3) := by decide +kernel
theorem d_By_init_11 : decode M_By_init.2.1 11 = .ok (.return_, 1) := by decide +kernel
theorem d_By_clear_0 : decode M_By_clear.2.1 0 = .ok (.aload_n 0, 1) := by decide +kernel
theorem d_By_clear_1 : decode M_By_clear.2.1 1 = .ok (.iconst 0, 1) := by decide +kernel
theorem d_By_clear_2 : decode M_By_clear.2.1 2 = .ok (.putfield 13, 3) := by decide +kernel
theorem d_By_clear_5 : decode M_By_clear.2.1 5 = .ok (.aload_n 0, 1) := by decide +kernel
theorem d_By_clear_6 : decode M_By_clear.2.1 6 = .ok (.iconst 0, 1) := by decide +kernel
theorem d_By_clear_7 : decode M_By_clear.2.1 7 = .ok (.putfield 17, 3) := by decide +kernel
theorem d_By_clear_10 : decode M_By_clear.2.1 10 = .ok (.return_, 1) := by decide +kernel
theorem d_By_add_0 : decode M_By_add.2.1 0 = .ok (.aload_n 0, 1) := by decide +kernel
theorem d_By_add_1 : decode M_By_add.2.1 1 = .ok (.getfield 13, 3) := by decide +kernel
theorem d_By_add_4 : decode M_By_add.2.1 4 = .ok (.aload_n 0, 1) := by decide +kernel
theorem d_By_add_5 : decode M_By_add.2.1 5 = .ok (.getfield 7, 3) := by decide +kernel
theorem d_By_add_8 : decode M_By_add.2.1 8 = .ok (.arraylength, 1) := by decide +kernel
theorem d_By_add_9 : decode M_By_add.2.1 9 = .ok (.if_icmp .ge 27, 3) := by decide +kernel
theorem d_By_add_12 : decode M_By_add.2.1 12 = .ok (.aload_n 0, 1) := by decide +kernel
theorem d_By_add_13 : decode M_By_add.2.1 13 = .ok (.getfield 7, 3) := by decide +kernel
theorem d_By_add_16 : decode M_By_add.2.1 16 = .ok (.aload_n 0, 1) := by decide +kernel
theorem d_By_add_17 : decode M_By_add.2.1 17 = .ok (.getfield 13, 3) := by decide +kernel
theorem d_By_add_20 : decode M_By_add.2.1 20 = .ok (.iload_n 1, 1) := by decide +kernel
theorem d_By_add_21 : decode M_By_add.2.1 21 = .ok (.sipush 255, 3) := by decide +kernel
theorem d_By_add_24 : decode M_By_add.2.1 24 = .ok (.iand, 1) := by decide +kernel
theorem d_By_add_25 : decode M_By_add.2.1 25 = .ok (.iastore, 1) := by decide +kernel
theorem d_By_add_26 : decode M_By_add.2.1 26 = .ok (.aload_n 0, 1) := by decide +kernel
theorem d_By_add_27 : decode M_By_add.2.1 27 = .ok (.dup, 1) := by decide +kernel
theorem d_By_add_28 : decode M_By_add.2.1 28 = .ok (.getfield 13, 3) := by decide +kernel
theorem d_By_add_31 : decode M_By_add.2.1 31 = .ok (.iconst 1, 1) := by decide +kernel
theorem d_By_add_32 : decode M_By_add.2.1 32 = .ok (.iadd, 1) := by decide +kernel
theorem d_By_add_33 : decode M_By_add.2.1 33 = .ok (.putfield 13, 3) := by decide +kernel
theorem d_By_add_36 : decode M_By_add.2.1 36 = .ok (.return_, 1) := by decide +kernel
theorem d_By_addNumber_0 : decode M_By_addNumber.2.1 0 = .ok (.iconst 0, 1) := by decide +kernel
theorem d_By_addNumber_1 : decode M_By_addNumber.2.1 1 = .ok (.istore_n 3, 1) := by decide +kernel
theorem d_By_addNumber_2 : decode M_By_addNumber.2.1 2 = .ok (.iload_n 3, 1) := by decide +kernel
theorem d_By_addNumber_3 : decode M_By_addNumber.2.1 3 = .ok (.iload_n 2, 1) := by decide +kernel
theorem d_By_addNumber_4 : decode M_By_addNumber.2.1 4 = .ok (.if_icmp .ge 19, 3) := by decide +kernel
theorem d_By_addNumber_7 : decode M_By_addNumber.2.1 7 = .ok (.aload_n 0, 1) := by decide +kernel
theorem d_By_addNumber_8 : decode M_By_addNumber.2.1 8 = .ok (.iload_n 1, 1) := by decide +kernel
theorem d_By_addNumber_9 : decode M_By_addNumber.2.1 9 = .ok (.bipush 8, 2) := by decide +kernel
theorem d_By_addNumber_11 : decode M_By_addNumber.2.1 11 = .ok (.iload_n 3, 1) := by decide +kernel
theorem d_By_addNumber_12 : decode M_By_addNumber.2.1 12 = .ok (.imul, 1) := by decide +kernel
theorem d_By_addNumber_13 : decode M_By_addNumber.2.1 13 = .ok (.iushr, 1) := by decide +kernel
theorem d_By_addNumber_14 : decode M_By_addNumber.2.1 14 = .ok (.invokevirtual 20, 3) := by decide +kernel
theorem d_By_addNumber_17 : decode M_By_addNumber.2.1 17 = .ok (.iinc 3 1, 3) := by decide +kernel
theorem d_By_addNumber_20 : decode M_By_addNumber.2.1 20 = .ok (.goto (-18), 3) := by decide +kernel
theorem d_By_addNumber_23 : decode M_By_addNumber.2.1 23 = .ok (.return_, 1) := by decide +kernel
theorem d_By_change_0 : decode M_By_change.2.1 0 = .ok (.iload_n 1, 1) := by decide +kernel
theorem d_By_change_1 : decode M_By_change.2.1 1 = .ok (.ifCond .lt 22, 3) := by decide +kernel
theorem d_By_change_4 : decode M_By_change.2.1 4 = .ok (.iload_n 1, 1) := by decide +kernel
theorem d_By_change_5 : decode M_By_change.2.1 5 = .ok (.aload_n 0, 1) := by decide +kernel
theorem d_By_change_6 : decode M_By_change.2.1 6 = .ok (.getfield 13, 3) := by decide +kernel
theorem d_By_change_9 : decode M_By_change.2.1 9 = .ok (.if_icmp .ge 14, 3) := by decide +kernel
theorem d_By_change_12 : decode M_By_change.2.1 12 = .ok (.aload_n 0, 1) := by decide +kernel
theorem d_By_change_13 : decode M_By_change.2.1 13 = .ok (.getfield 7, 3) := by decide +kernel
theorem d_By_change_16 : decode M_By_change.2.1 16 = .ok (.iload_n 1, 1) := by decide +kernel
theorem d_By_change_17 : decode M_By_change.2.1 17 = .ok (.iload_n 2, 1) := by decide +kernel
theorem d_By_change_18 : decode M_By_change.2.1 18 = .ok (.sipush 255, 3) := by decide +kernel
theorem d_By_change_21 : decode M_By_change.2.1 21 = .ok (.iand, 1) := by decide +kernel
theorem d_By_change_22 : decode M_By_change.2.1 22 = .ok (.iastore, 1) := by decide +kernel
theorem d_By_change_23 : decode M_By_change.2.1 23 = .ok (.return_, 1) := by decide +kernel
theorem d_By_at_0 : decode M_By_at.2.1 0 = .ok (.iload_n 1, 1) := by decide +kernel
theorem d_By_at_1 : decode M_By_at.2.1 1 = .ok (.ifCond .lt 20, 3) := by decide +kernel
theorem d_By_at_4 : decode M_By_at.2.1 4 = .ok (.iload_n 1, 1) := by decide +kernel
theorem d_By_at_5 : decode M_By_at.2.1 5 = .ok (.aload_n 0, 1) := by decide +kernel
theorem d_By_at_6 : decode M_By_at.2.1 6 = .ok (.getfield 13, 3) := by decide +kernel
theorem d_By_at_9 : decode M_By_at.2.1 9 = .ok (.if_icmp .ge 12, 3) := by decide +kernel
theorem d_By_at_12 : decode M_By_at.2.1 12 = .ok (.aload_n 0, 1) := by decide +kernel
theorem d_By_at_13 : decode M_By_at.2.1 13 = .ok (.getfield 7, 3) := by decide +kernel
theorem d_By_at_16 : decode M_By_at.2.1 16 = .ok (.iload_n 1, 1) := by decide +kernel
theorem d_By_at_17 : decode M_By_at.2.1 17 = .ok (.iaload, 1) := by decide +kernel
theorem d_By_at_18 : decode M_By_at.2.1 18 = .ok (.goto 4, 3) := by decide +kernel
theorem d_By_at_21 : decode M_By_at.2.1 21 = .ok (.iconst 0, 1) := by decide +kernel
theorem d_By_at_22 : decode M_By_at.2.1 22 = .ok (.ireturn, 1) := by decide +kernel
theorem d_By_addPart_0 : decode M_By_addPart.2.1 0 = .ok (.iload_n 2, 1) := by decide +kernel
theorem d_By_addPart_1 : decode M_By_addPart.2.1 1 = .ok (.istore 4, 2) := by decide +kernel
theorem d_By_addPart_3 : decode M_By_addPart.2.1 3 = .ok (.iload 4, 2) := by decide +kernel
theorem d_By_addPart_5 : decode M_By_addPart.2.1 5 = .ok (.iload_n 3, 1) := by decide +kernel
theorem d_By_addPart_6 : decode M_By_addPart.2.1 6 = .ok (.if_icmp .ge 19, 3) := by decide +kernel
theorem d_By_addPart_9 : decode M_By_addPart.2.1 9 = .ok (.aload_n 0, 1) := by decide +kernel
theorem d_By_addPart_10 : decode M_By_addPart.2.1 10 = .ok (.aload_n 1, 1) := by decide +kernel
theorem d_By_addPart_11 : decode M_By_addPart.2.1 11 = .ok (.iload 4, 2) := by decide +kernel
theorem d_By_addPart_13 : decode M_By_addPart.2.1 13 = .ok (.invokevirtual 24, 3) := by decide +kernel
theorem d_By_addPart_16 : decode M_By_addPart.2.1 16 = .ok (.invokevirtual 20, 3) := by decide +kernel
theorem d_By_addPart_19 : decode M_By_addPart.2.1 19 = .ok (.iinc 4 1, 3) := by decide +kernel
theorem d_By_addPart_22 : decode M_By_addPart.2.1 22 = .ok (.goto (-19), 3) := by decide +kernel
theorem d_By_addPart_25 : decode M_By_addPart.2.1 25 = .ok (.return_, 1) := by decide +kernel
theorem d_By_twoAt_0 : decode M_By_twoAt.2.1 0 = .ok (.aload_n 0, 1) := by decide +kernel
theorem d_By_twoAt_1 : decode M_By_twoAt.2.1 1 = .ok (.iload_n 1, 1) := by decide +kernel
theorem d_By_twoAt_2 : decode M_By_twoAt.2.1 2 = .ok (.invokevirtual 24, 3) := by decide +kernel
theorem d_By_twoAt_5 : decode M_By_twoAt.2.1 5 = .ok (.sipush 256, 3) := by decide +kernel
theorem d_By_twoAt_8 : decode M_By_twoAt.2.1 8 = .ok (.aload_n 0, 1) := by decide +kernel
theorem d_By_twoAt_9 : decode M_By_twoAt.2.1 9 = .ok (.iload_n 1, 1) := by decide +kernel
theorem d_By_twoAt_10 : decode M_By_twoAt.2.1 10 = .ok (.iconst 1, 1) := by decide +kernel
theorem d_By_twoAt_11 : decode M_By_twoAt.2.1 11 = .ok (.iadd, 1) := by decide +kernel
theorem d_By_twoAt_12 : decode M_By_twoAt.2.1 12 = .ok (.invokevirtual 24, 3) := by decide +kernel
theorem d_By_twoAt_15 : decode M_By_twoAt.2.1 15 = .ok (.imul, 1) := by decide +kernel
theorem d_By_twoAt_16 : decode M_By_twoAt.2.1 16 = .ok (.iadd, 1) := by decide +kernel
theorem d_By_twoAt_17 : decode M_By_twoAt.2.1 17 = .ok (.ireturn, 1) := by decide +kernel
theorem d_By_nextNumber_0 : decode M_By_nextNumber.2.1 0 = .ok (.iconst 0, 1) := by decide +kernel
theorem d_By_nextNumber_1 : decode M_By_nextNumber.2.1 1 = .ok (.istore_n 2, 1) := by decide +kernel
theorem d_By_nextNumber_2 : decode M_By_nextNumber.2.1 2 = .ok (.iconst 0, 1) := by decide +kernel
theorem d_By_nextNumber_3 : decode M_By_nextNumber.2.1 3 = .ok (.istore_n 3, 1) := by decide +kernel
theorem d_By_nextNumber_4 : decode M_By_nextNumber.2.1 4 = .ok (.iload_n 3, 1) := by decide +kernel
theorem d_By_nextNumber_5 : decode M_By_nextNumber.2.1 5 = .ok (.iload_n 1, 1) := by decide +kernel
theorem d_By_nextNumber_6 : decode M_By_nextNumber.2.1 6 = .ok (.if_icmp .ge 47, 3) := by decide +kernel
theorem d_By_nextNumber_9 : decode M_By_nextNumber.2.1 9 = .ok (.aload_n 0, 1) := by decide +kernel
theorem d_By_nextNumber_10 : decode M_By_nextNumber.2.1 10 = .ok (.getfield 17, 3) := by decide +kernel
theorem d_By_nextNumber_13 : decode M_By_nextNumber.2.1 13 = .ok (.aload_n 0, 1) := by decide +kernel
theorem d_By_nextNumber_14 : decode M_By_nextNumber.2.1 14 = .ok (.getfield 13, 3) := by decide +kernel
theorem d_By_nextNumber_17 : decode M_By_nextNumber.2.1 17 = .ok (.if_icmp .ge 30, 3) := by decide +kernel
theorem d_By_nextNumber_20 : decode M_By_nextNumber.2.1 20 = .ok (.iload_n 2, 1) := by decide +kernel
theorem d_By_nextNumber_21 : decode M_By_nextNumber.2.1 21 = .ok (.aload_n 0, 1) := by decide +kernel
theorem d_By_nextNumber_22 : decode M_By_nextNumber.2.1 22 = .ok (.getfield 7, 3) := by decide +kernel
theorem d_By_nextNumber_25 : decode M_By_nextNumber.2.1 25 = .ok (.aload_n 0, 1) := by decide +kernel
theorem d_By_nextNumber_26 : decode M_By_nextNumber.2.1 26 = .ok (.getfield 17, 3) := by decide +kernel
theorem d_By_nextNumber_29 : decode M_By_nextNumber.2.1 29 = .ok (.iaload, 1) := by decide +kernel
theorem d_By_nextNumber_30 : decode M_By_nextNumber.2.1 30 = .ok (.bipush 8, 2) := by decide +kernel
theorem d_By_nextNumber_32 : decode M_By_nextNumber.2.1 32 = .ok (.iload_n 3, 1) := by decide +kernel
theorem d_By_nextNumber_33 : decode M_By_nextNumber.2.1 33 = .ok (.imul, 1) := by decide +kernel
theorem d_By_nextNumber_34 : decode M_By_nextNumber.2.1 34 = .ok (.ishl, 1) := by decide +kernel
theorem d_By_nextNumber_35 : decode M_By_nextNumber.2.1 35 = .ok (.ior, 1) := by decide +kernel
theorem d_By_nextNumber_36 : decode M_By_nextNumber.2.1 36 = .ok (.istore_n 2, 1) := by decide +kernel
theorem d_By_nextNumber_37 : decode M_By_nextNumber.2.1 37 = .ok (.aload_n 0, 1) := by decide +kernel
theorem d_By_nextNumber_38 : decode M_By_nextNumber.2.1 38 = .ok (.dup, 1) := by decide +kernel
theorem d_By_nextNumber_39 : decode M_By_nextNumber.2.1 39 = .ok (.getfield 17, 3) := by decide +kernel
theorem d_By_nextNumber_42 : decode M_By_nextNumber.2.1 42 = .ok (.iconst 1, 1) := by decide +kernel
theorem d_By_nextNumber_43 : decode M_By_nextNumber.2.1 43 = .ok (.iadd, 1) := by decide +kernel
theorem d_By_nextNumber_44 : decode M_By_nextNumber.2.1 44 = .ok (.putfield 17, 3) := by decide +kernel
theorem d_By_nextNumber_47 : decode M_By_nextNumber.2.1 47 = .ok (.iinc 3 1, 3) := by decide +kernel
theorem d_By_nextNumber_50 : decode M_By_nextNumber.2.1 50 = .ok (.goto (-46), 3) := by decide +kernel
theorem d_By_nextNumber_53 : decode M_By_nextNumber.2.1 53 = .ok (.iload_n 2, 1) := by decide +kernel
theorem d_By_nextNumber_54 : decode M_By_nextNumber.2.1 54 = .ok (.ireturn, 1) := by decide +kernel
theorem d_Co_init_0 : decode M_Co_init.2.1 0 = .ok (.aload_n 0, 1) := by decide +kernel
theorem d_Co_init_1 : decode M_Co_init.2.1 1 = .ok (.invokespecial 3, 3) := by decide +kernel
theorem d_Co_init_4 : decode M_Co_init.2.1 4 = .ok (.aload_n 0, 1) := by decide +kernel
theorem d_Co_init_5 : decode M_Co_init.2.1 5 = .ok (.new 9, 3) := by decide +kernel
theorem d_Co_init_8 : decode M_Co_init.2.1 8 = .ok (.dup, 1) := by decide +kernel
theorem d_Co_init_9 : decode M_Co_init.2.1 9 = .ok (.sipush 384, 3) := by decide +kernel
theorem d_Co_init_12 : decode M_Co_init.2.1 12 = .ok (.invokespecial 11, 3) := by decide +kernel
theorem d_Co_init_15 : decode M_Co_init.2.1 15 = .ok (.putfield 14, 3) := by decide +kernel
theorem d_Co_init_18 : decode M_Co_init.2.1 18 = .ok (.aload_n 0, 1) := by decide +kernel
theorem d_Co_init_19 : decode M_Co_init.2.1 19 = .ok (.new 9, 3) := by decide +kernel
theorem d_Co_init_22 : decode M_Co_init.2.1 22 = .ok (.dup, 1) := by decide +kernel
theorem d_Co_init_23 : decode M_Co_init.2.1 23 = .ok (.sipush 400, 3) := by decide +kernel
theorem d_Co_init_26 : decode M_Co_init.2.1 26 = .ok (.invokespecial 11, 3) := by decide +kernel
theorem d_Co_init_29 : decode M_Co_init.2.1 29 = .ok (.putfield 20, 3) := by decide +kernel
theorem d_Co_init_32 : decode M_Co_init.2.1 32 = .ok (.aload_n 0, 1) := by decide +kernel
theorem d_Co_init_33 : decode M_Co_init.2.1 33 = .ok (.new 23, 3) := by decide +kernel
theorem d_Co_init_36 : decode M_Co_init.2.1 36 = .ok (.dup, 1) := by decide +kernel
theorem d_Co_init_37 : decode M_Co_init.2.1 37 = .ok (.invokespecial 25, 3) := by decide +kernel
theorem d_Co_init_40 : decode M_Co_init.2.1 40 = .ok (.putfield 26, 3) := by decide +kernel
theorem d_Co_init_43 : decode M_Co_init.2.1 43 = .ok (.aload_n 0, 1) := by decide +kernel
theorem d_Co_init_44 : decode M_Co_init.2.1 44 = .ok (.new 30, 3) := by decide +kernel
theorem d_Co_init_47 : decode M_Co_init.2.1 47 = .ok (.dup, 1) := by decide +kernel
theorem d_Co_init_48 : decode M_Co_init.2.1 48 = .ok (.invokespecial 32, 3) := by decide +kernel
theorem d_Co_init_51 : decode M_Co_init.2.1 51 = .ok (.putfield 33, 3) := by decide +kernel
theorem d_Co_init_54 : decode M_Co_init.2.1 54 = .ok (.return_, 1) := by decide +kernel
theorem d_Co_make_0 : decode M_Co_make.2.1 0 = .ok (.iload_n 2, 1) := by decide +kernel
theorem d_Co_make_1 : decode M_Co_make.2.1 1 = .ok (.iconst 3, 1) := by decide +kernel
theorem d_Co_make_2 : decode M_Co_make.2.1 2 = .ok (.if_icmp .ne 12, 3) := by decide +kernel
theorem d_Co_make_5 : decode M_Co_make.2.1 5 = .ok (.aload_n 0, 1) := by decide +kernel
theorem d_Co_make_6 : decode M_Co_make.2.1 6 = .ok (.aload_n 1, 1) := by decide +kernel
theorem d_Co_make_7 : decode M_Co_make.2.1 7 = .ok (.iload_n 3, 1) := by decide +kernel
theorem d_Co_make_8 : decode M_Co_make.2.1 8 = .ok (.invokevirtual 37, 3) := by decide +kernel
theorem d_Co_make_11 : decode M_Co_make.2.1 11 = .ok (.goto 20, 3) := by decide +kernel
theorem d_Co_make_14 : decode M_Co_make.2.1 14 = .ok (.aload_n 0, 1) := by decide +kernel
theorem d_Co_make_15 : decode M_Co_make.2.1 15 = .ok (.aload_n 1, 1) := by decide +kernel
theorem d_Co_make_16 : decode M_Co_make.2.1 16 = .ok (.iload_n 2, 1) := by decide +kernel
theorem d_Co_make_17 : decode M_Co_make.2.1 17 = .ok (.iload_n 3, 1) := by decide +kernel
theorem d_Co_make_18 : decode M_Co_make.2.1 18 = .ok (.iload_n 2, 1) := by decide +kernel
theorem d_Co_make_19 : decode M_Co_make.2.1 19 = .ok (.iconst 2, 1) := by decide +kernel
theorem d_Co_make_20 : decode M_Co_make.2.1 20 = .ok (.if_icmp .ne 7, 3) := by decide +kernel
theorem d_Co_make_23 : decode M_Co_make.2.1 23 = .ok (.iconst 1, 1) := by decide +kernel
theorem d_Co_make_24 : decode M_Co_make.2.1 24 = .ok (.goto 4, 3) := by decide +kernel
theorem d_Co_make_27 : decode M_Co_make.2.1 27 = .ok (.iconst 0, 1) := by decide +kernel
theorem d_Co_make_28 : decode M_Co_make.2.1 28 = .ok (.invokevirtual 41, 3) := by decide +kernel
theorem d_Co_make_31 : decode M_Co_make.2.1 31 = .ok (.iload_n 2, 1) := by decide +kernel
theorem d_Co_make_32 : decode M_Co_make.2.1 32 = .ok (.ifCond .ne 8, 3) := by decide +kernel
theorem d_Co_make_35 : decode M_Co_make.2.1 35 = .ok (.aload_n 0, 1) := by decide +kernel
theorem d_Co_make_36 : decode M_Co_make.2.1 36 = .ok (.getfield 14, 3) := by decide +kernel
theorem d_Co_make_39 : decode M_Co_make.2.1 39 = .ok (.areturn, 1) := by decide +kernel
theorem d_Co_make_40 : decode M_Co_make.2.1 40 = .ok (.aload_n 0, 1) := by decide +kernel
theorem d_Co_make_41 : decode M_Co_make.2.1 41 = .ok (.getfield 26, 3) := by decide +kernel
theorem d_Co_make_44 : decode M_Co_make.2.1 44 = .ok (.aload_n 0, 1) := by decide +kernel
theorem d_Co_make_45 : decode M_Co_make.2.1 45 = .ok (.getfield 14, 3) := by decide +kernel
theorem d_Co_make_48 : decode M_Co_make.2.1 48 = .ok (.aload_n 0, 1) := by decide +kernel
theorem d_Co_make_49 : decode M_Co_make.2.1 49 = .ok (.getfield 20, 3) := by decide +kernel
theorem d_Co_make_52 : decode M_Co_make.2.1 52 = .ok (.invokevirtual 45, 3) := by decide +kernel
theorem d_Co_make_55 : decode M_Co_make.2.1 55 = .ok (.aload_n 0, 1) := by decide +kernel
theorem d_Co_make_56 : decode M_Co_make.2.1 56 = .ok (.getfield 20, 3) := by decide +kernel
theorem d_Co_make_59 : decode M_Co_make.2.1 59 = .ok (.getfield 49, 3) := by decide +kernel
theorem d_Co_make_62 : decode M_Co_make.2.1 62 = .ok (.aload_n 0, 1) := by decide +kernel
theorem d_Co_make_63 : decode M_Co_make.2.1 63 = .ok (.getfield 14, 3) := by decide +kernel
theorem d_Co_make_66 : decode M_Co_make.2.1 66 = .ok (.getfield 49, 3) := by decide +kernel
theorem d_Co_make_69 : decode M_Co_make.2.1 69 = .ok (.if_icmp .ge 8, 3) := by decide +kernel
theorem d_Co_make_72 : decode M_Co_make.2.1 72 = .ok (.aload_n 0, 1) := by decide +kernel
theorem d_Co_make_73 : decode M_Co_make.2.1 73 = .ok (.getfield 20, 3) := by decide +kernel
theorem d_Co_make_76 : decode M_Co_make.2.1 76 = .ok (.areturn, 1) := by decide +kernel
theorem d_Co_make_77 : decode M_Co_make.2.1 77 = .ok (.aload_n 0, 1) := by decide +kernel
theorem d_Co_make_78 : decode M_Co_make.2.1 78 = .ok (.aload_n 1, 1) := by decide +kernel
theorem d_Co_make_79 : decode M_Co_make.2.1 79 = .ok (.iload_n 2, 1) := by decide +kernel
theorem d_Co_make_80 : decode M_Co_make.2.1 80 = .ok (.iload_n 3, 1) := by decide +kernel
theorem d_Co_make_81 : decode M_Co_make.2.1 81 = .ok (.iconst 0, 1) := by decide +kernel
theorem d_Co_make_82 : decode M_Co_make.2.1 82 = .ok (.invokevirtual 41, 3) := by decide +kernel
theorem d_Co_make_85 : decode M_Co_make.2.1 85 = .ok (.aload_n 0, 1) := by decide +kernel
theorem d_Co_make_86 : decode M_Co_make.2.1 86 = .ok (.getfield 14, 3) := by decide +kernel
theorem d_Co_make_89 : decode M_Co_make.2.1 89 = .ok (.areturn, 1) := by decide +kernel
theorem d_Co_putTables_0 : decode M_Co_putTables.2.1 0 = .ok (.aload_n 0, 1) := by decide +kernel
theorem d_Co_putTables_1 : decode M_Co_putTables.2.1 1 = .ok (.getfield 14, 3) := by decide +kernel
theorem d_Co_putTables_4 : decode M_Co_putTables.2.1 4 = .ok (.invokevirtual 57, 3) := by decide +kernel
theorem d_Co_putTables_7 : decode M_Co_putTables.2.1 7 = .ok (.iconst 0, 1) := by decide +kernel
theorem d_Co_putTables_8 : decode M_Co_putTables.2.1 8 = .ok (.istore_n 3, 1) := by decide +kernel
theorem d_Co_putTables_9 : decode M_Co_putTables.2.1 9 = .ok (.iload_n 3, 1) := by decide +kernel
theorem d_Co_putTables_10 : decode M_Co_putTables.2.1 10 = .ok (.aload_n 1, 1) := by decide +kernel
theorem d_Co_putTables_11 : decode M_Co_putTables.2.1 11 = .ok (.getfield 76, 3) := by decide +kernel
theorem d_Co_putTables_14 : decode M_Co_putTables.2.1 14 = .ok (.if_icmp .ge 36, 3) := by decide +kernel
theorem d_Co_putTables_17 : decode M_Co_putTables.2.1 17 = .ok (.aload_n 0, 1) := by decide +kernel
theorem d_Co_putTables_18 : decode M_Co_putTables.2.1 18 = .ok (.aload_n 1, 1) := by decide +kernel
theorem d_Co_putTables_19 : decode M_Co_putTables.2.1 19 = .ok (.iload_n 3, 1) := by decide +kernel
theorem d_Co_putTables_20 : decode M_Co_putTables.2.1 20 = .ok (.iload_n 2, 1) := by decide +kernel
theorem d_Co_putTables_21 : decode M_Co_putTables.2.1 21 = .ok (.iconst 0, 1) := by decide +kernel
theorem d_Co_putTables_22 : decode M_Co_putTables.2.1 22 = .ok (.invokevirtual 125, 3) := by decide +kernel
theorem d_Co_putTables_25 : decode M_Co_putTables.2.1 25 = .ok (.aload_n 1, 1) := by decide +kernel
theorem d_Co_putTables_26 : decode M_Co_putTables.2.1 26 = .ok (.getfield 87, 3) := by decide +kernel
theorem d_Co_putTables_29 : decode M_Co_putTables.2.1 29 = .ok (.iload_n 3, 1) := by decide +kernel
theorem d_Co_putTables_30 : decode M_Co_putTables.2.1 30 = .ok (.iaload, 1) := by decide +kernel
theorem d_Co_putTables_31 : decode M_Co_putTables.2.1 31 = .ok (.iconst 1, 1) := by decide +kernel
theorem d_Co_putTables_32 : decode M_Co_putTables.2.1 32 = .ok (.if_icmp .ne 12, 3) := by decide +kernel
theorem d_Co_putTables_35 : decode M_Co_putTables.2.1 35 = .ok (.aload_n 0, 1) := by decide +kernel
theorem d_Co_putTables_36 : decode M_Co_putTables.2.1 36 = .ok (.aload_n 1, 1) := by decide +kernel
theorem d_Co_putTables_37 : decode M_Co_putTables.2.1 37 = .ok (.iload_n 3, 1) := by decide +kernel
theorem d_Co_putTables_38 : decode M_Co_putTables.2.1 38 = .ok (.iload_n 2, 1) := by decide +kernel
theorem d_Co_putTables_39 : decode M_Co_putTables.2.1 39 = .ok (.bipush 16, 2) := by decide +kernel
theorem d_Co_putTables_41 : decode M_Co_putTables.2.1 41 = .ok (.invokevirtual 125, 3) := by decide +kernel
theorem d_Co_putTables_44 : decode M_Co_putTables.2.1 44 = .ok (.iinc 3 1, 3) := by decide +kernel
theorem d_Co_putTables_47 : decode M_Co_putTables.2.1 47 = .ok (.goto (-38), 3) := by decide +kernel
theorem d_Co_putTables_50 : decode M_Co_putTables.2.1 50 = .ok (.return_, 1) := by decide +kernel
theorem d_Co_putTable_0 : decode M_Co_putTable.2.1 0 = .ok (.aload_n 1, 1) := by decide +kernel
theorem d_Co_putTable_1 : decode M_Co_putTable.2.1 1 = .ok (.iload_n 2, 1) := by decide +kernel
theorem d_Co_putTable_2 : decode M_Co_putTable.2.1 2 = .ok (.invokevirtual 94, 3) := by decide +kernel
theorem d_Co_putTable_5 : decode M_Co_putTable.2.1 5 = .ok (.istore 5, 2) := by decide +kernel
theorem d_Co_putTable_7 : decode M_Co_putTable.2.1 7 = .ok (.aload_n 1, 1) := by decide +kernel
theorem d_Co_putTable_8 : decode M_Co_putTable.2.1 8 = .ok (.iload_n 2, 1) := by decide +kernel
theorem d_Co_putTable_9 : decode M_Co_putTable.2.1 9 = .ok (.aload_n 1, 1) := by decide +kernel
theorem d_Co_putTable_10 : decode M_Co_putTable.2.1 10 = .ok (.iload_n 3, 1) := by decide +kernel
theorem d_Co_putTable_11 : decode M_Co_putTable.2.1 11 = .ok (.iconst 3, 1) := by decide +kernel
theorem d_Co_putTable_12 : decode M_Co_putTable.2.1 12 = .ok (.invokevirtual 70, 3) := by decide +kernel
theorem d_Co_putTable_15 : decode M_Co_putTable.2.1 15 = .ok (.iload_n 3, 1) := by decide +kernel
theorem d_Co_putTable_16 : decode M_Co_putTable.2.1 16 = .ok (.isub, 1) := by decide +kernel
theorem d_Co_putTable_17 : decode M_Co_putTable.2.1 17 = .ok (.invokevirtual 129, 3) := by decide +kernel
theorem d_Co_putTable_20 : decode M_Co_putTable.2.1 20 = .ok (.istore 6, 2) := by decide +kernel
theorem d_Co_putTable_22 : decode M_Co_putTable.2.1 22 = .ok (.aload_n 1, 1) := by decide +kernel
theorem d_Co_putTable_23 : decode M_Co_putTable.2.1 23 = .ok (.getfield 98, 3) := by decide +kernel
theorem d_Co_putTable_26 : decode M_Co_putTable.2.1 26 = .ok (.iload_n 2, 1) := by decide +kernel
theorem d_Co_putTable_27 : decode M_Co_putTable.2.1 27 = .ok (.iaload, 1) := by decide +kernel
theorem d_Co_putTable_28 : decode M_Co_putTable.2.1 28 = .ok (.istore 7, 2) := by decide +kernel
theorem d_Co_putTable_30 : decode M_Co_putTable.2.1 30 = .ok (.iconst 0, 1) := by decide +kernel
theorem d_Co_putTable_31 : decode M_Co_putTable.2.1 31 = .ok (.istore 8, 2) := by decide +kernel
theorem d_Co_putTable_33 : decode M_Co_putTable.2.1 33 = .ok (.iload 8, 2) := by decide +kernel
theorem d_Co_putTable_35 : decode M_Co_putTable.2.1 35 = .ok (.iload 6, 2) := by decide +kernel
theorem d_Co_putTable_37 : decode M_Co_putTable.2.1 37 = .ok (.if_icmp .ge 56, 3) := by decide +kernel
theorem d_Co_putTable_40 : decode M_Co_putTable.2.1 40 = .ok (.iconst 0, 1) := by decide +kernel
theorem d_Co_putTable_41 : decode M_Co_putTable.2.1 41 = .ok (.istore 9, 2) := by decide +kernel
theorem d_Co_putTable_43 : decode M_Co_putTable.2.1 43 = .ok (.iload 9, 2) := by decide +kernel
theorem d_Co_putTable_45 : decode M_Co_putTable.2.1 45 = .ok (.iload 5, 2) := by decide +kernel
theorem d_Co_putTable_47 : decode M_Co_putTable.2.1 47 = .ok (.if_icmp .ge 40, 3) := by decide +kernel
theorem d_Co_putTable_50 : decode M_Co_putTable.2.1 50 = .ok (.aload_n 0, 1) := by decide +kernel
theorem d_Co_putTable_51 : decode M_Co_putTable.2.1 51 = .ok (.getfield 33, 3) := by decide +kernel
theorem d_Co_putTable_54 : decode M_Co_putTable.2.1 54 = .ok (.iload 9, 2) := by decide +kernel
theorem d_Co_putTable_56 : decode M_Co_putTable.2.1 56 = .ok (.iload 8, 2) := by decide +kernel
theorem d_Co_putTable_58 : decode M_Co_putTable.2.1 58 = .ok (.aload_n 1, 1) := by decide +kernel
theorem d_Co_putTable_59 : decode M_Co_putTable.2.1 59 = .ok (.iload_n 2, 1) := by decide +kernel
theorem d_Co_putTable_60 : decode M_Co_putTable.2.1 60 = .ok (.iload 9, 2) := by decide +kernel
theorem d_Co_putTable_62 : decode M_Co_putTable.2.1 62 = .ok (.iload 7, 2) := by decide +kernel
theorem d_Co_putTable_64 : decode M_Co_putTable.2.1 64 = .ok (.imul, 1) := by decide +kernel
theorem d_Co_putTable_65 : decode M_Co_putTable.2.1 65 = .ok (.iload_n 3, 1) := by decide +kernel
theorem d_Co_putTable_66 : decode M_Co_putTable.2.1 66 = .ok (.iload 8, 2) := by decide +kernel
theorem d_Co_putTable_68 : decode M_Co_putTable.2.1 68 = .ok (.iload 7, 2) := by decide +kernel
theorem d_Co_putTable_70 : decode M_Co_putTable.2.1 70 = .ok (.imul, 1) := by decide +kernel
theorem d_Co_putTable_71 : decode M_Co_putTable.2.1 71 = .ok (.iadd, 1) := by decide +kernel
theorem d_Co_putTable_72 : decode M_Co_putTable.2.1 72 = .ok (.invokevirtual 101, 3) := by decide +kernel
theorem d_Co_putTable_75 : decode M_Co_putTable.2.1 75 = .ok (.iload 4, 2) := by decide +kernel
theorem d_Co_putTable_77 : decode M_Co_putTable.2.1 77 = .ok (.iushr, 1) := by decide +kernel
theorem d_Co_putTable_78 : decode M_Co_putTable.2.1 78 = .ok (.invokevirtual 132, 3) := by decide +kernel
theorem d_Co_putTable_81 : decode M_Co_putTable.2.1 81 = .ok (.iinc 9 1, 3) := by decide +kernel
theorem d_Co_putTable_84 : decode M_Co_putTable.2.1 84 = .ok (.goto (-41), 3) := by decide +kernel
theorem d_Co_putTable_87 : decode M_Co_putTable.2.1 87 = .ok (.iinc 8 1, 3) := by decide +kernel
theorem d_Co_putTable_90 : decode M_Co_putTable.2.1 90 = .ok (.goto (-57), 3) := by decide +kernel
theorem d_Co_putTable_93 : decode M_Co_putTable.2.1 93 = .ok (.aload_n 0, 1) := by decide +kernel
theorem d_Co_putTable_94 : decode M_Co_putTable.2.1 94 = .ok (.getfield 33, 3) := by decide +kernel
theorem d_Co_putTable_97 : decode M_Co_putTable.2.1 97 = .ok (.iload 5, 2) := by decide +kernel
theorem d_Co_putTable_99 : decode M_Co_putTable.2.1 99 = .ok (.iload 6, 2) := by decide +kernel
theorem d_Co_putTable_101 : decode M_Co_putTable.2.1 101 = .ok (.invokevirtual 135, 3) := by decide +kernel
theorem d_Co_putTable_104 : decode M_Co_putTable.2.1 104 = .ok (.iconst 0, 1) := by decide +kernel
theorem d_Co_putTable_105 : decode M_Co_putTable.2.1 105 = .ok (.istore 8, 2) := by decide +kernel
theorem d_Co_putTable_107 : decode M_Co_putTable.2.1 107 = .ok (.iload 8, 2) := by decide +kernel
theorem d_Co_putTable_109 : decode M_Co_putTable.2.1 109 = .ok (.iload 6, 2) := by decide +kernel
theorem d_Co_putTable_111 : decode M_Co_putTable.2.1 111 = .ok (.if_icmp .ge 44, 3) := by decide +kernel
theorem d_Co_putTable_114 : decode M_Co_putTable.2.1 114 = .ok (.iconst 0, 1) := by decide +kernel
theorem d_Co_putTable_115 : decode M_Co_putTable.2.1 115 = .ok (.istore 9, 2) := by decide +kernel
theorem d_Co_putTable_117 : decode M_Co_putTable.2.1 117 = .ok (.iload 9, 2) := by decide +kernel
theorem d_Co_putTable_119 : decode M_Co_putTable.2.1 119 = .ok (.iload 5, 2) := by decide +kernel
theorem d_Co_putTable_121 : decode M_Co_putTable.2.1 121 = .ok (.if_icmp .ge 28, 3) := by decide +kernel
theorem d_Co_putTable_124 : decode M_Co_putTable.2.1 124 = .ok (.aload_n 0, 1) := by decide +kernel
theorem d_Co_putTable_125 : decode M_Co_putTable.2.1 125 = .ok (.getfield 14, 3) := by decide +kernel
theorem d_Co_putTable_128 : decode M_Co_putTable.2.1 128 = .ok (.aload_n 0, 1) := by decide +kernel
theorem d_Co_putTable_129 : decode M_Co_putTable.2.1 129 = .ok (.getfield 33, 3) := by decide +kernel
theorem d_Co_putTable_132 : decode M_Co_putTable.2.1 132 = .ok (.iload 9, 2) := by decide +kernel
theorem d_Co_putTable_134 : decode M_Co_putTable.2.1 134 = .ok (.iload 8, 2) := by decide +kernel
theorem d_Co_putTable_136 : decode M_Co_putTable.2.1 136 = .ok (.invokevirtual 138, 3) := by decide +kernel
theorem d_Co_putTable_139 : decode M_Co_putTable.2.1 139 = .ok (.iconst 2, 1) := by decide +kernel
theorem d_Co_putTable_140 : decode M_Co_putTable.2.1 140 = .ok (.invokevirtual 110, 3) := by decide +kernel
theorem d_Co_putTable_143 : decode M_Co_putTable.2.1 143 = .ok (.iinc 9 1, 3) := by decide +kernel
theorem d_Co_putTable_146 : decode M_Co_putTable.2.1 146 = .ok (.goto (-29), 3) := by decide +kernel
theorem d_Co_putTable_149 : decode M_Co_putTable.2.1 149 = .ok (.iinc 8 1, 3) := by decide +kernel
theorem d_Co_putTable_152 : decode M_Co_putTable.2.1 152 = .ok (.goto (-45), 3) := by decide +kernel
theorem d_Co_putTable_155 : decode M_Co_putTable.2.1 155 = .ok (.return_, 1) := by decide +kernel
theorem d_Co_putLines_0 : decode M_Co_putLines.2.1 0 = .ok (.aload_n 0, 1) := by decide +kernel
theorem d_Co_putLines_1 : decode M_Co_putLines.2.1 1 = .ok (.getfield 14, 3) := by decide +kernel
theorem d_Co_putLines_4 : decode M_Co_putLines.2.1 4 = .ok (.invokevirtual 57, 3) := by decide +kernel
theorem d_Co_putLines_7 : decode M_Co_putLines.2.1 7 = .ok (.aload_n 1, 1) := by decide +kernel
theorem d_Co_putLines_8 : decode M_Co_putLines.2.1 8 = .ok (.iload_n 3, 1) := by decide +kernel
theorem d_Co_putLines_9 : decode M_Co_putLines.2.1 9 = .ok (.iload_n 2, 1) := by decide +kernel
theorem d_Co_putLines_10 : decode M_Co_putLines.2.1 10 = .ok (.invokevirtual 70, 3) := by decide +kernel
theorem d_Co_putLines_13 : decode M_Co_putLines.2.1 13 = .ok (.istore 5, 2) := by decide +kernel
theorem d_Co_putLines_15 : decode M_Co_putLines.2.1 15 = .ok (.iload_n 3, 1) := by decide +kernel
theorem d_Co_putLines_16 : decode M_Co_putLines.2.1 16 = .ok (.istore 6, 2) := by decide +kernel
theorem d_Co_putLines_18 : decode M_Co_putLines.2.1 18 = .ok (.iload 6, 2) := by decide +kernel
theorem d_Co_putLines_20 : decode M_Co_putLines.2.1 20 = .ok (.iload 5, 2) := by decide +kernel
theorem d_Co_putLines_22 : decode M_Co_putLines.2.1 22 = .ok (.if_icmp .ge 50, 3) := by decide +kernel
theorem d_Co_putLines_25 : decode M_Co_putLines.2.1 25 = .ok (.iconst 0, 1) := by decide +kernel
theorem d_Co_putLines_26 : decode M_Co_putLines.2.1 26 = .ok (.istore 7, 2) := by decide +kernel
theorem d_Co_putLines_28 : decode M_Co_putLines.2.1 28 = .ok (.iload 7, 2) := by decide +kernel
theorem d_Co_putLines_30 : decode M_Co_putLines.2.1 30 = .ok (.aload_n 1, 1) := by decide +kernel
theorem d_Co_putLines_31 : decode M_Co_putLines.2.1 31 = .ok (.getfield 76, 3) := by decide +kernel
theorem d_Co_putLines_34 : decode M_Co_putLines.2.1 34 = .ok (.if_icmp .ge 32, 3) := by decide +kernel
theorem d_Co_putLines_37 : decode M_Co_putLines.2.1 37 = .ok (.aload_n 1, 1) := by decide +kernel
theorem d_Co_putLines_38 : decode M_Co_putLines.2.1 38 = .ok (.iload 7, 2) := by decide +kernel
theorem d_Co_putLines_40 : decode M_Co_putLines.2.1 40 = .ok (.iload 6, 2) := by decide +kernel
theorem d_Co_putLines_42 : decode M_Co_putLines.2.1 42 = .ok (.invokevirtual 79, 3) := by decide +kernel
theorem d_Co_putLines_45 : decode M_Co_putLines.2.1 45 = .ok (.ifCond .eq 15, 3) := by decide +kernel
theorem d_Co_putLines_48 : decode M_Co_putLines.2.1 48 = .ok (.aload_n 0, 1) := by decide +kernel
theorem d_Co_putLines_49 : decode M_Co_putLines.2.1 49 = .ok (.aload_n 1, 1) := by decide +kernel
theorem d_Co_putLines_50 : decode M_Co_putLines.2.1 50 = .ok (.iload 7, 2) := by decide +kernel
theorem d_Co_putLines_52 : decode M_Co_putLines.2.1 52 = .ok (.iload 6, 2) := by decide +kernel
theorem d_Co_putLines_54 : decode M_Co_putLines.2.1 54 = .ok (.iload_n 2, 1) := by decide +kernel
theorem d_Co_putLines_55 : decode M_Co_putLines.2.1 55 = .ok (.iload 4, 2) := by decide +kernel
theorem d_Co_putLines_57 : decode M_Co_putLines.2.1 57 = .ok (.invokevirtual 83, 3) := by decide +kernel
theorem d_Co_putLines_60 : decode M_Co_putLines.2.1 60 = .ok (.iinc 7 1, 3) := by decide +kernel
theorem d_Co_putLines_63 : decode M_Co_putLines.2.1 63 = .ok (.goto (-35), 3) := by decide +kernel
theorem d_Co_putLines_66 : decode M_Co_putLines.2.1 66 = .ok (.iinc 6 1, 3) := by decide +kernel
theorem d_Co_putLines_69 : decode M_Co_putLines.2.1 69 = .ok (.goto (-51), 3) := by decide +kernel
theorem d_Co_putLines_72 : decode M_Co_putLines.2.1 72 = .ok (.return_, 1) := by decide +kernel
theorem d_Co_putLine_0 : decode M_Co_putLine.2.1 0 = .ok (.aload_n 1, 1) := by decide +kernel
theorem d_Co_putLine_1 : decode M_Co_putLine.2.1 1 = .ok (.getfield 87, 3) := by decide +kernel
theorem d_Co_putLine_4 : decode M_Co_putLine.2.1 4 = .ok (.iload_n 2, 1) := by decide +kernel
theorem d_Co_putLine_5 : decode M_Co_putLine.2.1 5 = .ok (.iaload, 1) := by decide +kernel
theorem d_Co_putLine_6 : decode M_Co_putLine.2.1 6 = .ok (.iload 4, 2) := by decide +kernel
theorem d_Co_putLine_8 : decode M_Co_putLine.2.1 8 = .ok (.invokestatic 91, 3) := by decide +kernel
theorem d_Co_putLine_11 : decode M_Co_putLine.2.1 11 = .ok (.istore 6, 2) := by decide +kernel
theorem d_Co_putLine_13 : decode M_Co_putLine.2.1 13 = .ok (.aload_n 1, 1) := by decide +kernel
theorem d_Co_putLine_14 : decode M_Co_putLine.2.1 14 = .ok (.iload_n 2, 1) := by decide +kernel
theorem d_Co_putLine_15 : decode M_Co_putLine.2.1 15 = .ok (.invokevirtual 94, 3) := by decide +kernel
theorem d_Co_putLine_18 : decode M_Co_putLine.2.1 18 = .ok (.istore 7, 2) := by decide +kernel
theorem d_Co_putLine_20 : decode M_Co_putLine.2.1 20 = .ok (.iconst 0, 1) := by decide +kernel
theorem d_Co_putLine_21 : decode M_Co_putLine.2.1 21 = .ok (.istore 8, 2) := by decide +kernel
theorem d_Co_putLine_23 : decode M_Co_putLine.2.1 23 = .ok (.iconst 0, 1) := by decide +kernel
theorem d_Co_putLine_24 : decode M_Co_putLine.2.1 24 = .ok (.istore 9, 2) := by decide +kernel
theorem d_Co_putLine_26 : decode M_Co_putLine.2.1 26 = .ok (.iload 9, 2) := by decide +kernel
theorem d_Co_putLine_28 : decode M_Co_putLine.2.1 28 = .ok (.iload 7, 2) := by decide +kernel
theorem d_Co_putLine_30 : decode M_Co_putLine.2.1 30 = .ok (.if_icmp .ge 72, 3) := by decide +kernel
theorem d_Co_putLine_33 : decode M_Co_putLine.2.1 33 = .ok (.aload_n 1, 1) := by decide +kernel
theorem d_Co_putLine_34 : decode M_Co_putLine.2.1 34 = .ok (.iload_n 2, 1) := by decide +kernel
theorem d_Co_putLine_35 : decode M_Co_putLine.2.1 35 = .ok (.iload 9, 2) := by decide +kernel
theorem d_Co_putLine_37 : decode M_Co_putLine.2.1 37 = .ok (.aload_n 1, 1) := by decide +kernel
theorem d_Co_putLine_38 : decode M_Co_putLine.2.1 38 = .ok (.getfield 98, 3) := by decide +kernel
theorem d_Co_putLine_41 : decode M_Co_putLine.2.1 41 = .ok (.iload_n 2, 1) := by decide +kernel
theorem d_Co_putLine_42 : decode M_Co_putLine.2.1 42 = .ok (.iaload, 1) := by decide +kernel
theorem d_Co_putLine_43 : decode M_Co_putLine.2.1 43 = .ok (.imul, 1) := by decide +kernel
theorem d_Co_putLine_44 : decode M_Co_putLine.2.1 44 = .ok (.iload_n 3, 1) := by decide +kernel
theorem d_Co_putLine_45 : decode M_Co_putLine.2.1 45 = .ok (.invokevirtual 101, 3) := by decide +kernel
theorem d_Co_putLine_48 : decode M_Co_putLine.2.1 48 = .ok (.istore 10, 2) := by decide +kernel
theorem d_Co_putLine_50 : decode M_Co_putLine.2.1 50 = .ok (.iload 6, 2) := by decide +kernel
theorem d_Co_putLine_52 : decode M_Co_putLine.2.1 52 = .ok (.iconst 3, 1) := by decide +kernel
theorem d_Co_putLine_53 : decode M_Co_putLine.2.1 53 = .ok (.if_icmp .ne 11, 3) := by decide +kernel
theorem d_Co_putLine_56 : decode M_Co_putLine.2.1 56 = .ok (.iload 10, 2) := by decide +kernel
theorem d_Co_putLine_58 : decode M_Co_putLine.2.1 58 = .ok (.invokestatic 105, 3) := by decide +kernel
theorem d_Co_putLine_61 : decode M_Co_putLine.2.1 61 = .ok (.goto 5, 3) := by decide +kernel
theorem d_Co_putLine_64 : decode M_Co_putLine.2.1 64 = .ok (.iload 10, 2) := by decide +kernel
theorem d_Co_putLine_66 : decode M_Co_putLine.2.1 66 = .ok (.istore 11, 2) := by decide +kernel
theorem d_Co_putLine_68 : decode M_Co_putLine.2.1 68 = .ok (.aload_n 0, 1) := by decide +kernel
theorem d_Co_putLine_69 : decode M_Co_putLine.2.1 69 = .ok (.getfield 14, 3) := by decide +kernel
theorem d_Co_putLine_72 : decode M_Co_putLine.2.1 72 = .ok (.iload 5, 2) := by decide +kernel
theorem d_Co_putLine_74 : decode M_Co_putLine.2.1 74 = .ok (.ifCond .eq 11, 3) := by decide +kernel
theorem d_Co_putLine_77 : decode M_Co_putLine.2.1 77 = .ok (.iload 11, 2) := by decide +kernel
theorem d_Co_putLine_79 : decode M_Co_putLine.2.1 79 = .ok (.iload 8, 2) := by decide +kernel
theorem d_Co_putLine_81 : decode M_Co_putLine.2.1 81 = .ok (.isub, 1) := by decide +kernel
theorem d_Co_putLine_82 : decode M_Co_putLine.2.1 82 = .ok (.goto 5, 3) := by decide +kernel
theorem d_Co_putLine_85 : decode M_Co_putLine.2.1 85 = .ok (.iload 11, 2) := by decide +kernel
theorem d_Co_putLine_87 : decode M_Co_putLine.2.1 87 = .ok (.iload 6, 2) := by decide +kernel
theorem d_Co_putLine_89 : decode M_Co_putLine.2.1 89 = .ok (.invokevirtual 110, 3) := by decide +kernel
theorem d_Co_putLine_92 : decode M_Co_putLine.2.1 92 = .ok (.iload 11, 2) := by decide +kernel
theorem d_Co_putLine_94 : decode M_Co_putLine.2.1 94 = .ok (.istore 8, 2) := by decide +kernel
theorem d_Co_putLine_96 : decode M_Co_putLine.2.1 96 = .ok (.iinc 9 1, 3) := by decide +kernel
theorem d_Co_putLine_99 : decode M_Co_putLine.2.1 99 = .ok (.goto (-73), 3) := by decide +kernel
theorem d_Co_putLine_102 : decode M_Co_putLine.2.1 102 = .ok (.return_, 1) := by decide +kernel
theorem d_Co_makeReady_0 : decode M_Co_makeReady.2.1 0 = .ok (.iload_n 3, 1) := by decide +kernel
theorem d_Co_makeReady_1 : decode M_Co_makeReady.2.1 1 = .ok (.iload_n 2, 1) := by decide +kernel
theorem d_Co_makeReady_2 : decode M_Co_makeReady.2.1 2 = .ok (.isub, 1) := by decide +kernel
theorem d_Co_makeReady_3 : decode M_Co_makeReady.2.1 3 = .ok (.iload 4, 2) := by decide +kernel
theorem d_Co_makeReady_5 : decode M_Co_makeReady.2.1 5 = .ok (.if_icmp .ge 20, 3) := by decide +kernel
theorem d_Co_makeReady_8 : decode M_Co_makeReady.2.1 8 = .ok (.aload_n 0, 1) := by decide +kernel
theorem d_Co_makeReady_9 : decode M_Co_makeReady.2.1 9 = .ok (.getfield 26, 3) := by decide +kernel
theorem d_Co_makeReady_12 : decode M_Co_makeReady.2.1 12 = .ok (.aload_n 1, 1) := by decide +kernel
theorem d_Co_makeReady_13 : decode M_Co_makeReady.2.1 13 = .ok (.iload_n 2, 1) := by decide +kernel
theorem d_Co_makeReady_14 : decode M_Co_makeReady.2.1 14 = .ok (.iload_n 3, 1) := by decide +kernel
theorem d_Co_makeReady_15 : decode M_Co_makeReady.2.1 15 = .ok (.iload 4, 2) := by decide +kernel
theorem d_Co_makeReady_17 : decode M_Co_makeReady.2.1 17 = .ok (.aload_n 0, 1) := by decide +kernel
theorem d_Co_makeReady_18 : decode M_Co_makeReady.2.1 18 = .ok (.getfield 14, 3) := by decide +kernel
theorem d_Co_makeReady_21 : decode M_Co_makeReady.2.1 21 = .ok (.invokevirtual 53, 3) := by decide +kernel
theorem d_Co_makeReady_24 : decode M_Co_makeReady.2.1 24 = .ok (.ireturn, 1) := by decide +kernel
