theorem d_Sa_nearest_20 : decode M_Sa_nearest.2.1 20 = .ok (.dmul, 1) := by decide +kernel
theorem d_Sa_nearest_21 : decode M_Sa_nearest.2.1 21 = .ok (.dcmp .l, 1) := by decide +kernel
theorem d_Sa_nearest_22 : decode M_Sa_nearest.2.1 22 = .ok (.ifCond .lt 17, 3) := by decide +kernel
theorem d_Sa_nearest_25 : decode M_Sa_nearest.2.1 25 = .ok (.dload 6, 2) := by decide +kernel
theorem d_Sa_nearest_27 : decode M_Sa_nearest.2.1 27 = .ok (.ldc2_w 52, 3) := by decide +kernel
theorem d_Sa_nearest_30 : decode M_Sa_nearest.2.1 30 = .ok (.ddiv, 1) := by decide +kernel
theorem d_Sa_nearest_31 : decode M_Sa_nearest.2.1 31 = .ok (.dstore 6, 2) := by decide +kernel
theorem d_Sa_nearest_33 : decode M_Sa_nearest.2.1 33 = .ok (.iinc 5 1, 3) := by decide +kernel
theorem d_Sa_nearest_36 : decode M_Sa_nearest.2.1 36 = .ok (.goto (-30), 3) := by decide +kernel
theorem d_Sa_nearest_39 : decode M_Sa_nearest.2.1 39 = .ok (.iload 5, 2) := by decide +kernel
theorem d_Sa_nearest_41 : decode M_Sa_nearest.2.1 41 = .ok (.iconst 1, 1) := by decide +kernel
theorem d_Sa_nearest_42 : decode M_Sa_nearest.2.1 42 = .ok (.if_icmp .le 25, 3) := by decide +kernel
theorem d_Sa_nearest_45 : decode M_Sa_nearest.2.1 45 = .ok (.dload 6, 2) := by decide +kernel
theorem d_Sa_nearest_47 : decode M_Sa_nearest.2.1 47 = .ok (.iload_n 2, 1) := by decide +kernel
theorem d_Sa_nearest_48 : decode M_Sa_nearest.2.1 48 = .ok (.i2d, 1) := by decide +kernel
theorem d_Sa_nearest_49 : decode M_Sa_nearest.2.1 49 = .ok (.dcmp .g, 1) := by decide +kernel
theorem d_Sa_nearest_50 : decode M_Sa_nearest.2.1 50 = .ok (.ifCond .ge 17, 3) := by decide +kernel
theorem d_Sa_nearest_53 : decode M_Sa_nearest.2.1 53 = .ok (.dload 6, 2) := by decide +kernel
theorem d_Sa_nearest_55 : decode M_Sa_nearest.2.1 55 = .ok (.ldc2_w 52, 3) := by decide +kernel
theorem d_Sa_nearest_58 : decode M_Sa_nearest.2.1 58 = .ok (.dmul, 1) := by decide +kernel
theorem d_Sa_nearest_59 : decode M_Sa_nearest.2.1 59 = .ok (.dstore 6, 2) := by decide +kernel
theorem d_Sa_nearest_61 : decode M_Sa_nearest.2.1 61 = .ok (.iinc 5 (-1), 3) := by decide +kernel
theorem d_Sa_nearest_64 : decode M_Sa_nearest.2.1 64 = .ok (.goto (-25), 3) := by decide +kernel
theorem d_Sa_nearest_67 : decode M_Sa_nearest.2.1 67 = .ok (.dload 6, 2) := by decide +kernel
theorem d_Sa_nearest_69 : decode M_Sa_nearest.2.1 69 = .ok (.d2i, 1) := by decide +kernel
theorem d_Sa_nearest_70 : decode M_Sa_nearest.2.1 70 = .ok (.istore 8, 2) := by decide +kernel
theorem d_Sa_nearest_72 : decode M_Sa_nearest.2.1 72 = .ok (.dload 6, 2) := by decide +kernel
theorem d_Sa_nearest_74 : decode M_Sa_nearest.2.1 74 = .ok (.iload 8, 2) := by decide +kernel
theorem d_Sa_nearest_76 : decode M_Sa_nearest.2.1 76 = .ok (.i2d, 1) := by decide +kernel
theorem d_Sa_nearest_77 : decode M_Sa_nearest.2.1 77 = .ok (.dsub, 1) := by decide +kernel
theorem d_Sa_nearest_78 : decode M_Sa_nearest.2.1 78 = .ok (.dstore 9, 2) := by decide +kernel
theorem d_Sa_nearest_80 : decode M_Sa_nearest.2.1 80 = .ok (.dload 9, 2) := by decide +kernel
theorem d_Sa_nearest_82 : decode M_Sa_nearest.2.1 82 = .ok (.ldc2_w 54, 3) := by decide +kernel
theorem d_Sa_nearest_85 : decode M_Sa_nearest.2.1 85 = .ok (.dcmp .l, 1) := by decide +kernel
theorem d_Sa_nearest_86 : decode M_Sa_nearest.2.1 86 = .ok (.ifCond .gt 20, 3) := by decide +kernel
theorem d_Sa_nearest_89 : decode M_Sa_nearest.2.1 89 = .ok (.dload 9, 2) := by decide +kernel
theorem d_Sa_nearest_91 : decode M_Sa_nearest.2.1 91 = .ok (.ldc2_w 54, 3) := by decide +kernel
theorem d_Sa_nearest_94 : decode M_Sa_nearest.2.1 94 = .ok (.dcmp .l, 1) := by decide +kernel
theorem d_Sa_nearest_95 : decode M_Sa_nearest.2.1 95 = .ok (.ifCond .ne 14, 3) := by decide +kernel
theorem d_Sa_nearest_98 : decode M_Sa_nearest.2.1 98 = .ok (.iload 8, 2) := by decide +kernel
theorem d_Sa_nearest_100 : decode M_Sa_nearest.2.1 100 = .ok (.iconst 2, 1) := by decide +kernel
theorem d_Sa_nearest_101 : decode M_Sa_nearest.2.1 101 = .ok (.irem, 1) := by decide +kernel
theorem d_Sa_nearest_102 : decode M_Sa_nearest.2.1 102 = .ok (.iconst 1, 1) := by decide +kernel
theorem d_Sa_nearest_103 : decode M_Sa_nearest.2.1 103 = .ok (.if_icmp .ne 6, 3) := by decide +kernel
theorem d_Sa_nearest_106 : decode M_Sa_nearest.2.1 106 = .ok (.iinc 8 1, 3) := by decide +kernel
theorem d_Sa_nearest_109 : decode M_Sa_nearest.2.1 109 = .ok (.iload_n 2, 1) := by decide +kernel
theorem d_Sa_nearest_110 : decode M_Sa_nearest.2.1 110 = .ok (.iload 5, 2) := by decide +kernel
theorem d_Sa_nearest_112 : decode M_Sa_nearest.2.1 112 = .ok (.iconst 1, 1) := by decide +kernel
theorem d_Sa_nearest_113 : decode M_Sa_nearest.2.1 113 = .ok (.isub, 1) := by decide +kernel
theorem d_Sa_nearest_114 : decode M_Sa_nearest.2.1 114 = .ok (.imul, 1) := by decide +kernel
theorem d_Sa_nearest_115 : decode M_Sa_nearest.2.1 115 = .ok (.iload 8, 2) := by decide +kernel
theorem d_Sa_nearest_117 : decode M_Sa_nearest.2.1 117 = .ok (.iadd, 1) := by decide +kernel
theorem d_Sa_nearest_118 : decode M_Sa_nearest.2.1 118 = .ok (.ireturn, 1) := by decide +kernel
theorem d_Sa_ofFloat_0 : decode M_Sa_ofFloat.2.1 0 = .ok (.fload_n 0, 1) := by decide +kernel
theorem d_Sa_ofFloat_1 : decode M_Sa_ofFloat.2.1 1 = .ok (.fconst 0, 1) := by decide +kernel
theorem d_Sa_ofFloat_2 : decode M_Sa_ofFloat.2.1 2 = .ok (.fcmp .g, 1) := by decide +kernel
theorem d_Sa_ofFloat_3 : decode M_Sa_ofFloat.2.1 3 = .ok (.ifCond .ge 9, 3) := by decide +kernel
theorem d_Sa_ofFloat_6 : decode M_Sa_ofFloat.2.1 6 = .ok (.fload_n 0, 1) := by decide +kernel
theorem d_Sa_ofFloat_7 : decode M_Sa_ofFloat.2.1 7 = .ok (.fneg, 1) := by decide +kernel
theorem d_Sa_ofFloat_8 : decode M_Sa_ofFloat.2.1 8 = .ok (.f2d, 1) := by decide +kernel
theorem d_Sa_ofFloat_9 : decode M_Sa_ofFloat.2.1 9 = .ok (.goto 5, 3) := by decide +kernel
theorem d_Sa_ofFloat_12 : decode M_Sa_ofFloat.2.1 12 = .ok (.fload_n 0, 1) := by decide +kernel
theorem d_Sa_ofFloat_13 : decode M_Sa_ofFloat.2.1 13 = .ok (.f2d, 1) := by decide +kernel
theorem d_Sa_ofFloat_14 : decode M_Sa_ofFloat.2.1 14 = .ok (.dstore_n 1, 1) := by decide +kernel
theorem d_Sa_ofFloat_15 : decode M_Sa_ofFloat.2.1 15 = .ok (.dload_n 1, 1) := by decide +kernel
theorem d_Sa_ofFloat_16 : decode M_Sa_ofFloat.2.1 16 = .ok (.ldc 29, 2) := by decide +kernel
theorem d_Sa_ofFloat_18 : decode M_Sa_ofFloat.2.1 18 = .ok (.sipush 150, 3) := by decide +kernel
theorem d_Sa_ofFloat_21 : decode M_Sa_ofFloat.2.1 21 = .ok (.sipush 254, 3) := by decide +kernel
theorem d_Sa_ofFloat_24 : decode M_Sa_ofFloat.2.1 24 = .ok (.invokestatic 37, 3) := by decide +kernel
theorem d_Sa_ofFloat_27 : decode M_Sa_ofFloat.2.1 27 = .ok (.istore_n 3, 1) := by decide +kernel
theorem d_Sa_ofFloat_28 : decode M_Sa_ofFloat.2.1 28 = .ok (.fload_n 0, 1) := by decide +kernel
theorem d_Sa_ofFloat_29 : decode M_Sa_ofFloat.2.1 29 = .ok (.fconst 0, 1) := by decide +kernel
theorem d_Sa_ofFloat_30 : decode M_Sa_ofFloat.2.1 30 = .ok (.fcmp .g, 1) := by decide +kernel
theorem d_Sa_ofFloat_31 : decode M_Sa_ofFloat.2.1 31 = .ok (.ifCond .ge 10, 3) := by decide +kernel
theorem d_Sa_ofFloat_34 : decode M_Sa_ofFloat.2.1 34 = .ok (.iload_n 3, 1) := by decide +kernel
theorem d_Sa_ofFloat_35 : decode M_Sa_ofFloat.2.1 35 = .ok (.ldc 41, 2) := by decide +kernel
theorem d_Sa_ofFloat_37 : decode M_Sa_ofFloat.2.1 37 = .ok (.ior, 1) := by decide +kernel
theorem d_Sa_ofFloat_38 : decode M_Sa_ofFloat.2.1 38 = .ok (.goto 4, 3) := by decide +kernel
theorem d_Sa_ofFloat_41 : decode M_Sa_ofFloat.2.1 41 = .ok (.iload_n 3, 1) := by decide +kernel
theorem d_Sa_ofFloat_42 : decode M_Sa_ofFloat.2.1 42 = .ok (.ireturn, 1) := by decide +kernel
theorem d_Sa_ofWhole_0 : decode M_Sa_ofWhole.2.1 0 = .ok (.iconst 0, 1) := by decide +kernel
theorem d_Sa_ofWhole_1 : decode M_Sa_ofWhole.2.1 1 = .ok (.iload_n 0, 1) := by decide +kernel
theorem d_Sa_ofWhole_2 : decode M_Sa_ofWhole.2.1 2 = .ok (.ldc 42, 2) := by decide +kernel
theorem d_Sa_ofWhole_4 : decode M_Sa_ofWhole.2.1 4 = .ok (.invokestatic 43, 3) := by decide +kernel
theorem d_Sa_ofWhole_7 : decode M_Sa_ofWhole.2.1 7 = .ok (.invokestatic 49, 3) := by decide +kernel
theorem d_Sa_ofWhole_10 : decode M_Sa_ofWhole.2.1 10 = .ok (.ireturn, 1) := by decide +kernel
theorem d_Sa_told_0 : decode M_Sa_told.2.1 0 = .ok (.iload_n 0, 1) := by decide +kernel
theorem d_Sa_told_1 : decode M_Sa_told.2.1 1 = .ok (.lookupswitch 89 #[(0, 27), (1, 59)], 27) := by decide +kernel
theorem d_Sa_told_28 : decode M_Sa_told.2.1 28 = .ok (.iload_n 1, 1) := by decide +kernel
theorem d_Sa_told_29 : decode M_Sa_told.2.1 29 = .ok (.bipush 10, 2) := by decide +kernel
theorem d_Sa_told_31 : decode M_Sa_told.2.1 31 = .ok (.iushr, 1) := by decide +kernel
theorem d_Sa_told_32 : decode M_Sa_told.2.1 32 = .ok (.bipush 31, 2) := by decide +kernel
theorem d_Sa_told_34 : decode M_Sa_told.2.1 34 = .ok (.iand, 1) := by decide +kernel
theorem d_Sa_told_35 : decode M_Sa_told.2.1 35 = .ok (.iload_n 1, 1) := by decide +kernel
theorem d_Sa_told_36 : decode M_Sa_told.2.1 36 = .ok (.sipush 1023, 3) := by decide +kernel
theorem d_Sa_told_39 : decode M_Sa_told.2.1 39 = .ok (.iand, 1) := by decide +kernel
theorem d_Sa_told_40 : decode M_Sa_told.2.1 40 = .ok (.sipush 1024, 3) := by decide +kernel
theorem d_Sa_told_43 : decode M_Sa_told.2.1 43 = .ok (.bipush 25, 2) := by decide +kernel
theorem d_Sa_told_45 : decode M_Sa_told.2.1 45 = .ok (.iload_n 1, 1) := by decide +kernel
theorem d_Sa_told_46 : decode M_Sa_told.2.1 46 = .ok (.ldc 23, 2) := by decide +kernel
theorem d_Sa_told_48 : decode M_Sa_told.2.1 48 = .ok (.if_icmp .lt 7, 3) := by decide +kernel
theorem d_Sa_told_51 : decode M_Sa_told.2.1 51 = .ok (.iconst 1, 1) := by decide +kernel
theorem d_Sa_told_52 : decode M_Sa_told.2.1 52 = .ok (.goto 4, 3) := by decide +kernel
theorem d_Sa_told_55 : decode M_Sa_told.2.1 55 = .ok (.iconst 0, 1) := by decide +kernel
theorem d_Sa_told_56 : decode M_Sa_told.2.1 56 = .ok (.invokestatic 24, 3) := by decide +kernel
theorem d_Sa_told_59 : decode M_Sa_told.2.1 59 = .ok (.dreturn, 1) := by decide +kernel
theorem d_Sa_told_60 : decode M_Sa_told.2.1 60 = .ok (.iload_n 1, 1) := by decide +kernel
theorem d_Sa_told_61 : decode M_Sa_told.2.1 61 = .ok (.bipush 23, 2) := by decide +kernel
theorem d_Sa_told_63 : decode M_Sa_told.2.1 63 = .ok (.iushr, 1) := by decide +kernel
theorem d_Sa_told_64 : decode M_Sa_told.2.1 64 = .ok (.sipush 255, 3) := by decide +kernel
theorem d_Sa_told_67 : decode M_Sa_told.2.1 67 = .ok (.iand, 1) := by decide +kernel
theorem d_Sa_told_68 : decode M_Sa_told.2.1 68 = .ok (.iload_n 1, 1) := by decide +kernel
theorem d_Sa_told_69 : decode M_Sa_told.2.1 69 = .ok (.ldc 28, 2) := by decide +kernel
theorem d_Sa_told_71 : decode M_Sa_told.2.1 71 = .ok (.iand, 1) := by decide +kernel
theorem d_Sa_told_72 : decode M_Sa_told.2.1 72 = .ok (.ldc 29, 2) := by decide +kernel
theorem d_Sa_told_74 : decode M_Sa_told.2.1 74 = .ok (.sipush 150, 3) := by decide +kernel
theorem d_Sa_told_77 : decode M_Sa_told.2.1 77 = .ok (.iload_n 1, 1) := by decide +kernel
theorem d_Sa_told_78 : decode M_Sa_told.2.1 78 = .ok (.ifCond .ge 7, 3) := by decide +kernel
theorem d_Sa_told_81 : decode M_Sa_told.2.1 81 = .ok (.iconst 1, 1) := by decide +kernel
theorem d_Sa_told_82 : decode M_Sa_told.2.1 82 = .ok (.goto 4, 3) := by decide +kernel
theorem d_Sa_told_85 : decode M_Sa_told.2.1 85 = .ok (.iconst 0, 1) := by decide +kernel
theorem d_Sa_told_86 : decode M_Sa_told.2.1 86 = .ok (.invokestatic 24, 3) := by decide +kernel
theorem d_Sa_told_89 : decode M_Sa_told.2.1 89 = .ok (.dreturn, 1) := by decide +kernel
theorem d_Sa_told_90 : decode M_Sa_told.2.1 90 = .ok (.iload_n 1, 1) := by decide +kernel
theorem d_Sa_told_91 : decode M_Sa_told.2.1 91 = .ok (.i2d, 1) := by decide +kernel
theorem d_Sa_told_92 : decode M_Sa_told.2.1 92 = .ok (.dreturn, 1) := by decide +kernel
theorem d_Sa_toldParts_0 : decode M_Sa_toldParts.2.1 0 = .ok (.iload_n 0, 1) := by decide +kernel
theorem d_Sa_toldParts_1 : decode M_Sa_toldParts.2.1 1 = .ok (.ifCond .ne 8, 3) := by decide +kernel
theorem d_Sa_toldParts_4 : decode M_Sa_toldParts.2.1 4 = .ok (.iload_n 1, 1) := by decide +kernel
theorem d_Sa_toldParts_5 : decode M_Sa_toldParts.2.1 5 = .ok (.i2d, 1) := by decide +kernel
theorem d_Sa_toldParts_6 : decode M_Sa_toldParts.2.1 6 = .ok (.goto 7, 3) := by decide +kernel
theorem d_Sa_toldParts_9 : decode M_Sa_toldParts.2.1 9 = .ok (.iload_n 2, 1) := by decide +kernel
theorem d_Sa_toldParts_10 : decode M_Sa_toldParts.2.1 10 = .ok (.iload_n 1, 1) := by decide +kernel
theorem d_Sa_toldParts_11 : decode M_Sa_toldParts.2.1 11 = .ok (.iadd, 1) := by decide +kernel
theorem d_Sa_toldParts_12 : decode M_Sa_toldParts.2.1 12 = .ok (.i2d, 1) := by decide +kernel
theorem d_Sa_toldParts_13 : decode M_Sa_toldParts.2.1 13 = .ok (.dstore 5, 2) := by decide +kernel
theorem d_Sa_toldParts_15 : decode M_Sa_toldParts.2.1 15 = .ok (.iload_n 0, 1) := by decide +kernel
theorem d_Sa_toldParts_16 : decode M_Sa_toldParts.2.1 16 = .ok (.iconst 1, 1) := by decide +kernel
theorem d_Sa_toldParts_17 : decode M_Sa_toldParts.2.1 17 = .ok (.invokestatic 49, 3) := by decide +kernel
theorem d_Sa_toldParts_20 : decode M_Sa_toldParts.2.1 20 = .ok (.iload_n 3, 1) := by decide +kernel
theorem d_Sa_toldParts_21 : decode M_Sa_toldParts.2.1 21 = .ok (.isub, 1) := by decide +kernel
theorem d_Sa_toldParts_22 : decode M_Sa_toldParts.2.1 22 = .ok (.istore 7, 2) := by decide +kernel
theorem d_Sa_toldParts_24 : decode M_Sa_toldParts.2.1 24 = .ok (.iconst 0, 1) := by decide +kernel
theorem d_Sa_toldParts_25 : decode M_Sa_toldParts.2.1 25 = .ok (.istore 8, 2) := by decide +kernel
theorem d_Sa_toldParts_27 : decode M_Sa_toldParts.2.1 27 = .ok (.iload 8, 2) := by decide +kernel
theorem d_Sa_toldParts_29 : decode M_Sa_toldParts.2.1 29 = .ok (.iload 7, 2) := by decide +kernel
theorem d_Sa_toldParts_31 : decode M_Sa_toldParts.2.1 31 = .ok (.if_icmp .ge 17, 3) := by decide +kernel
theorem d_Sa_toldParts_34 : decode M_Sa_toldParts.2.1 34 = .ok (.dload 5, 2) := by decide +kernel
theorem d_Sa_toldParts_36 : decode M_Sa_toldParts.2.1 36 = .ok (.ldc2_w 52, 3) := by decide +kernel
theorem d_Sa_toldParts_39 : decode M_Sa_toldParts.2.1 39 = .ok (.dmul, 1) := by decide +kernel
theorem d_Sa_toldParts_40 : decode M_Sa_toldParts.2.1 40 = .ok (.dstore 5, 2) := by decide +kernel
theorem d_Sa_toldParts_42 : decode M_Sa_toldParts.2.1 42 = .ok (.iinc 8 1, 3) := by decide +kernel
theorem d_Sa_toldParts_45 : decode M_Sa_toldParts.2.1 45 = .ok (.goto (-18), 3) := by decide +kernel
theorem d_Sa_toldParts_48 : decode M_Sa_toldParts.2.1 48 = .ok (.iload 7, 2) := by decide +kernel
theorem d_Sa_toldParts_50 : decode M_Sa_toldParts.2.1 50 = .ok (.istore 8, 2) := by decide +kernel
theorem d_Sa_toldParts_52 : decode M_Sa_toldParts.2.1 52 = .ok (.iload 8, 2) := by decide +kernel
theorem d_Sa_toldParts_54 : decode M_Sa_toldParts.2.1 54 = .ok (.ifCond .ge 24, 3) := by decide +kernel
theorem d_Sa_toldParts_57 : decode M_Sa_toldParts.2.1 57 = .ok (.dload 5, 2) := by decide +kernel
theorem d_Sa_toldParts_59 : decode M_Sa_toldParts.2.1 59 = .ok (.dconst 0, 1) := by decide +kernel
theorem d_Sa_toldParts_60 : decode M_Sa_toldParts.2.1 60 = .ok (.dcmp .l, 1) := by decide +kernel
theorem d_Sa_toldParts_61 : decode M_Sa_toldParts.2.1 61 = .ok (.ifCond .le 17, 3) := by decide +kernel
theorem d_Sa_toldParts_64 : decode M_Sa_toldParts.2.1 64 = .ok (.dload 5, 2) := by decide +kernel
theorem d_Sa_toldParts_66 : decode M_Sa_toldParts.2.1 66 = .ok (.ldc2_w 52, 3) := by decide +kernel
theorem d_Sa_toldParts_69 : decode M_Sa_toldParts.2.1 69 = .ok (.ddiv, 1) := by decide +kernel
theorem d_Sa_toldParts_70 : decode M_Sa_toldParts.2.1 70 = .ok (.dstore 5, 2) := by decide +kernel
theorem d_Sa_toldParts_72 : decode M_Sa_toldParts.2.1 72 = .ok (.iinc 8 1, 3) := by decide +kernel
theorem d_Sa_toldParts_75 : decode M_Sa_toldParts.2.1 75 = .ok (.goto (-23), 3) := by decide +kernel
theorem d_Sa_toldParts_78 : decode M_Sa_toldParts.2.1 78 = .ok (.iload 4, 2) := by decide +kernel
theorem d_Sa_toldParts_80 : decode M_Sa_toldParts.2.1 80 = .ok (.ifCond .eq 16, 3) := by decide +kernel
theorem d_Sa_toldParts_83 : decode M_Sa_toldParts.2.1 83 = .ok (.dload 5, 2) := by decide +kernel
theorem d_Sa_toldParts_85 : decode M_Sa_toldParts.2.1 85 = .ok (.dconst 0, 1) := by decide +kernel
theorem d_Sa_toldParts_86 : decode M_Sa_toldParts.2.1 86 = .ok (.dcmp .l, 1) := by decide +kernel
theorem d_Sa_toldParts_87 : decode M_Sa_toldParts.2.1 87 = .ok (.ifCond .le 9, 3) := by decide +kernel
theorem d_Sa_toldParts_90 : decode M_Sa_toldParts.2.1 90 = .ok (.dload 5, 2) := by decide +kernel
theorem d_Sa_toldParts_92 : decode M_Sa_toldParts.2.1 92 = .ok (.dneg, 1) := by decide +kernel
theorem d_Sa_toldParts_93 : decode M_Sa_toldParts.2.1 93 = .ok (.goto 5, 3) := by decide +kernel
theorem d_Sa_toldParts_96 : decode M_Sa_toldParts.2.1 96 = .ok (.dload 5, 2) := by decide +kernel
theorem d_Sa_toldParts_98 : decode M_Sa_toldParts.2.1 98 = .ok (.dreturn, 1) := by decide +kernel
theorem d_Sa_shorten_0 : decode M_Sa_shorten.2.1 0 = .ok (.iload_n 0, 1) := by decide +kernel
theorem d_Sa_shorten_1 : decode M_Sa_shorten.2.1 1 = .ok (.sipush 128, 3) := by decide +kernel
theorem d_Sa_shorten_4 : decode M_Sa_shorten.2.1 4 = .ok (.iadd, 1) := by decide +kernel
theorem d_Sa_shorten_5 : decode M_Sa_shorten.2.1 5 = .ok (.istore_n 1, 1) := by decide +kernel
theorem d_Sa_shorten_6 : decode M_Sa_shorten.2.1 6 = .ok (.iconst 1, 1) := by decide +kernel
theorem d_Sa_shorten_7 : decode M_Sa_shorten.2.1 7 = .ok (.iload_n 1, 1) := by decide +kernel
theorem d_Sa_shorten_8 : decode M_Sa_shorten.2.1 8 = .ok (.invokestatic 31, 3) := by decide +kernel
theorem d_Sa_shorten_11 : decode M_Sa_shorten.2.1 11 = .ok (.ifCond .eq 10, 3) := by decide +kernel
theorem d_Sa_shorten_14 : decode M_Sa_shorten.2.1 14 = .ok (.iload_n 1, 1) := by decide +kernel
theorem d_Sa_shorten_15 : decode M_Sa_shorten.2.1 15 = .ok (.bipush 8, 2) := by decide +kernel
theorem d_Sa_shorten_17 : decode M_Sa_shorten.2.1 17 = .ok (.iushr, 1) := by decide +kernel
theorem d_Sa_shorten_18 : decode M_Sa_shorten.2.1 18 = .ok (.goto 7, 3) := by decide +kernel
theorem d_Sa_shorten_21 : decode M_Sa_shorten.2.1 21 = .ok (.iload_n 0, 1) := by decide +kernel
theorem d_Sa_shorten_22 : decode M_Sa_shorten.2.1 22 = .ok (.bipush 8, 2) := by decide +kernel
theorem d_Sa_shorten_24 : decode M_Sa_shorten.2.1 24 = .ok (.iushr, 1) := by decide +kernel
theorem d_Sa_shorten_25 : decode M_Sa_shorten.2.1 25 = .ok (.ireturn, 1) := by decide +kernel
theorem d_Sa_isNumber_0 : decode M_Sa_isNumber.2.1 0 = .ok (.iload_n 0, 1) := by decide +kernel
theorem d_Sa_isNumber_1 : decode M_Sa_isNumber.2.1 1 = .ok (.lookupswitch 59 #[(0, 27), (1, 44)], 27) := by decide +kernel
theorem d_Sa_isNumber_28 : decode M_Sa_isNumber.2.1 28 = .ok (.iload_n 1, 1) := by decide +kernel
theorem d_Sa_isNumber_29 : decode M_Sa_isNumber.2.1 29 = .ok (.sipush 31744, 3) := by decide +kernel
theorem d_Sa_isNumber_32 : decode M_Sa_isNumber.2.1 32 = .ok (.iand, 1) := by decide +kernel
theorem d_Sa_isNumber_33 : decode M_Sa_isNumber.2.1 33 = .ok (.sipush 31744, 3) := by decide +kernel
theorem d_Sa_isNumber_36 : decode M_Sa_isNumber.2.1 36 = .ok (.if_icmp .eq 7, 3) := by decide +kernel
theorem d_Sa_isNumber_39 : decode M_Sa_isNumber.2.1 39 = .ok (.iconst 1, 1) := by decide +kernel
theorem d_Sa_isNumber_40 : decode M_Sa_isNumber.2.1 40 = .ok (.goto 4, 3) := by decide +kernel
theorem d_Sa_isNumber_43 : decode M_Sa_isNumber.2.1 43 = .ok (.iconst 0, 1) := by decide +kernel
theorem d_Sa_isNumber_44 : decode M_Sa_isNumber.2.1 44 = .ok (.ireturn, 1) := by decide +kernel
theorem d_Sa_isNumber_45 : decode M_Sa_isNumber.2.1 45 = .ok (.iload_n 1, 1) := by decide +kernel
theorem d_Sa_isNumber_46 : decode M_Sa_isNumber.2.1 46 = .ok (.ldc 30, 2) := by decide +kernel
theorem d_Sa_isNumber_48 : decode M_Sa_isNumber.2.1 48 = .ok (.iand, 1) := by decide +kernel
theorem d_Sa_isNumber_49 : decode M_Sa_isNumber.2.1 49 = .ok (.ldc 30, 2) := by decide +kernel
theorem d_Sa_isNumber_51 : decode M_Sa_isNumber.2.1 51 = .ok (.if_icmp .eq 7, 3) := by decide +kernel
theorem d_Sa_isNumber_54 : decode M_Sa_isNumber.2.1 54 = .ok (.iconst 1, 1) := by decide +kernel
theorem d_Sa_isNumber_55 : decode M_Sa_isNumber.2.1 55 = .ok (.goto 4, 3) := by decide +kernel
theorem d_Sa_isNumber_58 : decode M_Sa_isNumber.2.1 58 = .ok (.iconst 0, 1) := by decide +kernel
theorem d_Sa_isNumber_59 : decode M_Sa_isNumber.2.1 59 = .ok (.ireturn, 1) := by decide +kernel
theorem d_Sa_isNumber_60 : decode M_Sa_isNumber.2.1 60 = .ok (.iconst 1, 1) := by decide +kernel
theorem d_Sa_isNumber_61 : decode M_Sa_isNumber.2.1 61 = .ok (.ireturn, 1) := by decide +kernel
theorem d_Ma_min_0 : decode M_Ma_min.2.1 0 = .ok (.iload_n 0, 1) := by decide +kernel
theorem d_Ma_min_1 : decode M_Ma_min.2.1 1 = .ok (.iload_n 1, 1) := by decide +kernel
theorem d_Ma_min_2 : decode M_Ma_min.2.1 2 = .ok (.if_icmp .gt 7, 3) := by decide +kernel
theorem d_Ma_min_5 : decode M_Ma_min.2.1 5 = .ok (.iload_n 0, 1) := by decide +kernel
theorem d_Ma_min_6 : decode M_Ma_min.2.1 6 = .ok (.goto 4, 3) := by decide +kernel
theorem d_Ma_min_9 : decode M_Ma_min.2.1 9 = .ok (.iload_n 1, 1) := by decide +kernel
theorem d_Ma_min_10 : decode M_Ma_min.2.1 10 = .ok (.ireturn, 1) := by decide +kernel
theorem d_Ma_max_0 : decode M_Ma_max.2.1 0 = .ok (.iload_n 0, 1) := by decide +kernel
theorem d_Ma_max_1 : decode M_Ma_max.2.1 1 = .ok (.iload_n 1, 1) := by decide +kernel
theorem d_Ma_max_2 : decode M_Ma_max.2.1 2 = .ok (.if_icmp .lt 7, 3) := by decide +kernel
theorem d_Ma_max_5 : decode M_Ma_max.2.1 5 = .ok (.iload_n 0, 1) := by decide +kernel
theorem d_Ma_max_6 : decode M_Ma_max.2.1 6 = .ok (.goto 4, 3) := by decide +kernel
theorem d_Ma_max_9 : decode M_Ma_max.2.1 9 = .ok (.iload_n 1, 1) := by decide +kernel
theorem d_Ma_max_10 : decode M_Ma_max.2.1 10 = .ok (.ireturn, 1) := by decide +kernel
