theorem d_Pi_greatestDistance_36 : decode M_Pi_greatestDistance.2.1 36 = .ok (.ifCond .eq 50, 3) := by decide +kernel
theorem d_Pi_greatestDistance_39 : decode M_Pi_greatestDistance.2.1 39 = .ok (.aload_n 0, 1) := by decide +kernel
theorem d_Pi_greatestDistance_40 : decode M_Pi_greatestDistance.2.1 40 = .ok (.iload_n 1, 1) := by decide +kernel
theorem d_Pi_greatestDistance_41 : decode M_Pi_greatestDistance.2.1 41 = .ok (.iload 7, 2) := by decide +kernel
theorem d_Pi_greatestDistance_43 : decode M_Pi_greatestDistance.2.1 43 = .ok (.iload 6, 2) := by decide +kernel
theorem d_Pi_greatestDistance_45 : decode M_Pi_greatestDistance.2.1 45 = .ok (.invokevirtual 66, 3) := by decide +kernel
theorem d_Pi_greatestDistance_48 : decode M_Pi_greatestDistance.2.1 48 = .ok (.dload_n 2, 1) := by decide +kernel
theorem d_Pi_greatestDistance_49 : decode M_Pi_greatestDistance.2.1 49 = .ok (.dsub, 1) := by decide +kernel
theorem d_Pi_greatestDistance_50 : decode M_Pi_greatestDistance.2.1 50 = .ok (.dstore 8, 2) := by decide +kernel
theorem d_Pi_greatestDistance_52 : decode M_Pi_greatestDistance.2.1 52 = .ok (.dload 8, 2) := by decide +kernel
theorem d_Pi_greatestDistance_54 : decode M_Pi_greatestDistance.2.1 54 = .ok (.dconst 0, 1) := by decide +kernel
theorem d_Pi_greatestDistance_55 : decode M_Pi_greatestDistance.2.1 55 = .ok (.dcmp .g, 1) := by decide +kernel
theorem d_Pi_greatestDistance_56 : decode M_Pi_greatestDistance.2.1 56 = .ok (.ifCond .ge 9, 3) := by decide +kernel
theorem d_Pi_greatestDistance_59 : decode M_Pi_greatestDistance.2.1 59 = .ok (.dload 8, 2) := by decide +kernel
theorem d_Pi_greatestDistance_61 : decode M_Pi_greatestDistance.2.1 61 = .ok (.dneg, 1) := by decide +kernel
theorem d_Pi_greatestDistance_62 : decode M_Pi_greatestDistance.2.1 62 = .ok (.goto 5, 3) := by decide +kernel
theorem d_Pi_greatestDistance_65 : decode M_Pi_greatestDistance.2.1 65 = .ok (.dload 8, 2) := by decide +kernel
theorem d_Pi_greatestDistance_67 : decode M_Pi_greatestDistance.2.1 67 = .ok (.dstore 10, 2) := by decide +kernel
theorem d_Pi_greatestDistance_69 : decode M_Pi_greatestDistance.2.1 69 = .ok (.dload 10, 2) := by decide +kernel
theorem d_Pi_greatestDistance_71 : decode M_Pi_greatestDistance.2.1 71 = .ok (.dload 4, 2) := by decide +kernel
theorem d_Pi_greatestDistance_73 : decode M_Pi_greatestDistance.2.1 73 = .ok (.dcmp .l, 1) := by decide +kernel
theorem d_Pi_greatestDistance_74 : decode M_Pi_greatestDistance.2.1 74 = .ok (.ifCond .le 8, 3) := by decide +kernel
theorem d_Pi_greatestDistance_77 : decode M_Pi_greatestDistance.2.1 77 = .ok (.dload 10, 2) := by decide +kernel
theorem d_Pi_greatestDistance_79 : decode M_Pi_greatestDistance.2.1 79 = .ok (.goto 5, 3) := by decide +kernel
theorem d_Pi_greatestDistance_82 : decode M_Pi_greatestDistance.2.1 82 = .ok (.dload 4, 2) := by decide +kernel
theorem d_Pi_greatestDistance_84 : decode M_Pi_greatestDistance.2.1 84 = .ok (.dstore 4, 2) := by decide +kernel
theorem d_Pi_greatestDistance_86 : decode M_Pi_greatestDistance.2.1 86 = .ok (.iinc 7 1, 3) := by decide +kernel
theorem d_Pi_greatestDistance_89 : decode M_Pi_greatestDistance.2.1 89 = .ok (.goto (-71), 3) := by decide +kernel
theorem d_Pi_greatestDistance_92 : decode M_Pi_greatestDistance.2.1 92 = .ok (.iinc 6 1, 3) := by decide +kernel
theorem d_Pi_greatestDistance_95 : decode M_Pi_greatestDistance.2.1 95 = .ok (.goto (-89), 3) := by decide +kernel
theorem d_Pi_greatestDistance_98 : decode M_Pi_greatestDistance.2.1 98 = .ok (.dload 4, 2) := by decide +kernel
theorem d_Pi_greatestDistance_100 : decode M_Pi_greatestDistance.2.1 100 = .ok (.dreturn, 1) := by decide +kernel
theorem d_Ar_fill_0 : decode M_Ar_fill.2.1 0 = .ok (.iconst 0, 1) := by decide +kernel
theorem d_Ar_fill_1 : decode M_Ar_fill.2.1 1 = .ok (.istore_n 2, 1) := by decide +kernel
theorem d_Ar_fill_2 : decode M_Ar_fill.2.1 2 = .ok (.aload_n 0, 1) := by decide +kernel
theorem d_Ar_fill_3 : decode M_Ar_fill.2.1 3 = .ok (.arraylength, 1) := by decide +kernel
theorem d_Ar_fill_4 : decode M_Ar_fill.2.1 4 = .ok (.istore_n 3, 1) := by decide +kernel
theorem d_Ar_fill_5 : decode M_Ar_fill.2.1 5 = .ok (.iload_n 2, 1) := by decide +kernel
theorem d_Ar_fill_6 : decode M_Ar_fill.2.1 6 = .ok (.iload_n 3, 1) := by decide +kernel
theorem d_Ar_fill_7 : decode M_Ar_fill.2.1 7 = .ok (.if_icmp .ge 13, 3) := by decide +kernel
theorem d_Ar_fill_10 : decode M_Ar_fill.2.1 10 = .ok (.aload_n 0, 1) := by decide +kernel
theorem d_Ar_fill_11 : decode M_Ar_fill.2.1 11 = .ok (.iload_n 2, 1) := by decide +kernel
theorem d_Ar_fill_12 : decode M_Ar_fill.2.1 12 = .ok (.iload_n 1, 1) := by decide +kernel
theorem d_Ar_fill_13 : decode M_Ar_fill.2.1 13 = .ok (.iastore, 1) := by decide +kernel
theorem d_Ar_fill_14 : decode M_Ar_fill.2.1 14 = .ok (.iinc 2 1, 3) := by decide +kernel
theorem d_Ar_fill_17 : decode M_Ar_fill.2.1 17 = .ok (.goto (-12), 3) := by decide +kernel
theorem d_Ar_fill_20 : decode M_Ar_fill.2.1 20 = .ok (.return_, 1) := by decide +kernel
theorem d_La_begin_0 : decode M_La_begin.2.1 0 = .ok (.aload_n 3, 1) := by decide +kernel
theorem d_La_begin_1 : decode M_La_begin.2.1 1 = .ok (.iconst 0, 1) := by decide +kernel
theorem d_La_begin_2 : decode M_La_begin.2.1 2 = .ok (.aload_n 0, 1) := by decide +kernel
theorem d_La_begin_3 : decode M_La_begin.2.1 3 = .ok (.iload_n 1, 1) := by decide +kernel
theorem d_La_begin_4 : decode M_La_begin.2.1 4 = .ok (.iload_n 2, 1) := by decide +kernel
theorem d_La_begin_5 : decode M_La_begin.2.1 5 = .ok (.invokevirtual 7, 3) := by decide +kernel
theorem d_La_begin_8 : decode M_La_begin.2.1 8 = .ok (.i2l, 1) := by decide +kernel
theorem d_La_begin_9 : decode M_La_begin.2.1 9 = .ok (.lastore, 1) := by decide +kernel
theorem d_La_begin_10 : decode M_La_begin.2.1 10 = .ok (.goto 7, 3) := by decide +kernel
theorem d_La_begin_13 : decode M_La_begin.2.1 13 = .ok (.astore 4, 2) := by decide +kernel
theorem d_La_begin_15 : decode M_La_begin.2.1 15 = .ok (.iconst 1, 1) := by decide +kernel
theorem d_La_begin_16 : decode M_La_begin.2.1 16 = .ok (.ireturn, 1) := by decide +kernel
theorem d_La_begin_17 : decode M_La_begin.2.1 17 = .ok (.iconst 0, 1) := by decide +kernel
theorem d_La_begin_18 : decode M_La_begin.2.1 18 = .ok (.ireturn, 1) := by decide +kernel
theorem d_La_channel_0 : decode M_La_channel.2.1 0 = .ok (.aload 4, 2) := by decide +kernel
theorem d_La_channel_2 : decode M_La_channel.2.1 2 = .ok (.iconst 0, 1) := by decide +kernel
theorem d_La_channel_3 : decode M_La_channel.2.1 3 = .ok (.aload_n 0, 1) := by decide +kernel
theorem d_La_channel_4 : decode M_La_channel.2.1 4 = .ok (.iload_n 1, 1) := by decide +kernel
theorem d_La_channel_5 : decode M_La_channel.2.1 5 = .ok (.iload_n 2, 1) := by decide +kernel
theorem d_La_channel_6 : decode M_La_channel.2.1 6 = .ok (.iload_n 3, 1) := by decide +kernel
theorem d_La_channel_7 : decode M_La_channel.2.1 7 = .ok (.invokevirtual 15, 3) := by decide +kernel
theorem d_La_channel_10 : decode M_La_channel.2.1 10 = .ok (.i2l, 1) := by decide +kernel
theorem d_La_channel_11 : decode M_La_channel.2.1 11 = .ok (.lastore, 1) := by decide +kernel
theorem d_La_channel_12 : decode M_La_channel.2.1 12 = .ok (.goto 11, 3) := by decide +kernel
theorem d_La_channel_15 : decode M_La_channel.2.1 15 = .ok (.astore 5, 2) := by decide +kernel
theorem d_La_channel_17 : decode M_La_channel.2.1 17 = .ok (.iconst 1, 1) := by decide +kernel
theorem d_La_channel_18 : decode M_La_channel.2.1 18 = .ok (.ireturn, 1) := by decide +kernel
theorem d_La_channel_19 : decode M_La_channel.2.1 19 = .ok (.astore 5, 2) := by decide +kernel
theorem d_La_channel_21 : decode M_La_channel.2.1 21 = .ok (.iconst 2, 1) := by decide +kernel
theorem d_La_channel_22 : decode M_La_channel.2.1 22 = .ok (.ireturn, 1) := by decide +kernel
theorem d_La_channel_23 : decode M_La_channel.2.1 23 = .ok (.iconst 0, 1) := by decide +kernel
theorem d_La_channel_24 : decode M_La_channel.2.1 24 = .ok (.ireturn, 1) := by decide +kernel
theorem d_La_set_0 : decode M_La_set.2.1 0 = .ok (.aload 6, 2) := by decide +kernel
theorem d_La_set_2 : decode M_La_set.2.1 2 = .ok (.iconst 0, 1) := by decide +kernel
theorem d_La_set_3 : decode M_La_set.2.1 3 = .ok (.aload_n 0, 1) := by decide +kernel
theorem d_La_set_4 : decode M_La_set.2.1 4 = .ok (.iload_n 1, 1) := by decide +kernel
theorem d_La_set_5 : decode M_La_set.2.1 5 = .ok (.iload_n 2, 1) := by decide +kernel
theorem d_La_set_6 : decode M_La_set.2.1 6 = .ok (.iload_n 3, 1) := by decide +kernel
theorem d_La_set_7 : decode M_La_set.2.1 7 = .ok (.dload 4, 2) := by decide +kernel
theorem d_La_set_9 : decode M_La_set.2.1 9 = .ok (.invokevirtual 21, 3) := by decide +kernel
theorem d_La_set_12 : decode M_La_set.2.1 12 = .ok (.dastore, 1) := by decide +kernel
theorem d_La_set_13 : decode M_La_set.2.1 13 = .ok (.goto 11, 3) := by decide +kernel
theorem d_La_set_16 : decode M_La_set.2.1 16 = .ok (.astore 7, 2) := by decide +kernel
theorem d_La_set_18 : decode M_La_set.2.1 18 = .ok (.iconst 1, 1) := by decide +kernel
theorem d_La_set_19 : decode M_La_set.2.1 19 = .ok (.ireturn, 1) := by decide +kernel
theorem d_La_set_20 : decode M_La_set.2.1 20 = .ok (.astore 7, 2) := by decide +kernel
theorem d_La_set_22 : decode M_La_set.2.1 22 = .ok (.iconst 2, 1) := by decide +kernel
theorem d_La_set_23 : decode M_La_set.2.1 23 = .ok (.ireturn, 1) := by decide +kernel
theorem d_La_set_24 : decode M_La_set.2.1 24 = .ok (.iconst 0, 1) := by decide +kernel
theorem d_La_set_25 : decode M_La_set.2.1 25 = .ok (.ireturn, 1) := by decide +kernel
theorem d_La_get_0 : decode M_La_get.2.1 0 = .ok (.aload 4, 2) := by decide +kernel
theorem d_La_get_2 : decode M_La_get.2.1 2 = .ok (.iconst 0, 1) := by decide +kernel
theorem d_La_get_3 : decode M_La_get.2.1 3 = .ok (.aload_n 0, 1) := by decide +kernel
theorem d_La_get_4 : decode M_La_get.2.1 4 = .ok (.iload_n 1, 1) := by decide +kernel
theorem d_La_get_5 : decode M_La_get.2.1 5 = .ok (.iload_n 2, 1) := by decide +kernel
theorem d_La_get_6 : decode M_La_get.2.1 6 = .ok (.iload_n 3, 1) := by decide +kernel
theorem d_La_get_7 : decode M_La_get.2.1 7 = .ok (.invokevirtual 27, 3) := by decide +kernel
theorem d_La_get_10 : decode M_La_get.2.1 10 = .ok (.dastore, 1) := by decide +kernel
theorem d_La_get_11 : decode M_La_get.2.1 11 = .ok (.goto 7, 3) := by decide +kernel
theorem d_La_get_14 : decode M_La_get.2.1 14 = .ok (.astore 5, 2) := by decide +kernel
theorem d_La_get_16 : decode M_La_get.2.1 16 = .ok (.iconst 1, 1) := by decide +kernel
theorem d_La_get_17 : decode M_La_get.2.1 17 = .ok (.ireturn, 1) := by decide +kernel
theorem d_La_get_18 : decode M_La_get.2.1 18 = .ok (.iconst 0, 1) := by decide +kernel
theorem d_La_get_19 : decode M_La_get.2.1 19 = .ok (.ireturn, 1) := by decide +kernel
theorem d_La_bits_0 : decode M_La_bits.2.1 0 = .ok (.aload 4, 2) := by decide +kernel
theorem d_La_bits_2 : decode M_La_bits.2.1 2 = .ok (.iconst 0, 1) := by decide +kernel
theorem d_La_bits_3 : decode M_La_bits.2.1 3 = .ok (.aload_n 0, 1) := by decide +kernel
theorem d_La_bits_4 : decode M_La_bits.2.1 4 = .ok (.iload_n 1, 1) := by decide +kernel
theorem d_La_bits_5 : decode M_La_bits.2.1 5 = .ok (.iload_n 2, 1) := by decide +kernel
theorem d_La_bits_6 : decode M_La_bits.2.1 6 = .ok (.iload_n 3, 1) := by decide +kernel
theorem d_La_bits_7 : decode M_La_bits.2.1 7 = .ok (.invokevirtual 31, 3) := by decide +kernel
theorem d_La_bits_10 : decode M_La_bits.2.1 10 = .ok (.i2l, 1) := by decide +kernel
theorem d_La_bits_11 : decode M_La_bits.2.1 11 = .ok (.lastore, 1) := by decide +kernel
theorem d_La_bits_12 : decode M_La_bits.2.1 12 = .ok (.goto 7, 3) := by decide +kernel
theorem d_La_bits_15 : decode M_La_bits.2.1 15 = .ok (.astore 5, 2) := by decide +kernel
theorem d_La_bits_17 : decode M_La_bits.2.1 17 = .ok (.iconst 1, 1) := by decide +kernel
theorem d_La_bits_18 : decode M_La_bits.2.1 18 = .ok (.ireturn, 1) := by decide +kernel
theorem d_La_bits_19 : decode M_La_bits.2.1 19 = .ok (.iconst 0, 1) := by decide +kernel
theorem d_La_bits_20 : decode M_La_bits.2.1 20 = .ok (.ireturn, 1) := by decide +kernel
theorem d_La_encode_0 : decode M_La_encode.2.1 0 = .ok (.aload_n 2, 1) := by decide +kernel
theorem d_La_encode_1 : decode M_La_encode.2.1 1 = .ok (.iconst 0, 1) := by decide +kernel
theorem d_La_encode_2 : decode M_La_encode.2.1 2 = .ok (.aload_n 0, 1) := by decide +kernel
theorem d_La_encode_3 : decode M_La_encode.2.1 3 = .ok (.iload_n 1, 1) := by decide +kernel
theorem d_La_encode_4 : decode M_La_encode.2.1 4 = .ok (.invokevirtual 34, 3) := by decide +kernel
theorem d_La_encode_7 : decode M_La_encode.2.1 7 = .ok (.i2l, 1) := by decide +kernel
theorem d_La_encode_8 : decode M_La_encode.2.1 8 = .ok (.lastore, 1) := by decide +kernel
theorem d_La_encode_9 : decode M_La_encode.2.1 9 = .ok (.goto 9, 3) := by decide +kernel
theorem d_La_encode_12 : decode M_La_encode.2.1 12 = .ok (.astore_n 3, 1) := by decide +kernel
theorem d_La_encode_13 : decode M_La_encode.2.1 13 = .ok (.iconst 1, 1) := by decide +kernel
theorem d_La_encode_14 : decode M_La_encode.2.1 14 = .ok (.ireturn, 1) := by decide +kernel
theorem d_La_encode_15 : decode M_La_encode.2.1 15 = .ok (.astore_n 3, 1) := by decide +kernel
theorem d_La_encode_16 : decode M_La_encode.2.1 16 = .ok (.iconst 2, 1) := by decide +kernel
theorem d_La_encode_17 : decode M_La_encode.2.1 17 = .ok (.ireturn, 1) := by decide +kernel
theorem d_La_encode_18 : decode M_La_encode.2.1 18 = .ok (.iconst 0, 1) := by decide +kernel
theorem d_La_encode_19 : decode M_La_encode.2.1 19 = .ok (.ireturn, 1) := by decide +kernel
theorem d_La_decode_0 : decode M_La_decode.2.1 0 = .ok (.aload_n 1, 1) := by decide +kernel
theorem d_La_decode_1 : decode M_La_decode.2.1 1 = .ok (.iconst 0, 1) := by decide +kernel
theorem d_La_decode_2 : decode M_La_decode.2.1 2 = .ok (.aload_n 0, 1) := by decide +kernel
theorem d_La_decode_3 : decode M_La_decode.2.1 3 = .ok (.invokevirtual 38, 3) := by decide +kernel
theorem d_La_decode_6 : decode M_La_decode.2.1 6 = .ok (.i2l, 1) := by decide +kernel
theorem d_La_decode_7 : decode M_La_decode.2.1 7 = .ok (.lastore, 1) := by decide +kernel
theorem d_La_decode_8 : decode M_La_decode.2.1 8 = .ok (.goto 9, 3) := by decide +kernel
theorem d_La_decode_11 : decode M_La_decode.2.1 11 = .ok (.astore_n 2, 1) := by decide +kernel
theorem d_La_decode_12 : decode M_La_decode.2.1 12 = .ok (.iconst 1, 1) := by decide +kernel
theorem d_La_decode_13 : decode M_La_decode.2.1 13 = .ok (.ireturn, 1) := by decide +kernel
theorem d_La_decode_14 : decode M_La_decode.2.1 14 = .ok (.astore_n 2, 1) := by decide +kernel
theorem d_La_decode_15 : decode M_La_decode.2.1 15 = .ok (.iconst 2, 1) := by decide +kernel
theorem d_La_decode_16 : decode M_La_decode.2.1 16 = .ok (.ireturn, 1) := by decide +kernel
theorem d_La_decode_17 : decode M_La_decode.2.1 17 = .ok (.iconst 0, 1) := by decide +kernel
theorem d_La_decode_18 : decode M_La_decode.2.1 18 = .ok (.ireturn, 1) := by decide +kernel
theorem d_La_file_0 : decode M_La_file.2.1 0 = .ok (.aload_n 2, 1) := by decide +kernel
theorem d_La_file_1 : decode M_La_file.2.1 1 = .ok (.iconst 0, 1) := by decide +kernel
theorem d_La_file_2 : decode M_La_file.2.1 2 = .ok (.aload_n 0, 1) := by decide +kernel
theorem d_La_file_3 : decode M_La_file.2.1 3 = .ok (.iload_n 1, 1) := by decide +kernel
theorem d_La_file_4 : decode M_La_file.2.1 4 = .ok (.invokevirtual 44, 3) := by decide +kernel
theorem d_La_file_7 : decode M_La_file.2.1 7 = .ok (.i2l, 1) := by decide +kernel
theorem d_La_file_8 : decode M_La_file.2.1 8 = .ok (.lastore, 1) := by decide +kernel
theorem d_La_file_9 : decode M_La_file.2.1 9 = .ok (.goto 6, 3) := by decide +kernel
theorem d_La_file_12 : decode M_La_file.2.1 12 = .ok (.astore_n 3, 1) := by decide +kernel
theorem d_La_file_13 : decode M_La_file.2.1 13 = .ok (.iconst 1, 1) := by decide +kernel
theorem d_La_file_14 : decode M_La_file.2.1 14 = .ok (.ireturn, 1) := by decide +kernel
theorem d_La_file_15 : decode M_La_file.2.1 15 = .ok (.iconst 0, 1) := by decide +kernel
theorem d_La_file_16 : decode M_La_file.2.1 16 = .ok (.ireturn, 1) := by decide +kernel
theorem d_La_patch_0 : decode M_La_patch.2.1 0 = .ok (.aload_n 3, 1) := by decide +kernel
theorem d_La_patch_1 : decode M_La_patch.2.1 1 = .ok (.iconst 0, 1) := by decide +kernel
theorem d_La_patch_2 : decode M_La_patch.2.1 2 = .ok (.aload_n 0, 1) := by decide +kernel
theorem d_La_patch_3 : decode M_La_patch.2.1 3 = .ok (.iload_n 1, 1) := by decide +kernel
theorem d_La_patch_4 : decode M_La_patch.2.1 4 = .ok (.iload_n 2, 1) := by decide +kernel
theorem d_La_patch_5 : decode M_La_patch.2.1 5 = .ok (.invokevirtual 47, 3) := by decide +kernel
theorem d_La_patch_8 : decode M_La_patch.2.1 8 = .ok (.i2l, 1) := by decide +kernel
theorem d_La_patch_9 : decode M_La_patch.2.1 9 = .ok (.lastore, 1) := by decide +kernel
theorem d_La_patch_10 : decode M_La_patch.2.1 10 = .ok (.goto 11, 3) := by decide +kernel
theorem d_La_patch_13 : decode M_La_patch.2.1 13 = .ok (.astore 4, 2) := by decide +kernel
theorem d_La_patch_15 : decode M_La_patch.2.1 15 = .ok (.iconst 1, 1) := by decide +kernel
theorem d_La_patch_16 : decode M_La_patch.2.1 16 = .ok (.ireturn, 1) := by decide +kernel
theorem d_La_patch_17 : decode M_La_patch.2.1 17 = .ok (.astore 4, 2) := by decide +kernel
theorem d_La_patch_19 : decode M_La_patch.2.1 19 = .ok (.iconst 2, 1) := by decide +kernel
theorem d_La_patch_20 : decode M_La_patch.2.1 20 = .ok (.ireturn, 1) := by decide +kernel
theorem d_La_patch_21 : decode M_La_patch.2.1 21 = .ok (.iconst 0, 1) := by decide +kernel
theorem d_La_patch_22 : decode M_La_patch.2.1 22 = .ok (.ireturn, 1) := by decide +kernel
theorem d_La_cut_0 : decode M_La_cut.2.1 0 = .ok (.aload_n 2, 1) := by decide +kernel
theorem d_La_cut_1 : decode M_La_cut.2.1 1 = .ok (.iconst 0, 1) := by decide +kernel
theorem d_La_cut_2 : decode M_La_cut.2.1 2 = .ok (.aload_n 0, 1) := by decide +kernel
theorem d_La_cut_3 : decode M_La_cut.2.1 3 = .ok (.iload_n 1, 1) := by decide +kernel
theorem d_La_cut_4 : decode M_La_cut.2.1 4 = .ok (.invokevirtual 50, 3) := by decide +kernel
theorem d_La_cut_7 : decode M_La_cut.2.1 7 = .ok (.i2l, 1) := by decide +kernel
theorem d_La_cut_8 : decode M_La_cut.2.1 8 = .ok (.lastore, 1) := by decide +kernel
theorem d_La_cut_9 : decode M_La_cut.2.1 9 = .ok (.goto 6, 3) := by decide +kernel
theorem d_La_cut_12 : decode M_La_cut.2.1 12 = .ok (.astore_n 3, 1) := by decide +kernel
theorem d_La_cut_13 : decode M_La_cut.2.1 13 = .ok (.iconst 1, 1) := by decide +kernel
theorem d_La_cut_14 : decode M_La_cut.2.1 14 = .ok (.ireturn, 1) := by decide +kernel
theorem d_La_cut_15 : decode M_La_cut.2.1 15 = .ok (.iconst 0, 1) := by decide +kernel
theorem d_La_cut_16 : decode M_La_cut.2.1 16 = .ok (.ireturn, 1) := by decide +kernel
theorem d_La_count_0 : decode M_La_count.2.1 0 = .ok (.aload_n 2, 1) := by decide +kernel
theorem d_La_count_1 : decode M_La_count.2.1 1 = .ok (.iconst 0, 1) := by decide +kernel
theorem d_La_count_2 : decode M_La_count.2.1 2 = .ok (.aload_n 0, 1) := by decide +kernel
theorem d_La_count_3 : decode M_La_count.2.1 3 = .ok (.iload_n 1, 1) := by decide +kernel
theorem d_La_count_4 : decode M_La_count.2.1 4 = .ok (.invokevirtual 53, 3) := by decide +kernel
theorem d_La_count_7 : decode M_La_count.2.1 7 = .ok (.i2l, 1) := by decide +kernel
theorem d_La_count_8 : decode M_La_count.2.1 8 = .ok (.lastore, 1) := by decide +kernel
theorem d_La_count_9 : decode M_La_count.2.1 9 = .ok (.goto 6, 3) := by decide +kernel
theorem d_La_count_12 : decode M_La_count.2.1 12 = .ok (.astore_n 3, 1) := by decide +kernel
theorem d_La_count_13 : decode M_La_count.2.1 13 = .ok (.iconst 1, 1) := by decide +kernel
theorem d_La_count_14 : decode M_La_count.2.1 14 = .ok (.ireturn, 1) := by decide +kernel
theorem d_La_count_15 : decode M_La_count.2.1 15 = .ok (.iconst 0, 1) := by decide +kernel
theorem d_La_count_16 : decode M_La_count.2.1 16 = .ok (.ireturn, 1) := by decide +kernel
theorem d_La_spread_0 : decode M_La_spread.2.1 0 = .ok (.aload 4, 2) := by decide +kernel
theorem d_La_spread_2 : decode M_La_spread.2.1 2 = .ok (.iconst 0, 1) := by decide +kernel
theorem d_La_spread_3 : decode M_La_spread.2.1 3 = .ok (.aload_n 0, 1) := by decide +kernel
theorem d_La_spread_4 : decode M_La_spread.2.1 4 = .ok (.iload_n 1, 1) := by decide +kernel
theorem d_La_spread_5 : decode M_La_spread.2.1 5 = .ok (.dload_n 2, 1) := by decide +kernel
theorem d_La_spread_6 : decode M_La_spread.2.1 6 = .ok (.invokevirtual 56, 3) := by decide +kernel
theorem d_La_spread_9 : decode M_La_spread.2.1 9 = .ok (.dastore, 1) := by decide +kernel
theorem d_La_spread_10 : decode M_La_spread.2.1 10 = .ok (.goto 11, 3) := by decide +kernel
theorem d_La_spread_13 : decode M_La_spread.2.1 13 = .ok (.astore 5, 2) := by decide +kernel
theorem d_La_spread_15 : decode M_La_spread.2.1 15 = .ok (.iconst 1, 1) := by decide +kernel
theorem d_La_spread_16 : decode M_La_spread.2.1 16 = .ok (.ireturn, 1) := by decide +kernel
theorem d_La_spread_17 : decode M_La_spread.2.1 17 = .ok (.astore 5, 2) := by decide +kernel
theorem d_La_spread_19 : decode M_La_spread.2.1 19 = .ok (.iconst 2, 1) := by decide +kernel
theorem d_La_spread_20 : decode M_La_spread.2.1 20 = .ok (.ireturn, 1) := by decide +kernel
theorem d_La_spread_21 : decode M_La_spread.2.1 21 = .ok (.iconst 0, 1) := by decide +kernel
theorem d_La_spread_22 : decode M_La_spread.2.1 22 = .ok (.ireturn, 1) := by decide +kernel
theorem d_La_law_0 : decode M_La_law.2.1 0 = .ok (.new 8, 3) := by decide +kernel
theorem d_La_law_3 : decode M_La_law.2.1 3 = .ok (.dup, 1) := by decide +kernel
theorem d_La_law_4 : decode M_La_law.2.1 4 = .ok (.invokespecial 60, 3) := by decide +kernel
theorem d_La_law_7 : decode M_La_law.2.1 7 = .ok (.astore_n 1, 1) := by decide +kernel
theorem d_La_law_8 : decode M_La_law.2.1 8 = .ok (.new 61, 3) := by decide +kernel
theorem d_La_law_11 : decode M_La_law.2.1 11 = .ok (.dup, 1) := by decide +kernel
theorem d_La_law_12 : decode M_La_law.2.1 12 = .ok (.invokespecial 63, 3) := by decide +kernel
theorem d_La_law_15 : decode M_La_law.2.1 15 = .ok (.astore_n 2, 1) := by decide +kernel
theorem d_La_law_16 : decode M_La_law.2.1 16 = .ok (.iconst 1, 1) := by decide +kernel
theorem d_La_law_17 : decode M_La_law.2.1 17 = .ok (.newarray .long, 2) := by decide +kernel
theorem d_La_law_19 : decode M_La_law.2.1 19 = .ok (.astore_n 3, 1) := by decide +kernel
theorem d_La_law_20 : decode M_La_law.2.1 20 = .ok (.iconst 1, 1) := by decide +kernel
theorem d_La_law_21 : decode M_La_law.2.1 21 = .ok (.newarray .double, 2) := by decide +kernel
theorem d_La_law_23 : decode M_La_law.2.1 23 = .ok (.astore 4, 2) := by decide +kernel
theorem d_La_law_25 : decode M_La_law.2.1 25 = .ok (.iconst 0, 1) := by decide +kernel
theorem d_La_law_26 : decode M_La_law.2.1 26 = .ok (.istore 5, 2) := by decide +kernel
theorem d_La_law_28 : decode M_La_law.2.1 28 = .ok (.iload 5, 2) := by decide +kernel
theorem d_La_law_30 : decode M_La_law.2.1 30 = .ok (.aload_n 0, 1) := by decide +kernel
theorem d_La_law_31 : decode M_La_law.2.1 31 = .ok (.arraylength, 1) := by decide +kernel
theorem d_La_law_32 : decode M_La_law.2.1 32 = .ok (.iconst 5, 1) := by decide +kernel
theorem d_La_law_33 : decode M_La_law.2.1 33 = .ok (.isub, 1) := by decide +kernel
theorem d_La_law_34 : decode M_La_law.2.1 34 = .ok (.if_icmp .gt 984, 3) := by decide +kernel
theorem d_La_law_37 : decode M_La_law.2.1 37 = .ok (.aload_n 0, 1) := by decide +kernel
theorem d_La_law_38 : decode M_La_law.2.1 38 = .ok (.iload 5, 2) := by decide +kernel
theorem d_La_law_40 : decode M_La_law.2.1 40 = .ok (.iaload, 1) := by decide +kernel
theorem d_La_law_41 : decode M_La_law.2.1 41 = .ok (.bipush 15, 2) := by decide +kernel
theorem d_La_law_43 : decode M_La_law.2.1 43 = .ok (.iand, 1) := by decide +kernel
theorem d_La_law_44 : decode M_La_law.2.1 44 = .ok (.tableswitch 968 0 12 #[68, 136, 216, 339, 440, 520, 576, 620, 633, 689, 757, 813, 869], 68) := by decide +kernel
theorem d_La_law_112 : decode M_La_law.2.1 112 = .ok (.aload_n 1, 1) := by decide +kernel
theorem d_La_law_113 : decode M_La_law.2.1 113 = .ok (.aload_n 0, 1) := by decide +kernel
theorem d_La_law_114 : decode M_La_law.2.1 114 = .ok (.iload 5, 2) := by decide +kernel
theorem d_La_law_116 : decode M_La_law.2.1 116 = .ok (.iconst 1, 1) := by decide +kernel
theorem d_La_law_117 : decode M_La_law.2.1 117 = .ok (.iadd, 1) := by decide +kernel
theorem d_La_law_118 : decode M_La_law.2.1 118 = .ok (.iaload, 1) := by decide +kernel
theorem d_La_law_119 : decode M_La_law.2.1 119 = .ok (.aload_n 0, 1) := by decide +kernel
theorem d_La_law_120 : decode M_La_law.2.1 120 = .ok (.iload 5, 2) := by decide +kernel
theorem d_La_law_122 : decode M_La_law.2.1 122 = .ok (.iconst 2, 1) := by decide +kernel
theorem d_La_law_123 : decode M_La_law.2.1 123 = .ok (.iadd, 1) := by decide +kernel
theorem d_La_law_124 : decode M_La_law.2.1 124 = .ok (.iaload, 1) := by decide +kernel
theorem d_La_law_125 : decode M_La_law.2.1 125 = .ok (.aload_n 3, 1) := by decide +kernel
theorem d_La_law_126 : decode M_La_law.2.1 126 = .ok (.invokestatic 64, 3) := by decide +kernel
theorem d_La_law_129 : decode M_La_law.2.1 129 = .ok (.istore 6, 2) := by decide +kernel
theorem d_La_law_131 : decode M_La_law.2.1 131 = .ok (.aload_n 2, 1) := by decide +kernel
theorem d_La_law_132 : decode M_La_law.2.1 132 = .ok (.aload_n 0, 1) := by decide +kernel
theorem d_La_law_133 : decode M_La_law.2.1 133 = .ok (.iload 5, 2) := by decide +kernel
theorem d_La_law_135 : decode M_La_law.2.1 135 = .ok (.iconst 1, 1) := by decide +kernel
theorem d_La_law_136 : decode M_La_law.2.1 136 = .ok (.iadd, 1) := by decide +kernel
theorem d_La_law_137 : decode M_La_law.2.1 137 = .ok (.iaload, 1) := by decide +kernel
theorem d_La_law_138 : decode M_La_law.2.1 138 = .ok (.aload_n 0, 1) := by decide +kernel
theorem d_La_law_139 : decode M_La_law.2.1 139 = .ok (.iload 5, 2) := by decide +kernel
theorem d_La_law_141 : decode M_La_law.2.1 141 = .ok (.iconst 2, 1) := by decide +kernel
theorem d_La_law_142 : decode M_La_law.2.1 142 = .ok (.iadd, 1) := by decide +kernel
theorem d_La_law_143 : decode M_La_law.2.1 143 = .ok (.iaload, 1) := by decide +kernel
theorem d_La_law_144 : decode M_La_law.2.1 144 = .ok (.invokevirtual 69, 3) := by decide +kernel
theorem d_La_law_147 : decode M_La_law.2.1 147 = .ok (.istore 7, 2) := by decide +kernel
theorem d_La_law_149 : decode M_La_law.2.1 149 = .ok (.aload_n 2, 1) := by decide +kernel
theorem d_La_law_150 : decode M_La_law.2.1 150 = .ok (.invokevirtual 70, 3) := by decide +kernel
theorem d_La_law_153 : decode M_La_law.2.1 153 = .ok (.iload 6, 2) := by decide +kernel
theorem d_La_law_155 : decode M_La_law.2.1 155 = .ok (.if_icmp .eq 5, 3) := by decide +kernel
theorem d_La_law_158 : decode M_La_law.2.1 158 = .ok (.iconst 0, 1) := by decide +kernel
theorem d_La_law_159 : decode M_La_law.2.1 159 = .ok (.ireturn, 1) := by decide +kernel
theorem d_La_law_160 : decode M_La_law.2.1 160 = .ok (.iload 6, 2) := by decide +kernel
theorem d_La_law_162 : decode M_La_law.2.1 162 = .ok (.ifCond .ne 15, 3) := by decide +kernel
theorem d_La_law_165 : decode M_La_law.2.1 165 = .ok (.aload_n 3, 1) := by decide +kernel
theorem d_La_law_166 : decode M_La_law.2.1 166 = .ok (.iconst 0, 1) := by decide +kernel
theorem d_La_law_167 : decode M_La_law.2.1 167 = .ok (.laload, 1) := by decide +kernel
theorem d_La_law_168 : decode M_La_law.2.1 168 = .ok (.iload 7, 2) := by decide +kernel
theorem d_La_law_170 : decode M_La_law.2.1 170 = .ok (.i2l, 1) := by decide +kernel
theorem d_La_law_171 : decode M_La_law.2.1 171 = .ok (.lcmp, 1) := by decide +kernel
theorem d_La_law_172 : decode M_La_law.2.1 172 = .ok (.ifCond .eq 5, 3) := by decide +kernel
theorem d_La_law_175 : decode M_La_law.2.1 175 = .ok (.iconst 0, 1) := by decide +kernel
theorem d_La_law_176 : decode M_La_law.2.1 176 = .ok (.ireturn, 1) := by decide +kernel
theorem d_La_law_177 : decode M_La_law.2.1 177 = .ok (.goto 835, 3) := by decide +kernel
theorem d_La_law_180 : decode M_La_law.2.1 180 = .ok (.aload_n 1, 1) := by decide +kernel
theorem d_La_law_181 : decode M_La_law.2.1 181 = .ok (.aload_n 0, 1) := by decide +kernel
theorem d_La_law_182 : decode M_La_law.2.1 182 = .ok (.iload 5, 2) := by decide +kernel
theorem d_La_law_184 : decode M_La_law.2.1 184 = .ok (.iconst 1, 1) := by decide +kernel
theorem d_La_law_185 : decode M_La_law.2.1 185 = .ok (.iadd, 1) := by decide +kernel
theorem d_La_law_186 : decode M_La_law.2.1 186 = .ok (.iaload, 1) := by decide +kernel
theorem d_La_law_187 : decode M_La_law.2.1 187 = .ok (.aload_n 0, 1) := by decide +kernel
theorem d_La_law_188 : decode M_La_law.2.1 188 = .ok (.iload 5, 2) := by decide +kernel
theorem d_La_law_190 : decode M_La_law.2.1 190 = .ok (.iconst 2, 1) := by decide +kernel
theorem d_La_law_191 : decode M_La_law.2.1 191 = .ok (.iadd, 1) := by decide +kernel
theorem d_La_law_192 : decode M_La_law.2.1 192 = .ok (.iaload, 1) := by decide +kernel
theorem d_La_law_193 : decode M_La_law.2.1 193 = .ok (.aload_n 0, 1) := by decide +kernel
theorem d_La_law_194 : decode M_La_law.2.1 194 = .ok (.iload 5, 2) := by decide +kernel
theorem d_La_law_196 : decode M_La_law.2.1 196 = .ok (.iconst 3, 1) := by decide +kernel
theorem d_La_law_197 : decode M_La_law.2.1 197 = .ok (.iadd, 1) := by decide +kernel
theorem d_La_law_198 : decode M_La_law.2.1 198 = .ok (.iaload, 1) := by decide +kernel
theorem d_La_law_199 : decode M_La_law.2.1 199 = .ok (.aload_n 3, 1) := by decide +kernel
theorem d_La_law_200 : decode M_La_law.2.1 200 = .ok (.invokestatic 73, 3) := by decide +kernel
theorem d_La_law_203 : decode M_La_law.2.1 203 = .ok (.istore 6, 2) := by decide +kernel
theorem d_La_law_205 : decode M_La_law.2.1 205 = .ok (.aload_n 2, 1) := by decide +kernel
theorem d_La_law_206 : decode M_La_law.2.1 206 = .ok (.aload_n 0, 1) := by decide +kernel
theorem d_La_law_207 : decode M_La_law.2.1 207 = .ok (.iload 5, 2) := by decide +kernel
theorem d_La_law_209 : decode M_La_law.2.1 209 = .ok (.iconst 1, 1) := by decide +kernel
theorem d_La_law_210 : decode M_La_law.2.1 210 = .ok (.iadd, 1) := by decide +kernel
theorem d_La_law_211 : decode M_La_law.2.1 211 = .ok (.iaload, 1) := by decide +kernel
theorem d_La_law_212 : decode M_La_law.2.1 212 = .ok (.aload_n 0, 1) := by decide +kernel
theorem d_La_law_213 : decode M_La_law.2.1 213 = .ok (.iload 5, 2) := by decide +kernel
theorem d_La_law_215 : decode M_La_law.2.1 215 = .ok (.iconst 2, 1) := by decide +kernel
theorem d_La_law_216 : decode M_La_law.2.1 216 = .ok (.iadd, 1) := by decide +kernel
theorem d_La_law_217 : decode M_La_law.2.1 217 = .ok (.iaload, 1) := by decide +kernel
theorem d_La_law_218 : decode M_La_law.2.1 218 = .ok (.aload_n 0, 1) := by decide +kernel
theorem d_La_law_219 : decode M_La_law.2.1 219 = .ok (.iload 5, 2) := by decide +kernel
theorem d_La_law_221 : decode M_La_law.2.1 221 = .ok (.iconst 3, 1) := by decide +kernel
theorem d_La_law_222 : decode M_La_law.2.1 222 = .ok (.iadd, 1) := by decide +kernel
theorem d_La_law_223 : decode M_La_law.2.1 223 = .ok (.iaload, 1) := by decide +kernel
theorem d_La_law_224 : decode M_La_law.2.1 224 = .ok (.invokevirtual 76, 3) := by decide +kernel
theorem d_La_law_227 : decode M_La_law.2.1 227 = .ok (.istore 7, 2) := by decide +kernel
theorem d_La_law_229 : decode M_La_law.2.1 229 = .ok (.aload_n 2, 1) := by decide +kernel
theorem d_La_law_230 : decode M_La_law.2.1 230 = .ok (.invokevirtual 70, 3) := by decide +kernel
theorem d_La_law_233 : decode M_La_law.2.1 233 = .ok (.iload 6, 2) := by decide +kernel
theorem d_La_law_235 : decode M_La_law.2.1 235 = .ok (.if_icmp .eq 5, 3) := by decide +kernel
theorem d_La_law_238 : decode M_La_law.2.1 238 = .ok (.iconst 0, 1) := by decide +kernel
theorem d_La_law_239 : decode M_La_law.2.1 239 = .ok (.ireturn, 1) := by decide +kernel
theorem d_La_law_240 : decode M_La_law.2.1 240 = .ok (.iload 6, 2) := by decide +kernel
theorem d_La_law_242 : decode M_La_law.2.1 242 = .ok (.ifCond .ne 15, 3) := by decide +kernel
theorem d_La_law_245 : decode M_La_law.2.1 245 = .ok (.aload_n 3, 1) := by decide +kernel
theorem d_La_law_246 : decode M_La_law.2.1 246 = .ok (.iconst 0, 1) := by decide +kernel
theorem d_La_law_247 : decode M_La_law.2.1 247 = .ok (.laload, 1) := by decide +kernel
theorem d_La_law_248 : decode M_La_law.2.1 248 = .ok (.iload 7, 2) := by decide +kernel
theorem d_La_law_250 : decode M_La_law.2.1 250 = .ok (.i2l, 1) := by decide +kernel
theorem d_La_law_251 : decode M_La_law.2.1 251 = .ok (.lcmp, 1) := by decide +kernel
theorem d_La_law_252 : decode M_La_law.2.1 252 = .ok (.ifCond .eq 5, 3) := by decide +kernel
theorem d_La_law_255 : decode M_La_law.2.1 255 = .ok (.iconst 0, 1) := by decide +kernel
theorem d_La_law_256 : decode M_La_law.2.1 256 = .ok (.ireturn, 1) := by decide +kernel
theorem d_La_law_257 : decode M_La_law.2.1 257 = .ok (.goto 755, 3) := by decide +kernel
theorem d_La_law_260 : decode M_La_law.2.1 260 = .ok (.aload_n 1, 1) := by decide +kernel
theorem d_La_law_261 : decode M_La_law.2.1 261 = .ok (.aload_n 0, 1) := by decide +kernel
theorem d_La_law_262 : decode M_La_law.2.1 262 = .ok (.iload 5, 2) := by decide +kernel
theorem d_La_law_264 : decode M_La_law.2.1 264 = .ok (.iconst 1, 1) := by decide +kernel
theorem d_La_law_265 : decode M_La_law.2.1 265 = .ok (.iadd, 1) := by decide +kernel
theorem d_La_law_266 : decode M_La_law.2.1 266 = .ok (.iaload, 1) := by decide +kernel
theorem d_La_law_267 : decode M_La_law.2.1 267 = .ok (.aload_n 0, 1) := by decide +kernel
theorem d_La_law_268 : decode M_La_law.2.1 268 = .ok (.iload 5, 2) := by decide +kernel
theorem d_La_law_270 : decode M_La_law.2.1 270 = .ok (.iconst 2, 1) := by decide +kernel
theorem d_La_law_271 : decode M_La_law.2.1 271 = .ok (.iadd, 1) := by decide +kernel
theorem d_La_law_272 : decode M_La_law.2.1 272 = .ok (.iaload, 1) := by decide +kernel
theorem d_La_law_273 : decode M_La_law.2.1 273 = .ok (.aload_n 0, 1) := by decide +kernel
theorem d_La_law_274 : decode M_La_law.2.1 274 = .ok (.iload 5, 2) := by decide +kernel
theorem d_La_law_276 : decode M_La_law.2.1 276 = .ok (.iconst 3, 1) := by decide +kernel
theorem d_La_law_277 : decode M_La_law.2.1 277 = .ok (.iadd, 1) := by decide +kernel
theorem d_La_law_278 : decode M_La_law.2.1 278 = .ok (.iaload, 1) := by decide +kernel
theorem d_La_law_279 : decode M_La_law.2.1 279 = .ok (.aload_n 0, 1) := by decide +kernel
theorem d_La_law_280 : decode M_La_law.2.1 280 = .ok (.iload 5, 2) := by decide +kernel
theorem d_La_law_282 : decode M_La_law.2.1 282 = .ok (.iconst 4, 1) := by decide +kernel
theorem d_La_law_283 : decode M_La_law.2.1 283 = .ok (.iadd, 1) := by decide +kernel
theorem d_La_law_284 : decode M_La_law.2.1 284 = .ok (.iaload, 1) := by decide +kernel
theorem d_La_law_285 : decode M_La_law.2.1 285 = .ok (.i2d, 1) := by decide +kernel
theorem d_La_law_286 : decode M_La_law.2.1 286 = .ok (.ldc2_w 77, 3) := by decide +kernel
theorem d_La_law_289 : decode M_La_law.2.1 289 = .ok (.dmul, 1) := by decide +kernel
theorem d_La_law_290 : decode M_La_law.2.1 290 = .ok (.aload 4, 2) := by decide +kernel
theorem d_La_law_292 : decode M_La_law.2.1 292 = .ok (.invokestatic 79, 3) := by decide +kernel
theorem d_La_law_295 : decode M_La_law.2.1 295 = .ok (.istore 6, 2) := by decide +kernel
theorem d_La_law_297 : decode M_La_law.2.1 297 = .ok (.aload_n 2, 1) := by decide +kernel
theorem d_La_law_298 : decode M_La_law.2.1 298 = .ok (.aload_n 0, 1) := by decide +kernel
theorem d_La_law_299 : decode M_La_law.2.1 299 = .ok (.iload 5, 2) := by decide +kernel
theorem d_La_law_301 : decode M_La_law.2.1 301 = .ok (.iconst 1, 1) := by decide +kernel
theorem d_La_law_302 : decode M_La_law.2.1 302 = .ok (.iadd, 1) := by decide +kernel
theorem d_La_law_303 : decode M_La_law.2.1 303 = .ok (.iaload, 1) := by decide +kernel
theorem d_La_law_304 : decode M_La_law.2.1 304 = .ok (.aload_n 0, 1) := by decide +kernel
theorem d_La_law_305 : decode M_La_law.2.1 305 = .ok (.iload 5, 2) := by decide +kernel
theorem d_La_law_307 : decode M_La_law.2.1 307 = .ok (.iconst 2, 1) := by decide +kernel
theorem d_La_law_308 : decode M_La_law.2.1 308 = .ok (.iadd, 1) := by decide +kernel
theorem d_La_law_309 : decode M_La_law.2.1 309 = .ok (.iaload, 1) := by decide +kernel
theorem d_La_law_310 : decode M_La_law.2.1 310 = .ok (.aload_n 0, 1) := by decide +kernel
theorem d_La_law_311 : decode M_La_law.2.1 311 = .ok (.iload 5, 2) := by decide +kernel
theorem d_La_law_313 : decode M_La_law.2.1 313 = .ok (.iconst 3, 1) := by decide +kernel
theorem d_La_law_314 : decode M_La_law.2.1 314 = .ok (.iadd, 1) := by decide +kernel
theorem d_La_law_315 : decode M_La_law.2.1 315 = .ok (.iaload, 1) := by decide +kernel
theorem d_La_law_316 : decode M_La_law.2.1 316 = .ok (.aload_n 0, 1) := by decide +kernel
theorem d_La_law_317 : decode M_La_law.2.1 317 = .ok (.iload 5, 2) := by decide +kernel
theorem d_La_law_319 : decode M_La_law.2.1 319 = .ok (.iconst 4, 1) := by decide +kernel
theorem d_La_law_320 : decode M_La_law.2.1 320 = .ok (.iadd, 1) := by decide +kernel
theorem d_La_law_321 : decode M_La_law.2.1 321 = .ok (.iaload, 1) := by decide +kernel
theorem d_La_law_322 : decode M_La_law.2.1 322 = .ok (.i2d, 1) := by decide +kernel
theorem d_La_law_323 : decode M_La_law.2.1 323 = .ok (.ldc2_w 77, 3) := by decide +kernel
theorem d_La_law_326 : decode M_La_law.2.1 326 = .ok (.dmul, 1) := by decide +kernel
theorem d_La_law_327 : decode M_La_law.2.1 327 = .ok (.invokevirtual 82, 3) := by decide +kernel
theorem d_La_law_330 : decode M_La_law.2.1 330 = .ok (.dstore 7, 2) := by decide +kernel
theorem d_La_law_332 : decode M_La_law.2.1 332 = .ok (.aload_n 2, 1) := by decide +kernel
theorem d_La_law_333 : decode M_La_law.2.1 333 = .ok (.invokevirtual 70, 3) := by decide +kernel
theorem d_La_law_336 : decode M_La_law.2.1 336 = .ok (.iload 6, 2) := by decide +kernel
theorem d_La_law_338 : decode M_La_law.2.1 338 = .ok (.if_icmp .eq 5, 3) := by decide +kernel
theorem d_La_law_341 : decode M_La_law.2.1 341 = .ok (.iconst 0, 1) := by decide +kernel
theorem d_La_law_342 : decode M_La_law.2.1 342 = .ok (.ireturn, 1) := by decide +kernel
theorem d_La_law_343 : decode M_La_law.2.1 343 = .ok (.iload 6, 2) := by decide +kernel
theorem d_La_law_345 : decode M_La_law.2.1 345 = .ok (.ifCond .ne 35, 3) := by decide +kernel
theorem d_La_law_348 : decode M_La_law.2.1 348 = .ok (.aload 4, 2) := by decide +kernel
theorem d_La_law_350 : decode M_La_law.2.1 350 = .ok (.iconst 0, 1) := by decide +kernel
theorem d_La_law_351 : decode M_La_law.2.1 351 = .ok (.daload, 1) := by decide +kernel
theorem d_La_law_352 : decode M_La_law.2.1 352 = .ok (.dload 7, 2) := by decide +kernel
theorem d_La_law_354 : decode M_La_law.2.1 354 = .ok (.dcmp .l, 1) := by decide +kernel
theorem d_La_law_355 : decode M_La_law.2.1 355 = .ok (.ifCond .eq 25, 3) := by decide +kernel
theorem d_La_law_358 : decode M_La_law.2.1 358 = .ok (.aload 4, 2) := by decide +kernel
theorem d_La_law_360 : decode M_La_law.2.1 360 = .ok (.iconst 0, 1) := by decide +kernel
theorem d_La_law_361 : decode M_La_law.2.1 361 = .ok (.daload, 1) := by decide +kernel
theorem d_La_law_362 : decode M_La_law.2.1 362 = .ok (.aload 4, 2) := by decide +kernel
theorem d_La_law_364 : decode M_La_law.2.1 364 = .ok (.iconst 0, 1) := by decide +kernel
theorem d_La_law_365 : decode M_La_law.2.1 365 = .ok (.daload, 1) := by decide +kernel
theorem d_La_law_366 : decode M_La_law.2.1 366 = .ok (.dcmp .l, 1) := by decide +kernel
theorem d_La_law_367 : decode M_La_law.2.1 367 = .ok (.ifCond .eq 11, 3) := by decide +kernel
theorem d_La_law_370 : decode M_La_law.2.1 370 = .ok (.dload 7, 2) := by decide +kernel
theorem d_La_law_372 : decode M_La_law.2.1 372 = .ok (.dload 7, 2) := by decide +kernel
theorem d_La_law_374 : decode M_La_law.2.1 374 = .ok (.dcmp .l, 1) := by decide +kernel
theorem d_La_law_375 : decode M_La_law.2.1 375 = .ok (.ifCond .ne 5, 3) := by decide +kernel
theorem d_La_law_378 : decode M_La_law.2.1 378 = .ok (.iconst 0, 1) := by decide +kernel
theorem d_La_law_379 : decode M_La_law.2.1 379 = .ok (.ireturn, 1) := by decide +kernel
theorem d_La_law_380 : decode M_La_law.2.1 380 = .ok (.goto 632, 3) := by decide +kernel
theorem d_La_law_383 : decode M_La_law.2.1 383 = .ok (.aload_n 1, 1) := by decide +kernel
theorem d_La_law_384 : decode M_La_law.2.1 384 = .ok (.aload_n 0, 1) := by decide +kernel
theorem d_La_law_385 : decode M_La_law.2.1 385 = .ok (.iload 5, 2) := by decide +kernel
theorem d_La_law_387 : decode M_La_law.2.1 387 = .ok (.iconst 1, 1) := by decide +kernel
theorem d_La_law_388 : decode M_La_law.2.1 388 = .ok (.iadd, 1) := by decide +kernel
theorem d_La_law_389 : decode M_La_law.2.1 389 = .ok (.iaload, 1) := by decide +kernel
theorem d_La_law_390 : decode M_La_law.2.1 390 = .ok (.aload_n 0, 1) := by decide +kernel
theorem d_La_law_391 : decode M_La_law.2.1 391 = .ok (.iload 5, 2) := by decide +kernel
theorem d_La_law_393 : decode M_La_law.2.1 393 = .ok (.iconst 2, 1) := by decide +kernel
theorem d_La_law_394 : decode M_La_law.2.1 394 = .ok (.iadd, 1) := by decide +kernel
theorem d_La_law_395 : decode M_La_law.2.1 395 = .ok (.iaload, 1) := by decide +kernel
theorem d_La_law_396 : decode M_La_law.2.1 396 = .ok (.aload_n 0, 1) := by decide +kernel
theorem d_La_law_397 : decode M_La_law.2.1 397 = .ok (.iload 5, 2) := by decide +kernel
theorem d_La_law_399 : decode M_La_law.2.1 399 = .ok (.iconst 3, 1) := by decide +kernel
theorem d_La_law_400 : decode M_La_law.2.1 400 = .ok (.iadd, 1) := by decide +kernel
theorem d_La_law_401 : decode M_La_law.2.1 401 = .ok (.iaload, 1) := by decide +kernel
theorem d_La_law_402 : decode M_La_law.2.1 402 = .ok (.aload 4, 2) := by decide +kernel
theorem d_La_law_404 : decode M_La_law.2.1 404 = .ok (.invokestatic 83, 3) := by decide +kernel
theorem d_La_law_407 : decode M_La_law.2.1 407 = .ok (.istore 6, 2) := by decide +kernel
theorem d_La_law_409 : decode M_La_law.2.1 409 = .ok (.aload_n 2, 1) := by decide +kernel
theorem d_La_law_410 : decode M_La_law.2.1 410 = .ok (.aload_n 0, 1) := by decide +kernel
theorem d_La_law_411 : decode M_La_law.2.1 411 = .ok (.iload 5, 2) := by decide +kernel
theorem d_La_law_413 : decode M_La_law.2.1 413 = .ok (.iconst 1, 1) := by decide +kernel
theorem d_La_law_414 : decode M_La_law.2.1 414 = .ok (.iadd, 1) := by decide +kernel
theorem d_La_law_415 : decode M_La_law.2.1 415 = .ok (.iaload, 1) := by decide +kernel
theorem d_La_law_416 : decode M_La_law.2.1 416 = .ok (.aload_n 0, 1) := by decide +kernel
theorem d_La_law_417 : decode M_La_law.2.1 417 = .ok (.iload 5, 2) := by decide +kernel
theorem d_La_law_419 : decode M_La_law.2.1 419 = .ok (.iconst 2, 1) := by decide +kernel
theorem d_La_law_420 : decode M_La_law.2.1 420 = .ok (.iadd, 1) := by decide +kernel
theorem d_La_law_421 : decode M_La_law.2.1 421 = .ok (.iaload, 1) := by decide +kernel
theorem d_La_law_422 : decode M_La_law.2.1 422 = .ok (.aload_n 0, 1) := by decide +kernel
theorem d_La_law_423 : decode M_La_law.2.1 423 = .ok (.iload 5, 2) := by decide +kernel
theorem d_La_law_425 : decode M_La_law.2.1 425 = .ok (.iconst 3, 1) := by decide +kernel
theorem d_La_law_426 : decode M_La_law.2.1 426 = .ok (.iadd, 1) := by decide +kernel
theorem d_La_law_427 : decode M_La_law.2.1 427 = .ok (.iaload, 1) := by decide +kernel
theorem d_La_law_428 : decode M_La_law.2.1 428 = .ok (.invokevirtual 86, 3) := by decide +kernel
theorem d_La_law_431 : decode M_La_law.2.1 431 = .ok (.dstore 7, 2) := by decide +kernel
theorem d_La_law_433 : decode M_La_law.2.1 433 = .ok (.aload_n 2, 1) := by decide +kernel
theorem d_La_law_434 : decode M_La_law.2.1 434 = .ok (.invokevirtual 70, 3) := by decide +kernel
theorem d_La_law_437 : decode M_La_law.2.1 437 = .ok (.iload 6, 2) := by decide +kernel
theorem d_La_law_439 : decode M_La_law.2.1 439 = .ok (.if_icmp .eq 5, 3) := by decide +kernel
theorem d_La_law_442 : decode M_La_law.2.1 442 = .ok (.iconst 0, 1) := by decide +kernel
theorem d_La_law_443 : decode M_La_law.2.1 443 = .ok (.ireturn, 1) := by decide +kernel
theorem d_La_law_444 : decode M_La_law.2.1 444 = .ok (.iload 6, 2) := by decide +kernel
theorem d_La_law_446 : decode M_La_law.2.1 446 = .ok (.ifCond .ne 35, 3) := by decide +kernel
theorem d_La_law_449 : decode M_La_law.2.1 449 = .ok (.aload 4, 2) := by decide +kernel
theorem d_La_law_451 : decode M_La_law.2.1 451 = .ok (.iconst 0, 1) := by decide +kernel
theorem d_La_law_452 : decode M_La_law.2.1 452 = .ok (.daload, 1) := by decide +kernel
theorem d_La_law_453 : decode M_La_law.2.1 453 = .ok (.dload 7, 2) := by decide +kernel
theorem d_La_law_455 : decode M_La_law.2.1 455 = .ok (.dcmp .l, 1) := by decide +kernel
theorem d_La_law_456 : decode M_La_law.2.1 456 = .ok (.ifCond .eq 25, 3) := by decide +kernel
theorem d_La_law_459 : decode M_La_law.2.1 459 = .ok (.aload 4, 2) := by decide +kernel
theorem d_La_law_461 : decode M_La_law.2.1 461 = .ok (.iconst 0, 1) := by decide +kernel
theorem d_La_law_462 : decode M_La_law.2.1 462 = .ok (.daload, 1) := by decide +kernel
theorem d_La_law_463 : decode M_La_law.2.1 463 = .ok (.aload 4, 2) := by decide +kernel
theorem d_La_law_465 : decode M_La_law.2.1 465 = .ok (.iconst 0, 1) := by decide +kernel
theorem d_La_law_466 : decode M_La_law.2.1 466 = .ok (.daload, 1) := by decide +kernel
theorem d_La_law_467 : decode M_La_law.2.1 467 = .ok (.dcmp .l, 1) := by decide +kernel
theorem d_La_law_468 : decode M_La_law.2.1 468 = .ok (.ifCond .eq 11, 3) := by decide +kernel
theorem d_La_law_471 : decode M_La_law.2.1 471 = .ok (.dload 7, 2) := by decide +kernel
theorem d_La_law_473 : decode M_La_law.2.1 473 = .ok (.dload 7, 2) := by decide +kernel
theorem d_La_law_475 : decode M_La_law.2.1 475 = .ok (.dcmp .l, 1) := by decide +kernel
theorem d_La_law_476 : decode M_La_law.2.1 476 = .ok (.ifCond .ne 5, 3) := by decide +kernel
theorem d_La_law_479 : decode M_La_law.2.1 479 = .ok (.iconst 0, 1) := by decide +kernel
theorem d_La_law_480 : decode M_La_law.2.1 480 = .ok (.ireturn, 1) := by decide +kernel
theorem d_La_law_481 : decode M_La_law.2.1 481 = .ok (.goto 531, 3) := by decide +kernel
theorem d_La_law_484 : decode M_La_law.2.1 484 = .ok (.aload_n 1, 1) := by decide +kernel
theorem d_La_law_485 : decode M_La_law.2.1 485 = .ok (.aload_n 0, 1) := by decide +kernel
theorem d_La_law_486 : decode M_La_law.2.1 486 = .ok (.iload 5, 2) := by decide +kernel
theorem d_La_law_488 : decode M_La_law.2.1 488 = .ok (.iconst 1, 1) := by decide +kernel
theorem d_La_law_489 : decode M_La_law.2.1 489 = .ok (.iadd, 1) := by decide +kernel
theorem d_La_law_490 : decode M_La_law.2.1 490 = .ok (.iaload, 1) := by decide +kernel
theorem d_La_law_491 : decode M_La_law.2.1 491 = .ok (.aload_n 0, 1) := by decide +kernel
theorem d_La_law_492 : decode M_La_law.2.1 492 = .ok (.iload 5, 2) := by decide +kernel
theorem d_La_law_494 : decode M_La_law.2.1 494 = .ok (.iconst 2, 1) := by decide +kernel
theorem d_La_law_495 : decode M_La_law.2.1 495 = .ok (.iadd, 1) := by decide +kernel
theorem d_La_law_496 : decode M_La_law.2.1 496 = .ok (.iaload, 1) := by decide +kernel
theorem d_La_law_497 : decode M_La_law.2.1 497 = .ok (.aload_n 0, 1) := by decide +kernel
theorem d_La_law_498 : decode M_La_law.2.1 498 = .ok (.iload 5, 2) := by decide +kernel
theorem d_La_law_500 : decode M_La_law.2.1 500 = .ok (.iconst 3, 1) := by decide +kernel
theorem d_La_law_501 : decode M_La_law.2.1 501 = .ok (.iadd, 1) := by decide +kernel
theorem d_La_law_502 : decode M_La_law.2.1 502 = .ok (.iaload, 1) := by decide +kernel
theorem d_La_law_503 : decode M_La_law.2.1 503 = .ok (.aload_n 3, 1) := by decide +kernel
theorem d_La_law_504 : decode M_La_law.2.1 504 = .ok (.invokestatic 87, 3) := by decide +kernel
theorem d_La_law_507 : decode M_La_law.2.1 507 = .ok (.istore 6, 2) := by decide +kernel
theorem d_La_law_509 : decode M_La_law.2.1 509 = .ok (.aload_n 2, 1) := by decide +kernel
theorem d_La_law_510 : decode M_La_law.2.1 510 = .ok (.aload_n 0, 1) := by decide +kernel
theorem d_La_law_511 : decode M_La_law.2.1 511 = .ok (.iload 5, 2) := by decide +kernel
theorem d_La_law_513 : decode M_La_law.2.1 513 = .ok (.iconst 1, 1) := by decide +kernel
theorem d_La_law_514 : decode M_La_law.2.1 514 = .ok (.iadd, 1) := by decide +kernel
theorem d_La_law_515 : decode M_La_law.2.1 515 = .ok (.iaload, 1) := by decide +kernel
theorem d_La_law_516 : decode M_La_law.2.1 516 = .ok (.aload_n 0, 1) := by decide +kernel
theorem d_La_law_517 : decode M_La_law.2.1 517 = .ok (.iload 5, 2) := by decide +kernel
theorem d_La_law_519 : decode M_La_law.2.1 519 = .ok (.iconst 2, 1) := by decide +kernel
theorem d_La_law_520 : decode M_La_law.2.1 520 = .ok (.iadd, 1) := by decide +kernel
theorem d_La_law_521 : decode M_La_law.2.1 521 = .ok (.iaload, 1) := by decide +kernel
theorem d_La_law_522 : decode M_La_law.2.1 522 = .ok (.aload_n 0, 1) := by decide +kernel
theorem d_La_law_523 : decode M_La_law.2.1 523 = .ok (.iload 5, 2) := by decide +kernel
theorem d_La_law_525 : decode M_La_law.2.1 525 = .ok (.iconst 3, 1) := by decide +kernel
theorem d_La_law_526 : decode M_La_law.2.1 526 = .ok (.iadd, 1) := by decide +kernel
theorem d_La_law_527 : decode M_La_law.2.1 527 = .ok (.iaload, 1) := by decide +kernel
theorem d_La_law_528 : decode M_La_law.2.1 528 = .ok (.invokevirtual 89, 3) := by decide +kernel
theorem d_La_law_531 : decode M_La_law.2.1 531 = .ok (.istore 7, 2) := by decide +kernel
theorem d_La_law_533 : decode M_La_law.2.1 533 = .ok (.aload_n 2, 1) := by decide +kernel
theorem d_La_law_534 : decode M_La_law.2.1 534 = .ok (.invokevirtual 70, 3) := by decide +kernel
theorem d_La_law_537 : decode M_La_law.2.1 537 = .ok (.iload 6, 2) := by decide +kernel
theorem d_La_law_539 : decode M_La_law.2.1 539 = .ok (.if_icmp .eq 5, 3) := by decide +kernel
theorem d_La_law_542 : decode M_La_law.2.1 542 = .ok (.iconst 0, 1) := by decide +kernel
theorem d_La_law_543 : decode M_La_law.2.1 543 = .ok (.ireturn, 1) := by decide +kernel
theorem d_La_law_544 : decode M_La_law.2.1 544 = .ok (.iload 6, 2) := by decide +kernel
theorem d_La_law_546 : decode M_La_law.2.1 546 = .ok (.ifCond .ne 15, 3) := by decide +kernel
theorem d_La_law_549 : decode M_La_law.2.1 549 = .ok (.aload_n 3, 1) := by decide +kernel
theorem d_La_law_550 : decode M_La_law.2.1 550 = .ok (.iconst 0, 1) := by decide +kernel
theorem d_La_law_551 : decode M_La_law.2.1 551 = .ok (.laload, 1) := by decide +kernel
theorem d_La_law_552 : decode M_La_law.2.1 552 = .ok (.iload 7, 2) := by decide +kernel
theorem d_La_law_554 : decode M_La_law.2.1 554 = .ok (.i2l, 1) := by decide +kernel
theorem d_La_law_555 : decode M_La_law.2.1 555 = .ok (.lcmp, 1) := by decide +kernel
theorem d_La_law_556 : decode M_La_law.2.1 556 = .ok (.ifCond .eq 5, 3) := by decide +kernel
theorem d_La_law_559 : decode M_La_law.2.1 559 = .ok (.iconst 0, 1) := by decide +kernel
theorem d_La_law_560 : decode M_La_law.2.1 560 = .ok (.ireturn, 1) := by decide +kernel
theorem d_La_law_561 : decode M_La_law.2.1 561 = .ok (.goto 451, 3) := by decide +kernel
theorem d_La_law_564 : decode M_La_law.2.1 564 = .ok (.aload_n 1, 1) := by decide +kernel
theorem d_La_law_565 : decode M_La_law.2.1 565 = .ok (.aload_n 0, 1) := by decide +kernel
theorem d_La_law_566 : decode M_La_law.2.1 566 = .ok (.iload 5, 2) := by decide +kernel
theorem d_La_law_568 : decode M_La_law.2.1 568 = .ok (.iconst 1, 1) := by decide +kernel
theorem d_La_law_569 : decode M_La_law.2.1 569 = .ok (.iadd, 1) := by decide +kernel
theorem d_La_law_570 : decode M_La_law.2.1 570 = .ok (.iaload, 1) := by decide +kernel
theorem d_La_law_571 : decode M_La_law.2.1 571 = .ok (.aload_n 3, 1) := by decide +kernel
theorem d_La_law_572 : decode M_La_law.2.1 572 = .ok (.invokestatic 90, 3) := by decide +kernel
theorem d_La_law_575 : decode M_La_law.2.1 575 = .ok (.istore 6, 2) := by decide +kernel
theorem d_La_law_577 : decode M_La_law.2.1 577 = .ok (.aload_n 2, 1) := by decide +kernel
theorem d_La_law_578 : decode M_La_law.2.1 578 = .ok (.aload_n 0, 1) := by decide +kernel
theorem d_La_law_579 : decode M_La_law.2.1 579 = .ok (.iload 5, 2) := by decide +kernel
theorem d_La_law_581 : decode M_La_law.2.1 581 = .ok (.iconst 1, 1) := by decide +kernel
theorem d_La_law_582 : decode M_La_law.2.1 582 = .ok (.iadd, 1) := by decide +kernel
theorem d_La_law_583 : decode M_La_law.2.1 583 = .ok (.iaload, 1) := by decide +kernel
theorem d_La_law_584 : decode M_La_law.2.1 584 = .ok (.invokevirtual 93, 3) := by decide +kernel
theorem d_La_law_587 : decode M_La_law.2.1 587 = .ok (.istore 7, 2) := by decide +kernel
theorem d_La_law_589 : decode M_La_law.2.1 589 = .ok (.aload_n 2, 1) := by decide +kernel
theorem d_La_law_590 : decode M_La_law.2.1 590 = .ok (.invokevirtual 70, 3) := by decide +kernel
theorem d_La_law_593 : decode M_La_law.2.1 593 = .ok (.iload 6, 2) := by decide +kernel
theorem d_La_law_595 : decode M_La_law.2.1 595 = .ok (.if_icmp .eq 5, 3) := by decide +kernel
theorem d_La_law_598 : decode M_La_law.2.1 598 = .ok (.iconst 0, 1) := by decide +kernel
theorem d_La_law_599 : decode M_La_law.2.1 599 = .ok (.ireturn, 1) := by decide +kernel
theorem d_La_law_600 : decode M_La_law.2.1 600 = .ok (.iload 6, 2) := by decide +kernel
theorem d_La_law_602 : decode M_La_law.2.1 602 = .ok (.ifCond .ne 15, 3) := by decide +kernel
theorem d_La_law_605 : decode M_La_law.2.1 605 = .ok (.aload_n 3, 1) := by decide +kernel
theorem d_La_law_606 : decode M_La_law.2.1 606 = .ok (.iconst 0, 1) := by decide +kernel
theorem d_La_law_607 : decode M_La_law.2.1 607 = .ok (.laload, 1) := by decide +kernel
theorem d_La_law_608 : decode M_La_law.2.1 608 = .ok (.iload 7, 2) := by decide +kernel
theorem d_La_law_610 : decode M_La_law.2.1 610 = .ok (.i2l, 1) := by decide +kernel
theorem d_La_law_611 : decode M_La_law.2.1 611 = .ok (.lcmp, 1) := by decide +kernel
theorem d_La_law_612 : decode M_La_law.2.1 612 = .ok (.ifCond .eq 5, 3) := by decide +kernel
theorem d_La_law_615 : decode M_La_law.2.1 615 = .ok (.iconst 0, 1) := by decide +kernel
theorem d_La_law_616 : decode M_La_law.2.1 616 = .ok (.ireturn, 1) := by decide +kernel
theorem d_La_law_617 : decode M_La_law.2.1 617 = .ok (.goto 395, 3) := by decide +kernel
theorem d_La_law_620 : decode M_La_law.2.1 620 = .ok (.aload_n 1, 1) := by decide +kernel
theorem d_La_law_621 : decode M_La_law.2.1 621 = .ok (.aload_n 3, 1) := by decide +kernel
theorem d_La_law_622 : decode M_La_law.2.1 622 = .ok (.invokestatic 94, 3) := by decide +kernel
theorem d_La_law_625 : decode M_La_law.2.1 625 = .ok (.istore 6, 2) := by decide +kernel
theorem d_La_law_627 : decode M_La_law.2.1 627 = .ok (.aload_n 2, 1) := by decide +kernel
theorem d_La_law_628 : decode M_La_law.2.1 628 = .ok (.invokevirtual 97, 3) := by decide +kernel
theorem d_La_law_631 : decode M_La_law.2.1 631 = .ok (.istore 7, 2) := by decide +kernel
theorem d_La_law_633 : decode M_La_law.2.1 633 = .ok (.aload_n 2, 1) := by decide +kernel
theorem d_La_law_634 : decode M_La_law.2.1 634 = .ok (.invokevirtual 70, 3) := by decide +kernel
theorem d_La_law_637 : decode M_La_law.2.1 637 = .ok (.iload 6, 2) := by decide +kernel
theorem d_La_law_639 : decode M_La_law.2.1 639 = .ok (.if_icmp .eq 5, 3) := by decide +kernel
theorem d_La_law_642 : decode M_La_law.2.1 642 = .ok (.iconst 0, 1) := by decide +kernel
theorem d_La_law_643 : decode M_La_law.2.1 643 = .ok (.ireturn, 1) := by decide +kernel
theorem d_La_law_644 : decode M_La_law.2.1 644 = .ok (.iload 6, 2) := by decide +kernel
theorem d_La_law_646 : decode M_La_law.2.1 646 = .ok (.ifCond .ne 15, 3) := by decide +kernel
theorem d_La_law_649 : decode M_La_law.2.1 649 = .ok (.aload_n 3, 1) := by decide +kernel
theorem d_La_law_650 : decode M_La_law.2.1 650 = .ok (.iconst 0, 1) := by decide +kernel
theorem d_La_law_651 : decode M_La_law.2.1 651 = .ok (.laload, 1) := by decide +kernel
theorem d_La_law_652 : decode M_La_law.2.1 652 = .ok (.iload 7, 2) := by decide +kernel
theorem d_La_law_654 : decode M_La_law.2.1 654 = .ok (.i2l, 1) := by decide +kernel
theorem d_La_law_655 : decode M_La_law.2.1 655 = .ok (.lcmp, 1) := by decide +kernel
theorem d_La_law_656 : decode M_La_law.2.1 656 = .ok (.ifCond .eq 5, 3) := by decide +kernel
theorem d_La_law_659 : decode M_La_law.2.1 659 = .ok (.iconst 0, 1) := by decide +kernel
theorem d_La_law_660 : decode M_La_law.2.1 660 = .ok (.ireturn, 1) := by decide +kernel
theorem d_La_law_661 : decode M_La_law.2.1 661 = .ok (.goto 351, 3) := by decide +kernel
theorem d_La_law_664 : decode M_La_law.2.1 664 = .ok (.aload_n 1, 1) := by decide +kernel
theorem d_La_law_665 : decode M_La_law.2.1 665 = .ok (.invokevirtual 98, 3) := by decide +kernel
theorem d_La_law_668 : decode M_La_law.2.1 668 = .ok (.aload_n 2, 1) := by decide +kernel
theorem d_La_law_669 : decode M_La_law.2.1 669 = .ok (.invokevirtual 101, 3) := by decide +kernel
theorem d_La_law_672 : decode M_La_law.2.1 672 = .ok (.if_icmp .eq 340, 3) := by decide +kernel
theorem d_La_law_675 : decode M_La_law.2.1 675 = .ok (.iconst 0, 1) := by decide +kernel
theorem d_La_law_676 : decode M_La_law.2.1 676 = .ok (.ireturn, 1) := by decide +kernel
theorem d_La_law_677 : decode M_La_law.2.1 677 = .ok (.aload_n 1, 1) := by decide +kernel
theorem d_La_law_678 : decode M_La_law.2.1 678 = .ok (.aload_n 0, 1) := by decide +kernel
theorem d_La_law_679 : decode M_La_law.2.1 679 = .ok (.iload 5, 2) := by decide +kernel
theorem d_La_law_681 : decode M_La_law.2.1 681 = .ok (.iconst 1, 1) := by decide +kernel
theorem d_La_law_682 : decode M_La_law.2.1 682 = .ok (.iadd, 1) := by decide +kernel
theorem d_La_law_683 : decode M_La_law.2.1 683 = .ok (.iaload, 1) := by decide +kernel
theorem d_La_law_684 : decode M_La_law.2.1 684 = .ok (.aload_n 3, 1) := by decide +kernel
theorem d_La_law_685 : decode M_La_law.2.1 685 = .ok (.invokestatic 102, 3) := by decide +kernel
theorem d_La_law_688 : decode M_La_law.2.1 688 = .ok (.istore 6, 2) := by decide +kernel
theorem d_La_law_690 : decode M_La_law.2.1 690 = .ok (.aload_n 2, 1) := by decide +kernel
theorem d_La_law_691 : decode M_La_law.2.1 691 = .ok (.aload_n 0, 1) := by decide +kernel
theorem d_La_law_692 : decode M_La_law.2.1 692 = .ok (.iload 5, 2) := by decide +kernel
theorem d_La_law_694 : decode M_La_law.2.1 694 = .ok (.iconst 1, 1) := by decide +kernel
theorem d_La_law_695 : decode M_La_law.2.1 695 = .ok (.iadd, 1) := by decide +kernel
theorem d_La_law_696 : decode M_La_law.2.1 696 = .ok (.iaload, 1) := by decide +kernel
theorem d_La_law_697 : decode M_La_law.2.1 697 = .ok (.invokevirtual 104, 3) := by decide +kernel
theorem d_La_law_700 : decode M_La_law.2.1 700 = .ok (.istore 7, 2) := by decide +kernel
theorem d_La_law_702 : decode M_La_law.2.1 702 = .ok (.aload_n 2, 1) := by decide +kernel
theorem d_La_law_703 : decode M_La_law.2.1 703 = .ok (.invokevirtual 70, 3) := by decide +kernel
theorem d_La_law_706 : decode M_La_law.2.1 706 = .ok (.iload 6, 2) := by decide +kernel
theorem d_La_law_708 : decode M_La_law.2.1 708 = .ok (.if_icmp .eq 5, 3) := by decide +kernel
theorem d_La_law_711 : decode M_La_law.2.1 711 = .ok (.iconst 0, 1) := by decide +kernel
theorem d_La_law_712 : decode M_La_law.2.1 712 = .ok (.ireturn, 1) := by decide +kernel
theorem d_La_law_713 : decode M_La_law.2.1 713 = .ok (.iload 6, 2) := by decide +kernel
theorem d_La_law_715 : decode M_La_law.2.1 715 = .ok (.ifCond .ne 15, 3) := by decide +kernel
theorem d_La_law_718 : decode M_La_law.2.1 718 = .ok (.aload_n 3, 1) := by decide +kernel
theorem d_La_law_719 : decode M_La_law.2.1 719 = .ok (.iconst 0, 1) := by decide +kernel
theorem d_La_law_720 : decode M_La_law.2.1 720 = .ok (.laload, 1) := by decide +kernel
theorem d_La_law_721 : decode M_La_law.2.1 721 = .ok (.iload 7, 2) := by decide +kernel
theorem d_La_law_723 : decode M_La_law.2.1 723 = .ok (.i2l, 1) := by decide +kernel
theorem d_La_law_724 : decode M_La_law.2.1 724 = .ok (.lcmp, 1) := by decide +kernel
theorem d_La_law_725 : decode M_La_law.2.1 725 = .ok (.ifCond .eq 5, 3) := by decide +kernel
theorem d_La_law_728 : decode M_La_law.2.1 728 = .ok (.iconst 0, 1) := by decide +kernel
theorem d_La_law_729 : decode M_La_law.2.1 729 = .ok (.ireturn, 1) := by decide +kernel
theorem d_La_law_730 : decode M_La_law.2.1 730 = .ok (.goto 282, 3) := by decide +kernel
theorem d_La_law_733 : decode M_La_law.2.1 733 = .ok (.aload_n 1, 1) := by decide +kernel
theorem d_La_law_734 : decode M_La_law.2.1 734 = .ok (.aload_n 0, 1) := by decide +kernel
theorem d_La_law_735 : decode M_La_law.2.1 735 = .ok (.iload 5, 2) := by decide +kernel
theorem d_La_law_737 : decode M_La_law.2.1 737 = .ok (.iconst 1, 1) := by decide +kernel
theorem d_La_law_738 : decode M_La_law.2.1 738 = .ok (.iadd, 1) := by decide +kernel
theorem d_La_law_739 : decode M_La_law.2.1 739 = .ok (.iaload, 1) := by decide +kernel
theorem d_La_law_740 : decode M_La_law.2.1 740 = .ok (.aload_n 0, 1) := by decide +kernel
theorem d_La_law_741 : decode M_La_law.2.1 741 = .ok (.iload 5, 2) := by decide +kernel
theorem d_La_law_743 : decode M_La_law.2.1 743 = .ok (.iconst 2, 1) := by decide +kernel
theorem d_La_law_744 : decode M_La_law.2.1 744 = .ok (.iadd, 1) := by decide +kernel
theorem d_La_law_745 : decode M_La_law.2.1 745 = .ok (.iaload, 1) := by decide +kernel
theorem d_La_law_746 : decode M_La_law.2.1 746 = .ok (.aload_n 3, 1) := by decide +kernel
theorem d_La_law_747 : decode M_La_law.2.1 747 = .ok (.invokestatic 105, 3) := by decide +kernel
theorem d_La_law_750 : decode M_La_law.2.1 750 = .ok (.istore 6, 2) := by decide +kernel
theorem d_La_law_752 : decode M_La_law.2.1 752 = .ok (.aload_n 2, 1) := by decide +kernel
theorem d_La_law_753 : decode M_La_law.2.1 753 = .ok (.aload_n 0, 1) := by decide +kernel
theorem d_La_law_754 : decode M_La_law.2.1 754 = .ok (.iload 5, 2) := by decide +kernel
theorem d_La_law_756 : decode M_La_law.2.1 756 = .ok (.iconst 1, 1) := by decide +kernel
theorem d_La_law_757 : decode M_La_law.2.1 757 = .ok (.iadd, 1) := by decide +kernel
theorem d_La_law_758 : decode M_La_law.2.1 758 = .ok (.iaload, 1) := by decide +kernel
theorem d_La_law_759 : decode M_La_law.2.1 759 = .ok (.aload_n 0, 1) := by decide +kernel
theorem d_La_law_760 : decode M_La_law.2.1 760 = .ok (.iload 5, 2) := by decide +kernel
theorem d_La_law_762 : decode M_La_law.2.1 762 = .ok (.iconst 2, 1) := by decide +kernel
theorem d_La_law_763 : decode M_La_law.2.1 763 = .ok (.iadd, 1) := by decide +kernel
theorem d_La_law_764 : decode M_La_law.2.1 764 = .ok (.iaload, 1) := by decide +kernel
theorem d_La_law_765 : decode M_La_law.2.1 765 = .ok (.invokevirtual 107, 3) := by decide +kernel
theorem d_La_law_768 : decode M_La_law.2.1 768 = .ok (.istore 7, 2) := by decide +kernel
theorem d_La_law_770 : decode M_La_law.2.1 770 = .ok (.aload_n 2, 1) := by decide +kernel
theorem d_La_law_771 : decode M_La_law.2.1 771 = .ok (.invokevirtual 70, 3) := by decide +kernel
theorem d_La_law_774 : decode M_La_law.2.1 774 = .ok (.iload 6, 2) := by decide +kernel
theorem d_La_law_776 : decode M_La_law.2.1 776 = .ok (.if_icmp .eq 5, 3) := by decide +kernel
theorem d_La_law_779 : decode M_La_law.2.1 779 = .ok (.iconst 0, 1) := by decide +kernel
theorem d_La_law_780 : decode M_La_law.2.1 780 = .ok (.ireturn, 1) := by decide +kernel
theorem d_La_law_781 : decode M_La_law.2.1 781 = .ok (.iload 6, 2) := by decide +kernel
theorem d_La_law_783 : decode M_La_law.2.1 783 = .ok (.ifCond .ne 15, 3) := by decide +kernel
theorem d_La_law_786 : decode M_La_law.2.1 786 = .ok (.aload_n 3, 1) := by decide +kernel
theorem d_La_law_787 : decode M_La_law.2.1 787 = .ok (.iconst 0, 1) := by decide +kernel
theorem d_La_law_788 : decode M_La_law.2.1 788 = .ok (.laload, 1) := by decide +kernel
theorem d_La_law_789 : decode M_La_law.2.1 789 = .ok (.iload 7, 2) := by decide +kernel
theorem d_La_law_791 : decode M_La_law.2.1 791 = .ok (.i2l, 1) := by decide +kernel
theorem d_La_law_792 : decode M_La_law.2.1 792 = .ok (.lcmp, 1) := by decide +kernel
theorem d_La_law_793 : decode M_La_law.2.1 793 = .ok (.ifCond .eq 5, 3) := by decide +kernel
theorem d_La_law_796 : decode M_La_law.2.1 796 = .ok (.iconst 0, 1) := by decide +kernel
theorem d_La_law_797 : decode M_La_law.2.1 797 = .ok (.ireturn, 1) := by decide +kernel
theorem d_La_law_798 : decode M_La_law.2.1 798 = .ok (.goto 214, 3) := by decide +kernel
theorem d_La_law_801 : decode M_La_law.2.1 801 = .ok (.aload_n 1, 1) := by decide +kernel
theorem d_La_law_802 : decode M_La_law.2.1 802 = .ok (.aload_n 0, 1) := by decide +kernel
theorem d_La_law_803 : decode M_La_law.2.1 803 = .ok (.iload 5, 2) := by decide +kernel
theorem d_La_law_805 : decode M_La_law.2.1 805 = .ok (.iconst 1, 1) := by decide +kernel
theorem d_La_law_806 : decode M_La_law.2.1 806 = .ok (.iadd, 1) := by decide +kernel
theorem d_La_law_807 : decode M_La_law.2.1 807 = .ok (.iaload, 1) := by decide +kernel
theorem d_La_law_808 : decode M_La_law.2.1 808 = .ok (.aload_n 3, 1) := by decide +kernel
theorem d_La_law_809 : decode M_La_law.2.1 809 = .ok (.invokestatic 108, 3) := by decide +kernel
theorem d_La_law_812 : decode M_La_law.2.1 812 = .ok (.istore 6, 2) := by decide +kernel
theorem d_La_law_814 : decode M_La_law.2.1 814 = .ok (.aload_n 2, 1) := by decide +kernel
theorem d_La_law_815 : decode M_La_law.2.1 815 = .ok (.aload_n 0, 1) := by decide +kernel
theorem d_La_law_816 : decode M_La_law.2.1 816 = .ok (.iload 5, 2) := by decide +kernel
theorem d_La_law_818 : decode M_La_law.2.1 818 = .ok (.iconst 1, 1) := by decide +kernel
theorem d_La_law_819 : decode M_La_law.2.1 819 = .ok (.iadd, 1) := by decide +kernel
theorem d_La_law_820 : decode M_La_law.2.1 820 = .ok (.iaload, 1) := by decide +kernel
theorem d_La_law_821 : decode M_La_law.2.1 821 = .ok (.invokevirtual 110, 3) := by decide +kernel
theorem d_La_law_824 : decode M_La_law.2.1 824 = .ok (.istore 7, 2) := by decide +kernel
theorem d_La_law_826 : decode M_La_law.2.1 826 = .ok (.aload_n 2, 1) := by decide +kernel
theorem d_La_law_827 : decode M_La_law.2.1 827 = .ok (.invokevirtual 70, 3) := by decide +kernel
theorem d_La_law_830 : decode M_La_law.2.1 830 = .ok (.iload 6, 2) := by decide +kernel
theorem d_La_law_832 : decode M_La_law.2.1 832 = .ok (.if_icmp .eq 5, 3) := by decide +kernel
theorem d_La_law_835 : decode M_La_law.2.1 835 = .ok (.iconst 0, 1) := by decide +kernel
theorem d_La_law_836 : decode M_La_law.2.1 836 = .ok (.ireturn, 1) := by decide +kernel
theorem d_La_law_837 : decode M_La_law.2.1 837 = .ok (.iload 6, 2) := by decide +kernel
theorem d_La_law_839 : decode M_La_law.2.1 839 = .ok (.ifCond .ne 15, 3) := by decide +kernel
theorem d_La_law_842 : decode M_La_law.2.1 842 = .ok (.aload_n 3, 1) := by decide +kernel
theorem d_La_law_843 : decode M_La_law.2.1 843 = .ok (.iconst 0, 1) := by decide +kernel
theorem d_La_law_844 : decode M_La_law.2.1 844 = .ok (.laload, 1) := by decide +kernel
theorem d_La_law_845 : decode M_La_law.2.1 845 = .ok (.iload 7, 2) := by decide +kernel
theorem d_La_law_847 : decode M_La_law.2.1 847 = .ok (.i2l, 1) := by decide +kernel
theorem d_La_law_848 : decode M_La_law.2.1 848 = .ok (.lcmp, 1) := by decide +kernel
theorem d_La_law_849 : decode M_La_law.2.1 849 = .ok (.ifCond .eq 5, 3) := by decide +kernel
theorem d_La_law_852 : decode M_La_law.2.1 852 = .ok (.iconst 0, 1) := by decide +kernel
theorem d_La_law_853 : decode M_La_law.2.1 853 = .ok (.ireturn, 1) := by decide +kernel
theorem d_La_law_854 : decode M_La_law.2.1 854 = .ok (.goto 158, 3) := by decide +kernel
theorem d_La_law_857 : decode M_La_law.2.1 857 = .ok (.aload_n 1, 1) := by decide +kernel
theorem d_La_law_858 : decode M_La_law.2.1 858 = .ok (.aload_n 0, 1) := by decide +kernel
theorem d_La_law_859 : decode M_La_law.2.1 859 = .ok (.iload 5, 2) := by decide +kernel
theorem d_La_law_861 : decode M_La_law.2.1 861 = .ok (.iconst 1, 1) := by decide +kernel
theorem d_La_law_862 : decode M_La_law.2.1 862 = .ok (.iadd, 1) := by decide +kernel
theorem d_La_law_863 : decode M_La_law.2.1 863 = .ok (.iaload, 1) := by decide +kernel
theorem d_La_law_864 : decode M_La_law.2.1 864 = .ok (.aload_n 3, 1) := by decide +kernel
theorem d_La_law_865 : decode M_La_law.2.1 865 = .ok (.invokestatic 111, 3) := by decide +kernel
theorem d_La_law_868 : decode M_La_law.2.1 868 = .ok (.istore 6, 2) := by decide +kernel
theorem d_La_law_870 : decode M_La_law.2.1 870 = .ok (.aload_n 2, 1) := by decide +kernel
theorem d_La_law_871 : decode M_La_law.2.1 871 = .ok (.aload_n 0, 1) := by decide +kernel
theorem d_La_law_872 : decode M_La_law.2.1 872 = .ok (.iload 5, 2) := by decide +kernel
theorem d_La_law_874 : decode M_La_law.2.1 874 = .ok (.iconst 1, 1) := by decide +kernel
theorem d_La_law_875 : decode M_La_law.2.1 875 = .ok (.iadd, 1) := by decide +kernel
theorem d_La_law_876 : decode M_La_law.2.1 876 = .ok (.iaload, 1) := by decide +kernel
theorem d_La_law_877 : decode M_La_law.2.1 877 = .ok (.invokevirtual 113, 3) := by decide +kernel
theorem d_La_law_880 : decode M_La_law.2.1 880 = .ok (.istore 7, 2) := by decide +kernel
theorem d_La_law_882 : decode M_La_law.2.1 882 = .ok (.aload_n 2, 1) := by decide +kernel
theorem d_La_law_883 : decode M_La_law.2.1 883 = .ok (.invokevirtual 70, 3) := by decide +kernel
theorem d_La_law_886 : decode M_La_law.2.1 886 = .ok (.iload 6, 2) := by decide +kernel
theorem d_La_law_888 : decode M_La_law.2.1 888 = .ok (.if_icmp .eq 5, 3) := by decide +kernel
theorem d_La_law_891 : decode M_La_law.2.1 891 = .ok (.iconst 0, 1) := by decide +kernel
theorem d_La_law_892 : decode M_La_law.2.1 892 = .ok (.ireturn, 1) := by decide +kernel
theorem d_La_law_893 : decode M_La_law.2.1 893 = .ok (.iload 6, 2) := by decide +kernel
theorem d_La_law_895 : decode M_La_law.2.1 895 = .ok (.ifCond .ne 15, 3) := by decide +kernel
theorem d_La_law_898 : decode M_La_law.2.1 898 = .ok (.aload_n 3, 1) := by decide +kernel
theorem d_La_law_899 : decode M_La_law.2.1 899 = .ok (.iconst 0, 1) := by decide +kernel
theorem d_La_law_900 : decode M_La_law.2.1 900 = .ok (.laload, 1) := by decide +kernel
theorem d_La_law_901 : decode M_La_law.2.1 901 = .ok (.iload 7, 2) := by decide +kernel
theorem d_La_law_903 : decode M_La_law.2.1 903 = .ok (.i2l, 1) := by decide +kernel
theorem d_La_law_904 : decode M_La_law.2.1 904 = .ok (.lcmp, 1) := by decide +kernel
theorem d_La_law_905 : decode M_La_law.2.1 905 = .ok (.ifCond .eq 5, 3) := by decide +kernel
theorem d_La_law_908 : decode M_La_law.2.1 908 = .ok (.iconst 0, 1) := by decide +kernel
theorem d_La_law_909 : decode M_La_law.2.1 909 = .ok (.ireturn, 1) := by decide +kernel
theorem d_La_law_910 : decode M_La_law.2.1 910 = .ok (.goto 102, 3) := by decide +kernel
theorem d_La_law_913 : decode M_La_law.2.1 913 = .ok (.aload_n 1, 1) := by decide +kernel
theorem d_La_law_914 : decode M_La_law.2.1 914 = .ok (.aload_n 0, 1) := by decide +kernel
theorem d_La_law_915 : decode M_La_law.2.1 915 = .ok (.iload 5, 2) := by decide +kernel
theorem d_La_law_917 : decode M_La_law.2.1 917 = .ok (.iconst 1, 1) := by decide +kernel
theorem d_La_law_918 : decode M_La_law.2.1 918 = .ok (.iadd, 1) := by decide +kernel
theorem d_La_law_919 : decode M_La_law.2.1 919 = .ok (.iaload, 1) := by decide +kernel
theorem d_La_law_920 : decode M_La_law.2.1 920 = .ok (.aload_n 0, 1) := by decide +kernel
theorem d_La_law_921 : decode M_La_law.2.1 921 = .ok (.iload 5, 2) := by decide +kernel
theorem d_La_law_923 : decode M_La_law.2.1 923 = .ok (.iconst 2, 1) := by decide +kernel
theorem d_La_law_924 : decode M_La_law.2.1 924 = .ok (.iadd, 1) := by decide +kernel
theorem d_La_law_925 : decode M_La_law.2.1 925 = .ok (.iaload, 1) := by decide +kernel
theorem d_La_law_926 : decode M_La_law.2.1 926 = .ok (.i2d, 1) := by decide +kernel
theorem d_La_law_927 : decode M_La_law.2.1 927 = .ok (.ldc2_w 77, 3) := by decide +kernel
theorem d_La_law_930 : decode M_La_law.2.1 930 = .ok (.dmul, 1) := by decide +kernel
theorem d_La_law_931 : decode M_La_law.2.1 931 = .ok (.aload 4, 2) := by decide +kernel
theorem d_La_law_933 : decode M_La_law.2.1 933 = .ok (.invokestatic 114, 3) := by decide +kernel
theorem d_La_law_936 : decode M_La_law.2.1 936 = .ok (.istore 6, 2) := by decide +kernel
theorem d_La_law_938 : decode M_La_law.2.1 938 = .ok (.aload_n 2, 1) := by decide +kernel
theorem d_La_law_939 : decode M_La_law.2.1 939 = .ok (.aload_n 0, 1) := by decide +kernel
theorem d_La_law_940 : decode M_La_law.2.1 940 = .ok (.iload 5, 2) := by decide +kernel
theorem d_La_law_942 : decode M_La_law.2.1 942 = .ok (.iconst 1, 1) := by decide +kernel
theorem d_La_law_943 : decode M_La_law.2.1 943 = .ok (.iadd, 1) := by decide +kernel
theorem d_La_law_944 : decode M_La_law.2.1 944 = .ok (.iaload, 1) := by decide +kernel
theorem d_La_law_945 : decode M_La_law.2.1 945 = .ok (.aload_n 0, 1) := by decide +kernel
theorem d_La_law_946 : decode M_La_law.2.1 946 = .ok (.iload 5, 2) := by decide +kernel
theorem d_La_law_948 : decode M_La_law.2.1 948 = .ok (.iconst 2, 1) := by decide +kernel
theorem d_La_law_949 : decode M_La_law.2.1 949 = .ok (.iadd, 1) := by decide +kernel
theorem d_La_law_950 : decode M_La_law.2.1 950 = .ok (.iaload, 1) := by decide +kernel
theorem d_La_law_951 : decode M_La_law.2.1 951 = .ok (.i2d, 1) := by decide +kernel
theorem d_La_law_952 : decode M_La_law.2.1 952 = .ok (.ldc2_w 77, 3) := by decide +kernel
theorem d_La_law_955 : decode M_La_law.2.1 955 = .ok (.dmul, 1) := by decide +kernel
theorem d_La_law_956 : decode M_La_law.2.1 956 = .ok (.invokevirtual 117, 3) := by decide +kernel
theorem d_La_law_959 : decode M_La_law.2.1 959 = .ok (.dstore 7, 2) := by decide +kernel
theorem d_La_law_961 : decode M_La_law.2.1 961 = .ok (.aload_n 2, 1) := by decide +kernel
theorem d_La_law_962 : decode M_La_law.2.1 962 = .ok (.invokevirtual 70, 3) := by decide +kernel
theorem d_La_law_965 : decode M_La_law.2.1 965 = .ok (.iload 6, 2) := by decide +kernel
theorem d_La_law_967 : decode M_La_law.2.1 967 = .ok (.if_icmp .eq 5, 3) := by decide +kernel
theorem d_La_law_970 : decode M_La_law.2.1 970 = .ok (.iconst 0, 1) := by decide +kernel
theorem d_La_law_971 : decode M_La_law.2.1 971 = .ok (.ireturn, 1) := by decide +kernel
theorem d_La_law_972 : decode M_La_law.2.1 972 = .ok (.iload 6, 2) := by decide +kernel
theorem d_La_law_974 : decode M_La_law.2.1 974 = .ok (.ifCond .ne 35, 3) := by decide +kernel
theorem d_La_law_977 : decode M_La_law.2.1 977 = .ok (.aload 4, 2) := by decide +kernel
theorem d_La_law_979 : decode M_La_law.2.1 979 = .ok (.iconst 0, 1) := by decide +kernel
theorem d_La_law_980 : decode M_La_law.2.1 980 = .ok (.daload, 1) := by decide +kernel
theorem d_La_law_981 : decode M_La_law.2.1 981 = .ok (.dload 7, 2) := by decide +kernel
theorem d_La_law_983 : decode M_La_law.2.1 983 = .ok (.dcmp .l, 1) := by decide +kernel
theorem d_La_law_984 : decode M_La_law.2.1 984 = .ok (.ifCond .eq 25, 3) := by decide +kernel
theorem d_La_law_987 : decode M_La_law.2.1 987 = .ok (.aload 4, 2) := by decide +kernel
theorem d_La_law_989 : decode M_La_law.2.1 989 = .ok (.iconst 0, 1) := by decide +kernel
theorem d_La_law_990 : decode M_La_law.2.1 990 = .ok (.daload, 1) := by decide +kernel
theorem d_La_law_991 : decode M_La_law.2.1 991 = .ok (.aload 4, 2) := by decide +kernel
theorem d_La_law_993 : decode M_La_law.2.1 993 = .ok (.iconst 0, 1) := by decide +kernel
theorem d_La_law_994 : decode M_La_law.2.1 994 = .ok (.daload, 1) := by decide +kernel
theorem d_La_law_995 : decode M_La_law.2.1 995 = .ok (.dcmp .l, 1) := by decide +kernel
theorem d_La_law_996 : decode M_La_law.2.1 996 = .ok (.ifCond .eq 11, 3) := by decide +kernel
theorem d_La_law_999 : decode M_La_law.2.1 999 = .ok (.dload 7, 2) := by decide +kernel
theorem d_La_law_1001 : decode M_La_law.2.1 1001 = .ok (.dload 7, 2) := by decide +kernel
theorem d_La_law_1003 : decode M_La_law.2.1 1003 = .ok (.dcmp .l, 1) := by decide +kernel
theorem d_La_law_1004 : decode M_La_law.2.1 1004 = .ok (.ifCond .ne 5, 3) := by decide +kernel
theorem d_La_law_1007 : decode M_La_law.2.1 1007 = .ok (.iconst 0, 1) := by decide +kernel
theorem d_La_law_1008 : decode M_La_law.2.1 1008 = .ok (.ireturn, 1) := by decide +kernel
theorem d_La_law_1009 : decode M_La_law.2.1 1009 = .ok (.goto 3, 3) := by decide +kernel
theorem d_La_law_1012 : decode M_La_law.2.1 1012 = .ok (.iinc 5 5, 3) := by decide +kernel
theorem d_La_law_1015 : decode M_La_law.2.1 1015 = .ok (.goto (-987), 3) := by decide +kernel
theorem d_La_law_1018 : decode M_La_law.2.1 1018 = .ok (.iconst 1, 1) := by decide +kernel
theorem d_La_law_1019 : decode M_La_law.2.1 1019 = .ok (.ireturn, 1) := by decide +kernel
theorem d_Sa_ofValue_0 : decode M_Sa_ofValue.2.1 0 = .ok (.iload_n 0, 1) := by decide +kernel
theorem d_Sa_ofValue_1 : decode M_Sa_ofValue.2.1 1 = .ok (.lookupswitch 38 #[(0, 27), (1, 32)], 27) := by decide +kernel
theorem d_Sa_ofValue_28 : decode M_Sa_ofValue.2.1 28 = .ok (.dload_n 1, 1) := by decide +kernel
theorem d_Sa_ofValue_29 : decode M_Sa_ofValue.2.1 29 = .ok (.invokestatic 9, 3) := by decide +kernel
theorem d_Sa_ofValue_32 : decode M_Sa_ofValue.2.1 32 = .ok (.ireturn, 1) := by decide +kernel
theorem d_Sa_ofValue_33 : decode M_Sa_ofValue.2.1 33 = .ok (.dload_n 1, 1) := by decide +kernel
theorem d_Sa_ofValue_34 : decode M_Sa_ofValue.2.1 34 = .ok (.d2f, 1) := by decide +kernel
theorem d_Sa_ofValue_35 : decode M_Sa_ofValue.2.1 35 = .ok (.invokestatic 15, 3) := by decide +kernel
theorem d_Sa_ofValue_38 : decode M_Sa_ofValue.2.1 38 = .ok (.ireturn, 1) := by decide +kernel
theorem d_Sa_ofValue_39 : decode M_Sa_ofValue.2.1 39 = .ok (.dload_n 1, 1) := by decide +kernel
theorem d_Sa_ofValue_40 : decode M_Sa_ofValue.2.1 40 = .ok (.d2i, 1) := by decide +kernel
theorem d_Sa_ofValue_41 : decode M_Sa_ofValue.2.1 41 = .ok (.invokestatic 19, 3) := by decide +kernel
theorem d_Sa_ofValue_44 : decode M_Sa_ofValue.2.1 44 = .ok (.ireturn, 1) := by decide +kernel
theorem d_Sa_ofHalf_0 : decode M_Sa_ofHalf.2.1 0 = .ok (.dload_n 0, 1) := by decide +kernel
theorem d_Sa_ofHalf_1 : decode M_Sa_ofHalf.2.1 1 = .ok (.dconst 0, 1) := by decide +kernel
theorem d_Sa_ofHalf_2 : decode M_Sa_ofHalf.2.1 2 = .ok (.dcmp .g, 1) := by decide +kernel
theorem d_Sa_ofHalf_3 : decode M_Sa_ofHalf.2.1 3 = .ok (.ifCond .ge 8, 3) := by decide +kernel
theorem d_Sa_ofHalf_6 : decode M_Sa_ofHalf.2.1 6 = .ok (.dload_n 0, 1) := by decide +kernel
theorem d_Sa_ofHalf_7 : decode M_Sa_ofHalf.2.1 7 = .ok (.dneg, 1) := by decide +kernel
theorem d_Sa_ofHalf_8 : decode M_Sa_ofHalf.2.1 8 = .ok (.goto 4, 3) := by decide +kernel
theorem d_Sa_ofHalf_11 : decode M_Sa_ofHalf.2.1 11 = .ok (.dload_n 0, 1) := by decide +kernel
theorem d_Sa_ofHalf_12 : decode M_Sa_ofHalf.2.1 12 = .ok (.dstore_n 2, 1) := by decide +kernel
theorem d_Sa_ofHalf_13 : decode M_Sa_ofHalf.2.1 13 = .ok (.dload_n 2, 1) := by decide +kernel
theorem d_Sa_ofHalf_14 : decode M_Sa_ofHalf.2.1 14 = .ok (.ldc2_w 35, 3) := by decide +kernel
theorem d_Sa_ofHalf_17 : decode M_Sa_ofHalf.2.1 17 = .ok (.dcmp .l, 1) := by decide +kernel
theorem d_Sa_ofHalf_18 : decode M_Sa_ofHalf.2.1 18 = .ok (.ifCond .lt 9, 3) := by decide +kernel
theorem d_Sa_ofHalf_21 : decode M_Sa_ofHalf.2.1 21 = .ok (.sipush 31743, 3) := by decide +kernel
theorem d_Sa_ofHalf_24 : decode M_Sa_ofHalf.2.1 24 = .ok (.goto 14, 3) := by decide +kernel
theorem d_Sa_ofHalf_27 : decode M_Sa_ofHalf.2.1 27 = .ok (.dload_n 2, 1) := by decide +kernel
theorem d_Sa_ofHalf_28 : decode M_Sa_ofHalf.2.1 28 = .ok (.sipush 1024, 3) := by decide +kernel
theorem d_Sa_ofHalf_31 : decode M_Sa_ofHalf.2.1 31 = .ok (.bipush 25, 2) := by decide +kernel
theorem d_Sa_ofHalf_33 : decode M_Sa_ofHalf.2.1 33 = .ok (.bipush 30, 2) := by decide +kernel
theorem d_Sa_ofHalf_35 : decode M_Sa_ofHalf.2.1 35 = .ok (.invokestatic 37, 3) := by decide +kernel
theorem d_Sa_ofHalf_38 : decode M_Sa_ofHalf.2.1 38 = .ok (.istore 4, 2) := by decide +kernel
theorem d_Sa_ofHalf_40 : decode M_Sa_ofHalf.2.1 40 = .ok (.dload_n 0, 1) := by decide +kernel
theorem d_Sa_ofHalf_41 : decode M_Sa_ofHalf.2.1 41 = .ok (.dconst 0, 1) := by decide +kernel
theorem d_Sa_ofHalf_42 : decode M_Sa_ofHalf.2.1 42 = .ok (.dcmp .g, 1) := by decide +kernel
theorem d_Sa_ofHalf_43 : decode M_Sa_ofHalf.2.1 43 = .ok (.ifCond .ge 16, 3) := by decide +kernel
theorem d_Sa_ofHalf_46 : decode M_Sa_ofHalf.2.1 46 = .ok (.iload 4, 2) := by decide +kernel
theorem d_Sa_ofHalf_48 : decode M_Sa_ofHalf.2.1 48 = .ok (.ifCond .eq 11, 3) := by decide +kernel
theorem d_Sa_ofHalf_51 : decode M_Sa_ofHalf.2.1 51 = .ok (.iload 4, 2) := by decide +kernel
theorem d_Sa_ofHalf_53 : decode M_Sa_ofHalf.2.1 53 = .ok (.ldc 23, 2) := by decide +kernel
theorem d_Sa_ofHalf_55 : decode M_Sa_ofHalf.2.1 55 = .ok (.iadd, 1) := by decide +kernel
theorem d_Sa_ofHalf_56 : decode M_Sa_ofHalf.2.1 56 = .ok (.goto 5, 3) := by decide +kernel
theorem d_Sa_ofHalf_59 : decode M_Sa_ofHalf.2.1 59 = .ok (.iload 4, 2) := by decide +kernel
theorem d_Sa_ofHalf_61 : decode M_Sa_ofHalf.2.1 61 = .ok (.ireturn, 1) := by decide +kernel
theorem d_Sa_nearest_0 : decode M_Sa_nearest.2.1 0 = .ok (.iload_n 3, 1) := by decide +kernel
theorem d_Sa_nearest_1 : decode M_Sa_nearest.2.1 1 = .ok (.istore 5, 2) := by decide +kernel
theorem d_Sa_nearest_3 : decode M_Sa_nearest.2.1 3 = .ok (.dload_n 0, 1) := by decide +kernel
theorem d_Sa_nearest_4 : decode M_Sa_nearest.2.1 4 = .ok (.dstore 6, 2) := by decide +kernel
theorem d_Sa_nearest_6 : decode M_Sa_nearest.2.1 6 = .ok (.iload 5, 2) := by decide +kernel
theorem d_Sa_nearest_8 : decode M_Sa_nearest.2.1 8 = .ok (.iload 4, 2) := by decide +kernel
theorem d_Sa_nearest_10 : decode M_Sa_nearest.2.1 10 = .ok (.if_icmp .ge 29, 3) := by decide +kernel
theorem d_Sa_nearest_13 : decode M_Sa_nearest.2.1 13 = .ok (.dload 6, 2) := by decide +kernel
theorem d_Sa_nearest_15 : decode M_Sa_nearest.2.1 15 = .ok (.ldc2_w 52, 3) := by decide +kernel
theorem d_Sa_nearest_18 : decode M_Sa_nearest.2.1 18 = .ok (.iload_n 2, 1) := by decide +kernel
theorem d_Sa_nearest_19 : decode M_Sa_nearest.2.1 19 = .ok (.i2d, 1) := by decide +kernel
