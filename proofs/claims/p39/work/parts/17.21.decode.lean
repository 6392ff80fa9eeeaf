theorem d_X8_readEither_7 : decode prog_10_method_13_code 7 = .ok (.istore_n 3, 1) := by decide +kernel
theorem d_X8_readEither_9 : decode prog_10_method_13_code 9 = .ok (.sipush 1600, 3) := by decide +kernel
theorem d_X8_readEither_23 : decode prog_10_method_13_code 23 = .ok (.getfield 50, 3) := by decide +kernel
theorem d_X8_readEither_19 : decode prog_10_method_13_code 19 = .ok (.aload_n 0, 1) := by decide +kernel
theorem d_X8_readEither_16 : decode prog_10_method_13_code 16 = .ok (.ifCond .eq 53, 3) := by decide +kernel
theorem d_X8_readEither_15 : decode prog_10_method_13_code 15 = .ok (.iload_n 2, 1) := by decide +kernel
theorem d_X8_readEither_20 : decode prog_10_method_13_code 20 = .ok (.getfield 22, 3) := by decide +kernel
theorem d_X8_readEither_29 : decode prog_10_method_13_code 29 = .ok (.if_icmp .ne 40, 3) := by decide +kernel
theorem d_X8_readEither_26 : decode prog_10_method_13_code 26 = .ok (.sipush 137, 3) := by decide +kernel
theorem d_X8_readEither_32 : decode prog_10_method_13_code 32 = .ok (.aload_n 0, 1) := by decide +kernel
theorem d_X8_readEither_54 : decode prog_10_method_13_code 54 = .ok (.ifCond .eq 7, 3) := by decide +kernel
theorem d_X8_readEither_44 : decode prog_10_method_13_code 44 = .ok (.ifCond .eq 17, 3) := by decide +kernel
theorem d_X8_readEither_40 : decode prog_10_method_13_code 40 = .ok (.iload_n 1, 1) := by decide +kernel
theorem d_X8_readEither_39 : decode prog_10_method_13_code 39 = .ok (.aload_n 0, 1) := by decide +kernel
theorem d_X8_readEither_36 : decode prog_10_method_13_code 36 = .ok (.invokevirtual 82, 3) := by decide +kernel
theorem d_X8_readEither_41 : decode prog_10_method_13_code 41 = .ok (.invokevirtual 144, 3) := by decide +kernel
theorem d_X8_readEither_48 : decode prog_10_method_13_code 48 = .ok (.sipush 137, 3) := by decide +kernel
theorem d_X8_readEither_47 : decode prog_10_method_13_code 47 = .ok (.aload_n 0, 1) := by decide +kernel
theorem d_X8_readEither_51 : decode prog_10_method_13_code 51 = .ok (.invokevirtual 147, 3) := by decide +kernel
theorem d_X8_readEither_63 : decode prog_10_method_13_code 63 = .ok (.iinc 3 1, 3) := by decide +kernel
theorem d_X8_readEither_61 : decode prog_10_method_13_code 61 = .ok (.iconst 0, 1) := by decide +kernel
theorem d_X8_readEither_58 : decode prog_10_method_13_code 58 = .ok (.goto 4, 3) := by decide +kernel
theorem d_X8_readEither_57 : decode prog_10_method_13_code 57 = .ok (.iconst 1, 1) := by decide +kernel
theorem d_X8_readEither_62 : decode prog_10_method_13_code 62 = .ok (.istore_n 2, 1) := by decide +kernel
theorem d_X8_readEither_69 : decode prog_10_method_13_code 69 = .ok (.iload_n 2, 1) := by decide +kernel
theorem d_X8_readEither_66 : decode prog_10_method_13_code 66 = .ok (.goto (-58), 3) := by decide +kernel
theorem d_X8_readEither_70 : decode prog_10_method_13_code 70 = .ok (.ireturn, 1) := by decide +kernel
theorem d_X8_write_18 : decode prog_10_method_12_code 18 = .ok (.ifCond .ne 11, 3) := by decide +kernel
theorem d_X8_write_8 : decode prog_10_method_12_code 8 = .ok (.aload_n 0, 1) := by decide +kernel
theorem d_X8_write_4 : decode prog_10_method_12_code 4 = .ok (.getfield 115, 3) := by decide +kernel
theorem d_X8_write_1 : decode prog_10_method_12_code 1 = .ok (.getfield 26, 3) := by decide +kernel
theorem d_X8_write_0 : decode prog_10_method_12_code 0 = .ok (.aload_n 0, 1) := by decide +kernel
theorem d_X8_write_7 : decode prog_10_method_12_code 7 = .ok (.iload_n 1, 1) := by decide +kernel
theorem d_X8_write_12 : decode prog_10_method_12_code 12 = .ok (.getfield 137, 3) := by decide +kernel
theorem d_X8_write_9 : decode prog_10_method_12_code 9 = .ok (.getfield 22, 3) := by decide +kernel
theorem d_X8_write_15 : decode prog_10_method_12_code 15 = .ok (.invokevirtual 140, 3) := by decide +kernel
theorem d_X8_write_29 : decode prog_10_method_12_code 29 = .ok (.iconst 1, 1) := by decide +kernel
theorem d_X8_write_23 : decode prog_10_method_12_code 23 = .ok (.invokevirtual 69, 3) := by decide +kernel
theorem d_X8_write_22 : decode prog_10_method_12_code 22 = .ok (.iconst 2, 1) := by decide +kernel
theorem d_X8_write_21 : decode prog_10_method_12_code 21 = .ok (.aload_n 0, 1) := by decide +kernel
theorem d_X8_write_26 : decode prog_10_method_12_code 26 = .ok (.ifCond .eq 7, 3) := by decide +kernel
theorem d_X8_write_33 : decode prog_10_method_12_code 33 = .ok (.iconst 0, 1) := by decide +kernel
theorem d_X8_write_30 : decode prog_10_method_12_code 30 = .ok (.goto 4, 3) := by decide +kernel
theorem d_X8_write_34 : decode prog_10_method_12_code 34 = .ok (.ireturn, 1) := by decide +kernel
theorem d_X4_append_28 : decode prog_6_method_4_code 28 = .ok (.iastore, 1) := by decide +kernel
theorem d_X4_append_17 : decode prog_6_method_4_code 17 = .ok (.iconst 0, 1) := by decide +kernel
theorem d_X4_append_7 : decode prog_6_method_4_code 7 = .ok (.aload_n 0, 1) := by decide +kernel
theorem d_X4_append_1 : decode prog_6_method_4_code 1 = .ok (.getfield 22, 3) := by decide +kernel
theorem d_X4_append_0 : decode prog_6_method_4_code 0 = .ok (.aload_n 0, 1) := by decide +kernel
theorem d_X4_append_4 : decode prog_6_method_4_code 4 = .ok (.ifCond .lt 13, 3) := by decide +kernel
theorem d_X4_append_11 : decode prog_6_method_4_code 11 = .ok (.sipush 269, 3) := by decide +kernel
theorem d_X4_append_8 : decode prog_6_method_4_code 8 = .ok (.getfield 22, 3) := by decide +kernel
theorem d_X4_append_14 : decode prog_6_method_4_code 14 = .ok (.if_icmp .lt 5, 3) := by decide +kernel
theorem d_X4_append_23 : decode prog_6_method_4_code 23 = .ok (.aload_n 0, 1) := by decide +kernel
theorem d_X4_append_19 : decode prog_6_method_4_code 19 = .ok (.aload_n 0, 1) := by decide +kernel
theorem d_X4_append_18 : decode prog_6_method_4_code 18 = .ok (.ireturn, 1) := by decide +kernel
theorem d_X4_append_20 : decode prog_6_method_4_code 20 = .ok (.getfield 9, 3) := by decide +kernel
theorem d_X4_append_27 : decode prog_6_method_4_code 27 = .ok (.iload_n 1, 1) := by decide +kernel
theorem d_X4_append_24 : decode prog_6_method_4_code 24 = .ok (.getfield 22, 3) := by decide +kernel
theorem d_X4_append_40 : decode prog_6_method_4_code 40 = .ok (.dup, 1) := by decide +kernel
theorem d_X4_append_34 : decode prog_6_method_4_code 34 = .ok (.getfield 22, 3) := by decide +kernel
theorem d_X4_append_30 : decode prog_6_method_4_code 30 = .ok (.getfield 13, 3) := by decide +kernel
theorem d_X4_append_29 : decode prog_6_method_4_code 29 = .ok (.aload_n 0, 1) := by decide +kernel
theorem d_X4_append_33 : decode prog_6_method_4_code 33 = .ok (.aload_n 0, 1) := by decide +kernel
theorem d_X4_append_38 : decode prog_6_method_4_code 38 = .ok (.iastore, 1) := by decide +kernel
theorem d_X4_append_37 : decode prog_6_method_4_code 37 = .ok (.iload_n 2, 1) := by decide +kernel
theorem d_X4_append_39 : decode prog_6_method_4_code 39 = .ok (.aload_n 0, 1) := by decide +kernel
theorem d_X4_append_46 : decode prog_6_method_4_code 46 = .ok (.putfield 22, 3) := by decide +kernel
theorem d_X4_append_44 : decode prog_6_method_4_code 44 = .ok (.iconst 1, 1) := by decide +kernel
theorem d_X4_append_41 : decode prog_6_method_4_code 41 = .ok (.getfield 22, 3) := by decide +kernel
theorem d_X4_append_45 : decode prog_6_method_4_code 45 = .ok (.iadd, 1) := by decide +kernel
theorem d_X4_append_50 : decode prog_6_method_4_code 50 = .ok (.ireturn, 1) := by decide +kernel
theorem d_X4_append_49 : decode prog_6_method_4_code 49 = .ok (.iconst 1, 1) := by decide +kernel
theorem d_X8_readBoth_33 : decode prog_10_method_14_code 33 = .ok (.getfield 22, 3) := by decide +kernel
theorem d_X8_readBoth_12 : decode prog_10_method_14_code 12 = .ok (.if_icmp .ge 57, 3) := by decide +kernel
theorem d_X8_readBoth_6 : decode prog_10_method_14_code 6 = .ok (.iconst 0, 1) := by decide +kernel
theorem d_X8_readBoth_2 : decode prog_10_method_14_code 2 = .ok (.invokevirtual 150, 3) := by decide +kernel
theorem d_X8_readBoth_1 : decode prog_10_method_14_code 1 = .ok (.iload_n 1, 1) := by decide +kernel
theorem d_X8_readBoth_0 : decode prog_10_method_14_code 0 = .ok (.aload_n 0, 1) := by decide +kernel
theorem d_X8_readBoth_5 : decode prog_10_method_14_code 5 = .ok (.istore_n 2, 1) := by decide +kernel
theorem d_X8_readBoth_8 : decode prog_10_method_14_code 8 = .ok (.iload_n 3, 1) := by decide +kernel
theorem d_X8_readBoth_7 : decode prog_10_method_14_code 7 = .ok (.istore_n 3, 1) := by decide +kernel
theorem d_X8_readBoth_9 : decode prog_10_method_14_code 9 = .ok (.sipush 1600, 3) := by decide +kernel
theorem d_X8_readBoth_23 : decode prog_10_method_14_code 23 = .ok (.getfield 50, 3) := by decide +kernel
theorem d_X8_readBoth_19 : decode prog_10_method_14_code 19 = .ok (.aload_n 0, 1) := by decide +kernel
theorem d_X8_readBoth_16 : decode prog_10_method_14_code 16 = .ok (.ifCond .eq 53, 3) := by decide +kernel
theorem d_X8_readBoth_15 : decode prog_10_method_14_code 15 = .ok (.iload_n 2, 1) := by decide +kernel
theorem d_X8_readBoth_20 : decode prog_10_method_14_code 20 = .ok (.getfield 22, 3) := by decide +kernel
theorem d_X8_readBoth_29 : decode prog_10_method_14_code 29 = .ok (.if_icmp .ne 40, 3) := by decide +kernel
theorem d_X8_readBoth_26 : decode prog_10_method_14_code 26 = .ok (.sipush 138, 3) := by decide +kernel
theorem d_X8_readBoth_32 : decode prog_10_method_14_code 32 = .ok (.aload_n 0, 1) := by decide +kernel
theorem d_X8_readBoth_54 : decode prog_10_method_14_code 54 = .ok (.ifCond .eq 7, 3) := by decide +kernel
theorem d_X8_readBoth_44 : decode prog_10_method_14_code 44 = .ok (.ifCond .eq 17, 3) := by decide +kernel
theorem d_X8_readBoth_40 : decode prog_10_method_14_code 40 = .ok (.iload_n 1, 1) := by decide +kernel
theorem d_X8_readBoth_39 : decode prog_10_method_14_code 39 = .ok (.aload_n 0, 1) := by decide +kernel
theorem d_X8_readBoth_36 : decode prog_10_method_14_code 36 = .ok (.invokevirtual 82, 3) := by decide +kernel
theorem d_X8_readBoth_41 : decode prog_10_method_14_code 41 = .ok (.invokevirtual 150, 3) := by decide +kernel
theorem d_X8_readBoth_48 : decode prog_10_method_14_code 48 = .ok (.sipush 138, 3) := by decide +kernel
theorem d_X8_readBoth_47 : decode prog_10_method_14_code 47 = .ok (.aload_n 0, 1) := by decide +kernel
theorem d_X8_readBoth_51 : decode prog_10_method_14_code 51 = .ok (.invokevirtual 147, 3) := by decide +kernel
theorem d_X8_readBoth_63 : decode prog_10_method_14_code 63 = .ok (.iinc 3 1, 3) := by decide +kernel
theorem d_X8_readBoth_61 : decode prog_10_method_14_code 61 = .ok (.iconst 0, 1) := by decide +kernel
theorem d_X8_readBoth_58 : decode prog_10_method_14_code 58 = .ok (.goto 4, 3) := by decide +kernel
theorem d_X8_readBoth_57 : decode prog_10_method_14_code 57 = .ok (.iconst 1, 1) := by decide +kernel
theorem d_X8_readBoth_62 : decode prog_10_method_14_code 62 = .ok (.istore_n 2, 1) := by decide +kernel
theorem d_X8_readBoth_69 : decode prog_10_method_14_code 69 = .ok (.iload_n 2, 1) := by decide +kernel
theorem d_X8_readBoth_66 : decode prog_10_method_14_code 66 = .ok (.goto (-58), 3) := by decide +kernel
theorem d_X8_readBoth_70 : decode prog_10_method_14_code 70 = .ok (.ireturn, 1) := by decide +kernel
theorem d_X8_readOne_63 : decode prog_10_method_15_code 63 = .ok (.istore_n 2, 1) := by decide +kernel
theorem d_X8_readOne_33 : decode prog_10_method_15_code 33 = .ok (.iload_n 1, 1) := by decide +kernel
theorem d_X8_readOne_19 : decode prog_10_method_15_code 19 = .ok (.aload_n 0, 1) := by decide +kernel
theorem d_X8_readOne_10 : decode prog_10_method_15_code 10 = .ok (.if_icmp .ne 48, 3) := by decide +kernel
theorem d_X8_readOne_4 : decode prog_10_method_15_code 4 = .ok (.getfield 50, 3) := by decide +kernel
theorem d_X8_readOne_1 : decode prog_10_method_15_code 1 = .ok (.getfield 22, 3) := by decide +kernel
theorem d_X8_readOne_0 : decode prog_10_method_15_code 0 = .ok (.aload_n 0, 1) := by decide +kernel
theorem d_X8_readOne_7 : decode prog_10_method_15_code 7 = .ok (.sipush 139, 3) := by decide +kernel
theorem d_X8_readOne_14 : decode prog_10_method_15_code 14 = .ok (.bipush 6, 2) := by decide +kernel
theorem d_X8_readOne_13 : decode prog_10_method_15_code 13 = .ok (.iload_n 1, 1) := by decide +kernel
theorem d_X8_readOne_16 : decode prog_10_method_15_code 16 = .ok (.if_icmp .le 9, 3) := by decide +kernel
theorem d_X8_readOne_25 : decode prog_10_method_15_code 25 = .ok (.aload_n 0, 1) := by decide +kernel
theorem d_X8_readOne_21 : decode prog_10_method_15_code 21 = .ok (.invokevirtual 69, 3) := by decide +kernel
theorem d_X8_readOne_20 : decode prog_10_method_15_code 20 = .ok (.iconst 2, 1) := by decide +kernel
theorem d_X8_readOne_24 : decode prog_10_method_15_code 24 = .ok (.ireturn, 1) := by decide +kernel
theorem d_X8_readOne_29 : decode prog_10_method_15_code 29 = .ok (.invokevirtual 82, 3) := by decide +kernel
theorem d_X8_readOne_26 : decode prog_10_method_15_code 26 = .ok (.getfield 22, 3) := by decide +kernel
theorem d_X8_readOne_32 : decode prog_10_method_15_code 32 = .ok (.aload_n 0, 1) := by decide +kernel
theorem d_X8_readOne_49 : decode prog_10_method_15_code 49 = .ok (.ifCond .eq 7, 3) := by decide +kernel
theorem d_X8_readOne_39 : decode prog_10_method_15_code 39 = .ok (.ifCond .eq 17, 3) := by decide +kernel
theorem d_X8_readOne_35 : decode prog_10_method_15_code 35 = .ok (.iadd, 1) := by decide +kernel
theorem d_X8_readOne_34 : decode prog_10_method_15_code 34 = .ok (.iconst 1, 1) := by decide +kernel
theorem d_X8_readOne_36 : decode prog_10_method_15_code 36 = .ok (.invokevirtual 150, 3) := by decide +kernel
theorem d_X8_readOne_43 : decode prog_10_method_15_code 43 = .ok (.sipush 139, 3) := by decide +kernel
theorem d_X8_readOne_42 : decode prog_10_method_15_code 42 = .ok (.aload_n 0, 1) := by decide +kernel
theorem d_X8_readOne_46 : decode prog_10_method_15_code 46 = .ok (.invokevirtual 147, 3) := by decide +kernel
theorem d_X8_readOne_57 : decode prog_10_method_15_code 57 = .ok (.ireturn, 1) := by decide +kernel
theorem d_X8_readOne_53 : decode prog_10_method_15_code 53 = .ok (.goto 4, 3) := by decide +kernel
theorem d_X8_readOne_52 : decode prog_10_method_15_code 52 = .ok (.iconst 1, 1) := by decide +kernel
theorem d_X8_readOne_56 : decode prog_10_method_15_code 56 = .ok (.iconst 0, 1) := by decide +kernel
theorem d_X8_readOne_59 : decode prog_10_method_15_code 59 = .ok (.iload_n 1, 1) := by decide +kernel
theorem d_X8_readOne_58 : decode prog_10_method_15_code 58 = .ok (.aload_n 0, 1) := by decide +kernel
theorem d_X8_readOne_60 : decode prog_10_method_15_code 60 = .ok (.invokevirtual 153, 3) := by decide +kernel
theorem d_X8_readOne_95 : decode prog_10_method_15_code 95 = .ok (.getfield 22, 3) := by decide +kernel
theorem d_X8_readOne_79 : decode prog_10_method_15_code 79 = .ok (.if_icmp .eq 15, 3) := by decide +kernel
theorem d_X8_readOne_72 : decode prog_10_method_15_code 72 = .ok (.iload_n 2, 1) := by decide +kernel
theorem d_X8_readOne_68 : decode prog_10_method_15_code 68 = .ok (.getfield 50, 3) := by decide +kernel
theorem d_X8_readOne_65 : decode prog_10_method_15_code 65 = .ok (.getfield 22, 3) := by decide +kernel
theorem d_X8_readOne_64 : decode prog_10_method_15_code 64 = .ok (.aload_n 0, 1) := by decide +kernel
theorem d_X8_readOne_71 : decode prog_10_method_15_code 71 = .ok (.istore_n 3, 1) := by decide +kernel
theorem d_X8_readOne_76 : decode prog_10_method_15_code 76 = .ok (.iload_n 3, 1) := by decide +kernel
theorem d_X8_readOne_73 : decode prog_10_method_15_code 73 = .ok (.ifCond .eq 50, 3) := by decide +kernel
theorem d_X8_readOne_77 : decode prog_10_method_15_code 77 = .ok (.bipush 60, 2) := by decide +kernel
theorem d_X8_readOne_88 : decode prog_10_method_15_code 88 = .ok (.iload_n 3, 1) := by decide +kernel
theorem d_X8_readOne_83 : decode prog_10_method_15_code 83 = .ok (.bipush 62, 2) := by decide +kernel
theorem d_X8_readOne_82 : decode prog_10_method_15_code 82 = .ok (.iload_n 3, 1) := by decide +kernel
theorem d_X8_readOne_85 : decode prog_10_method_15_code 85 = .ok (.if_icmp .eq 9, 3) := by decide +kernel
theorem d_X8_readOne_91 : decode prog_10_method_15_code 91 = .ok (.if_icmp .ne 32, 3) := by decide +kernel
theorem d_X8_readOne_89 : decode prog_10_method_15_code 89 = .ok (.bipush 61, 2) := by decide +kernel
theorem d_X8_readOne_94 : decode prog_10_method_15_code 94 = .ok (.aload_n 0, 1) := by decide +kernel
theorem d_X8_readOne_111 : decode prog_10_method_15_code 111 = .ok (.invokevirtual 147, 3) := by decide +kernel
theorem d_X8_readOne_103 : decode prog_10_method_15_code 103 = .ok (.invokevirtual 153, 3) := by decide +kernel
theorem d_X8_readOne_101 : decode prog_10_method_15_code 101 = .ok (.aload_n 0, 1) := by decide +kernel
theorem d_X8_readOne_98 : decode prog_10_method_15_code 98 = .ok (.invokevirtual 82, 3) := by decide +kernel
theorem d_X8_readOne_102 : decode prog_10_method_15_code 102 = .ok (.iload_n 1, 1) := by decide +kernel
theorem d_X8_readOne_109 : decode prog_10_method_15_code 109 = .ok (.aload_n 0, 1) := by decide +kernel
theorem d_X8_readOne_106 : decode prog_10_method_15_code 106 = .ok (.ifCond .eq 15, 3) := by decide +kernel
theorem d_X8_readOne_110 : decode prog_10_method_15_code 110 = .ok (.iload_n 3, 1) := by decide +kernel
theorem d_X8_readOne_121 : decode prog_10_method_15_code 121 = .ok (.iconst 0, 1) := by decide +kernel
theorem d_X8_readOne_117 : decode prog_10_method_15_code 117 = .ok (.iconst 1, 1) := by decide +kernel
theorem d_X8_readOne_114 : decode prog_10_method_15_code 114 = .ok (.ifCond .eq 7, 3) := by decide +kernel
theorem d_X8_readOne_118 : decode prog_10_method_15_code 118 = .ok (.goto 4, 3) := by decide +kernel
theorem d_X8_readOne_123 : decode prog_10_method_15_code 123 = .ok (.iload_n 2, 1) := by decide +kernel
theorem d_X8_readOne_122 : decode prog_10_method_15_code 122 = .ok (.istore_n 2, 1) := by decide +kernel
theorem d_X8_readOne_124 : decode prog_10_method_15_code 124 = .ok (.ireturn, 1) := by decide +kernel
theorem d_X8_readSum_39 : decode prog_10_method_16_code 39 = .ok (.if_icmp .eq 6, 3) := by decide +kernel
theorem d_X8_readSum_16 : decode prog_10_method_16_code 16 = .ok (.ifCond .eq 65, 3) := by decide +kernel
theorem d_X8_readSum_7 : decode prog_10_method_16_code 7 = .ok (.istore_n 3, 1) := by decide +kernel
theorem d_X8_readSum_2 : decode prog_10_method_16_code 2 = .ok (.invokevirtual 156, 3) := by decide +kernel
theorem d_X8_readSum_1 : decode prog_10_method_16_code 1 = .ok (.iload_n 1, 1) := by decide +kernel
theorem d_X8_readSum_0 : decode prog_10_method_16_code 0 = .ok (.aload_n 0, 1) := by decide +kernel
theorem d_X8_readSum_6 : decode prog_10_method_16_code 6 = .ok (.iconst 0, 1) := by decide +kernel
theorem d_X8_readSum_5 : decode prog_10_method_16_code 5 = .ok (.istore_n 2, 1) := by decide +kernel
theorem d_X8_readSum_12 : decode prog_10_method_16_code 12 = .ok (.if_icmp .ge 69, 3) := by decide +kernel
theorem d_X8_readSum_9 : decode prog_10_method_16_code 9 = .ok (.sipush 1600, 3) := by decide +kernel
theorem d_X8_readSum_8 : decode prog_10_method_16_code 8 = .ok (.iload_n 3, 1) := by decide +kernel
theorem d_X8_readSum_15 : decode prog_10_method_16_code 15 = .ok (.iload_n 2, 1) := by decide +kernel
theorem d_X8_readSum_28 : decode prog_10_method_16_code 28 = .ok (.iload 4, 2) := by decide +kernel
theorem d_X8_readSum_23 : decode prog_10_method_16_code 23 = .ok (.getfield 50, 3) := by decide +kernel
theorem d_X8_readSum_20 : decode prog_10_method_16_code 20 = .ok (.getfield 22, 3) := by decide +kernel
theorem d_X8_readSum_19 : decode prog_10_method_16_code 19 = .ok (.aload_n 0, 1) := by decide +kernel
theorem d_X8_readSum_26 : decode prog_10_method_16_code 26 = .ok (.istore 4, 2) := by decide +kernel
theorem d_X8_readSum_35 : decode prog_10_method_16_code 35 = .ok (.iload 4, 2) := by decide +kernel
theorem d_X8_readSum_32 : decode prog_10_method_16_code 32 = .ok (.if_icmp .eq 13, 3) := by decide +kernel
theorem d_X8_readSum_30 : decode prog_10_method_16_code 30 = .ok (.bipush 43, 2) := by decide +kernel
theorem d_X8_readSum_37 : decode prog_10_method_16_code 37 = .ok (.bipush 45, 2) := by decide +kernel
theorem d_X8_readSum_63 : decode prog_10_method_16_code 63 = .ok (.invokevirtual 147, 3) := by decide +kernel
theorem d_X8_readSum_53 : decode prog_10_method_16_code 53 = .ok (.iload_n 1, 1) := by decide +kernel
theorem d_X8_readSum_46 : decode prog_10_method_16_code 46 = .ok (.getfield 22, 3) := by decide +kernel
theorem d_X8_readSum_45 : decode prog_10_method_16_code 45 = .ok (.aload_n 0, 1) := by decide +kernel
theorem d_X8_readSum_42 : decode prog_10_method_16_code 42 = .ok (.goto 39, 3) := by decide +kernel
theorem d_X8_readSum_52 : decode prog_10_method_16_code 52 = .ok (.aload_n 0, 1) := by decide +kernel
theorem d_X8_readSum_49 : decode prog_10_method_16_code 49 = .ok (.invokevirtual 82, 3) := by decide +kernel
theorem d_X8_readSum_60 : decode prog_10_method_16_code 60 = .ok (.aload_n 0, 1) := by decide +kernel
theorem d_X8_readSum_57 : decode prog_10_method_16_code 57 = .ok (.ifCond .eq 16, 3) := by decide +kernel
theorem d_X8_readSum_54 : decode prog_10_method_16_code 54 = .ok (.invokevirtual 156, 3) := by decide +kernel
theorem d_X8_readSum_61 : decode prog_10_method_16_code 61 = .ok (.iload 4, 2) := by decide +kernel
theorem d_X8_readSum_74 : decode prog_10_method_16_code 74 = .ok (.istore_n 2, 1) := by decide +kernel
theorem d_X8_readSum_70 : decode prog_10_method_16_code 70 = .ok (.goto 4, 3) := by decide +kernel
theorem d_X8_readSum_69 : decode prog_10_method_16_code 69 = .ok (.iconst 1, 1) := by decide +kernel
theorem d_X8_readSum_66 : decode prog_10_method_16_code 66 = .ok (.ifCond .eq 7, 3) := by decide +kernel
theorem d_X8_readSum_73 : decode prog_10_method_16_code 73 = .ok (.iconst 0, 1) := by decide +kernel
theorem d_X8_readSum_81 : decode prog_10_method_16_code 81 = .ok (.iload_n 2, 1) := by decide +kernel
theorem d_X8_readSum_78 : decode prog_10_method_16_code 78 = .ok (.goto (-70), 3) := by decide +kernel
theorem d_X8_readSum_75 : decode prog_10_method_16_code 75 = .ok (.iinc 3 1, 3) := by decide +kernel
theorem d_X8_readSum_82 : decode prog_10_method_16_code 82 = .ok (.ireturn, 1) := by decide +kernel
theorem d_X8_readTerm_44 : decode prog_10_method_17_code 44 = .ok (.bipush 37, 2) := by decide +kernel
theorem d_X8_readTerm_19 : decode prog_10_method_17_code 19 = .ok (.aload_n 0, 1) := by decide +kernel
theorem d_X8_readTerm_7 : decode prog_10_method_17_code 7 = .ok (.istore_n 3, 1) := by decide +kernel
theorem d_X8_readTerm_2 : decode prog_10_method_17_code 2 = .ok (.invokevirtual 159, 3) := by decide +kernel
theorem d_X8_readTerm_1 : decode prog_10_method_17_code 1 = .ok (.iload_n 1, 1) := by decide +kernel
theorem d_X8_readTerm_0 : decode prog_10_method_17_code 0 = .ok (.aload_n 0, 1) := by decide +kernel
theorem d_X8_readTerm_6 : decode prog_10_method_17_code 6 = .ok (.iconst 0, 1) := by decide +kernel
theorem d_X8_readTerm_5 : decode prog_10_method_17_code 5 = .ok (.istore_n 2, 1) := by decide +kernel
theorem d_X8_readTerm_12 : decode prog_10_method_17_code 12 = .ok (.if_icmp .ge 76, 3) := by decide +kernel
theorem d_X8_readTerm_9 : decode prog_10_method_17_code 9 = .ok (.sipush 1600, 3) := by decide +kernel
theorem d_X8_readTerm_8 : decode prog_10_method_17_code 8 = .ok (.iload_n 3, 1) := by decide +kernel
theorem d_X8_readTerm_16 : decode prog_10_method_17_code 16 = .ok (.ifCond .eq 72, 3) := by decide +kernel
theorem d_X8_readTerm_15 : decode prog_10_method_17_code 15 = .ok (.iload_n 2, 1) := by decide +kernel
theorem d_X8_readTerm_32 : decode prog_10_method_17_code 32 = .ok (.if_icmp .eq 20, 3) := by decide +kernel
theorem d_X8_readTerm_26 : decode prog_10_method_17_code 26 = .ok (.istore 4, 2) := by decide +kernel
theorem d_X8_readTerm_23 : decode prog_10_method_17_code 23 = .ok (.getfield 50, 3) := by decide +kernel
theorem d_X8_readTerm_20 : decode prog_10_method_17_code 20 = .ok (.getfield 22, 3) := by decide +kernel
theorem d_X8_readTerm_30 : decode prog_10_method_17_code 30 = .ok (.bipush 42, 2) := by decide +kernel
theorem d_X8_readTerm_28 : decode prog_10_method_17_code 28 = .ok (.iload 4, 2) := by decide +kernel
theorem d_X8_readTerm_39 : decode prog_10_method_17_code 39 = .ok (.if_icmp .eq 13, 3) := by decide +kernel
theorem d_X8_readTerm_37 : decode prog_10_method_17_code 37 = .ok (.bipush 47, 2) := by decide +kernel
theorem d_X8_readTerm_35 : decode prog_10_method_17_code 35 = .ok (.iload 4, 2) := by decide +kernel
theorem d_X8_readTerm_42 : decode prog_10_method_17_code 42 = .ok (.iload 4, 2) := by decide +kernel
theorem d_X8_readTerm_68 : decode prog_10_method_17_code 68 = .ok (.iload 4, 2) := by decide +kernel
theorem d_X8_readTerm_59 : decode prog_10_method_17_code 59 = .ok (.aload_n 0, 1) := by decide +kernel
theorem d_X8_readTerm_52 : decode prog_10_method_17_code 52 = .ok (.aload_n 0, 1) := by decide +kernel
theorem d_X8_readTerm_49 : decode prog_10_method_17_code 49 = .ok (.goto 39, 3) := by decide +kernel
theorem d_X8_readTerm_46 : decode prog_10_method_17_code 46 = .ok (.if_icmp .eq 6, 3) := by decide +kernel
theorem d_X8_readTerm_56 : decode prog_10_method_17_code 56 = .ok (.invokevirtual 82, 3) := by decide +kernel
theorem d_X8_readTerm_53 : decode prog_10_method_17_code 53 = .ok (.getfield 22, 3) := by decide +kernel
theorem d_X8_readTerm_64 : decode prog_10_method_17_code 64 = .ok (.ifCond .eq 16, 3) := by decide +kernel
theorem d_X8_readTerm_61 : decode prog_10_method_17_code 61 = .ok (.invokevirtual 159, 3) := by decide +kernel
theorem d_X8_readTerm_60 : decode prog_10_method_17_code 60 = .ok (.iload_n 1, 1) := by decide +kernel
theorem d_X8_readTerm_67 : decode prog_10_method_17_code 67 = .ok (.aload_n 0, 1) := by decide +kernel
theorem d_X8_readTerm_81 : decode prog_10_method_17_code 81 = .ok (.istore_n 2, 1) := by decide +kernel
theorem d_X8_readTerm_76 : decode prog_10_method_17_code 76 = .ok (.iconst 1, 1) := by decide +kernel
theorem d_X8_readTerm_73 : decode prog_10_method_17_code 73 = .ok (.ifCond .eq 7, 3) := by decide +kernel
theorem d_X8_readTerm_70 : decode prog_10_method_17_code 70 = .ok (.invokevirtual 147, 3) := by decide +kernel
theorem d_X8_readTerm_80 : decode prog_10_method_17_code 80 = .ok (.iconst 0, 1) := by decide +kernel
theorem d_X8_readTerm_77 : decode prog_10_method_17_code 77 = .ok (.goto 4, 3) := by decide +kernel
theorem d_X8_readTerm_88 : decode prog_10_method_17_code 88 = .ok (.iload_n 2, 1) := by decide +kernel
theorem d_X8_readTerm_85 : decode prog_10_method_17_code 85 = .ok (.goto (-77), 3) := by decide +kernel
theorem d_X8_readTerm_82 : decode prog_10_method_17_code 82 = .ok (.iinc 3 1, 3) := by decide +kernel
theorem d_X8_readTerm_89 : decode prog_10_method_17_code 89 = .ok (.ireturn, 1) := by decide +kernel
theorem d_X8_readUnit_83 : decode prog_10_method_18_code 83 = .ok (.bipush 30, 2) := by decide +kernel
theorem d_X8_readUnit_38 : decode prog_10_method_18_code 38 = .ok (.goto 4, 3) := by decide +kernel
theorem d_X8_readUnit_22 : decode prog_10_method_18_code 22 = .ok (.iconst 1, 1) := by decide +kernel
theorem d_X8_readUnit_9 : decode prog_10_method_18_code 9 = .ok (.sipush 140, 3) := by decide +kernel
theorem d_X8_readUnit_4 : decode prog_10_method_18_code 4 = .ok (.getfield 50, 3) := by decide +kernel
theorem d_X8_readUnit_1 : decode prog_10_method_18_code 1 = .ok (.getfield 22, 3) := by decide +kernel
theorem d_X8_readUnit_0 : decode prog_10_method_18_code 0 = .ok (.aload_n 0, 1) := by decide +kernel
theorem d_X8_readUnit_8 : decode prog_10_method_18_code 8 = .ok (.iload_n 2, 1) := by decide +kernel
theorem d_X8_readUnit_7 : decode prog_10_method_18_code 7 = .ok (.istore_n 2, 1) := by decide +kernel
theorem d_X8_readUnit_16 : decode prog_10_method_18_code 16 = .ok (.sipush 145, 3) := by decide +kernel
theorem d_X8_readUnit_15 : decode prog_10_method_18_code 15 = .ok (.iload_n 2, 1) := by decide +kernel
theorem d_X8_readUnit_12 : decode prog_10_method_18_code 12 = .ok (.if_icmp .lt 14, 3) := by decide +kernel
theorem d_X8_readUnit_19 : decode prog_10_method_18_code 19 = .ok (.if_icmp .gt 7, 3) := by decide +kernel
theorem d_X8_readUnit_29 : decode prog_10_method_18_code 29 = .ok (.iconst 3, 1) := by decide +kernel
theorem d_X8_readUnit_27 : decode prog_10_method_18_code 27 = .ok (.istore_n 3, 1) := by decide +kernel
theorem d_X8_readUnit_26 : decode prog_10_method_18_code 26 = .ok (.iconst 0, 1) := by decide +kernel
theorem d_X8_readUnit_23 : decode prog_10_method_18_code 23 = .ok (.goto 4, 3) := by decide +kernel
theorem d_X8_readUnit_28 : decode prog_10_method_18_code 28 = .ok (.iload_n 2, 1) := by decide +kernel
theorem d_X8_readUnit_34 : decode prog_10_method_18_code 34 = .ok (.ifCond .eq 7, 3) := by decide +kernel
theorem d_X8_readUnit_33 : decode prog_10_method_18_code 33 = .ok (.iload_n 3, 1) := by decide +kernel
theorem d_X8_readUnit_30 : decode prog_10_method_18_code 30 = .ok (.if_icmp .eq 7, 3) := by decide +kernel
theorem d_X8_readUnit_37 : decode prog_10_method_18_code 37 = .ok (.iconst 1, 1) := by decide +kernel
theorem d_X8_readUnit_60 : decode prog_10_method_18_code 60 = .ok (.iconst 0, 1) := by decide +kernel
theorem d_X8_readUnit_50 : decode prog_10_method_18_code 50 = .ok (.iload_n 1, 1) := by decide +kernel
theorem d_X8_readUnit_44 : decode prog_10_method_18_code 44 = .ok (.iload_n 2, 1) := by decide +kernel
theorem d_X8_readUnit_42 : decode prog_10_method_18_code 42 = .ok (.istore 4, 2) := by decide +kernel
theorem d_X8_readUnit_41 : decode prog_10_method_18_code 41 = .ok (.iconst 0, 1) := by decide +kernel
theorem d_X8_readUnit_47 : decode prog_10_method_18_code 47 = .ok (.if_icmp .ne 13, 3) := by decide +kernel
theorem d_X8_readUnit_45 : decode prog_10_method_18_code 45 = .ok (.bipush 40, 2) := by decide +kernel
theorem d_X8_readUnit_56 : decode prog_10_method_18_code 56 = .ok (.iconst 1, 1) := by decide +kernel
theorem d_X8_readUnit_53 : decode prog_10_method_18_code 53 = .ok (.if_icmp .gt 7, 3) := by decide +kernel
theorem d_X8_readUnit_51 : decode prog_10_method_18_code 51 = .ok (.bipush 6, 2) := by decide +kernel
theorem d_X8_readUnit_57 : decode prog_10_method_18_code 57 = .ok (.goto 4, 3) := by decide +kernel
theorem d_X8_readUnit_70 : decode prog_10_method_18_code 70 = .ok (.ifCond .eq 18, 3) := by decide +kernel
theorem d_X8_readUnit_65 : decode prog_10_method_18_code 65 = .ok (.ifCond .ne 8, 3) := by decide +kernel
theorem d_X8_readUnit_63 : decode prog_10_method_18_code 63 = .ok (.iload 4, 2) := by decide +kernel
theorem d_X8_readUnit_61 : decode prog_10_method_18_code 61 = .ok (.istore 5, 2) := by decide +kernel
theorem d_X8_readUnit_68 : decode prog_10_method_18_code 68 = .ok (.iload 5, 2) := by decide +kernel
theorem d_X8_readUnit_77 : decode prog_10_method_18_code 77 = .ok (.getfield 115, 3) := by decide +kernel
theorem d_X8_readUnit_74 : decode prog_10_method_18_code 74 = .ok (.getfield 26, 3) := by decide +kernel
theorem d_X8_readUnit_73 : decode prog_10_method_18_code 73 = .ok (.aload_n 0, 1) := by decide +kernel
theorem d_X8_readUnit_80 : decode prog_10_method_18_code 80 = .ok (.getfield 162, 3) := by decide +kernel
theorem d_X8_readUnit_124 : decode prog_10_method_18_code 124 = .ok (.ireturn, 1) := by decide +kernel
theorem d_X8_readUnit_105 : decode prog_10_method_18_code 105 = .ok (.iconst 1, 1) := by decide +kernel
theorem d_X8_readUnit_94 : decode prog_10_method_18_code 94 = .ok (.aload_n 0, 1) := by decide +kernel
theorem d_X8_readUnit_89 : decode prog_10_method_18_code 89 = .ok (.iconst 2, 1) := by decide +kernel
theorem d_X8_readUnit_88 : decode prog_10_method_18_code 88 = .ok (.aload_n 0, 1) := by decide +kernel
theorem d_X8_readUnit_85 : decode prog_10_method_18_code 85 = .ok (.if_icmp .lt 9, 3) := by decide +kernel
theorem d_X8_readUnit_93 : decode prog_10_method_18_code 93 = .ok (.ireturn, 1) := by decide +kernel
theorem d_X8_readUnit_90 : decode prog_10_method_18_code 90 = .ok (.invokevirtual 69, 3) := by decide +kernel
theorem d_X8_readUnit_101 : decode prog_10_method_18_code 101 = .ok (.dup, 1) := by decide +kernel
theorem d_X8_readUnit_98 : decode prog_10_method_18_code 98 = .ok (.getfield 115, 3) := by decide +kernel
theorem d_X8_readUnit_95 : decode prog_10_method_18_code 95 = .ok (.getfield 26, 3) := by decide +kernel
theorem d_X8_readUnit_102 : decode prog_10_method_18_code 102 = .ok (.getfield 162, 3) := by decide +kernel
theorem d_X8_readUnit_115 : decode prog_10_method_18_code 115 = .ok (.aload_n 0, 1) := by decide +kernel
theorem d_X8_readUnit_110 : decode prog_10_method_18_code 110 = .ok (.iload 4, 2) := by decide +kernel
theorem d_X8_readUnit_107 : decode prog_10_method_18_code 107 = .ok (.putfield 162, 3) := by decide +kernel
theorem d_X8_readUnit_106 : decode prog_10_method_18_code 106 = .ok (.iadd, 1) := by decide +kernel
theorem d_X8_readUnit_112 : decode prog_10_method_18_code 112 = .ok (.ifCond .eq 13, 3) := by decide +kernel
theorem d_X8_readUnit_120 : decode prog_10_method_18_code 120 = .ok (.ifCond .ne 5, 3) := by decide +kernel
theorem d_X8_readUnit_117 : decode prog_10_method_18_code 117 = .ok (.invokevirtual 147, 3) := by decide +kernel
theorem d_X8_readUnit_116 : decode prog_10_method_18_code 116 = .ok (.iload_n 2, 1) := by decide +kernel
theorem d_X8_readUnit_123 : decode prog_10_method_18_code 123 = .ok (.iconst 0, 1) := by decide +kernel
theorem d_X8_readUnit_141 : decode prog_10_method_18_code 141 = .ok (.invokevirtual 124, 3) := by decide +kernel
theorem d_X8_readUnit_134 : decode prog_10_method_18_code 134 = .ok (.ifCond .ne 22, 3) := by decide +kernel
theorem d_X8_readUnit_129 : decode prog_10_method_18_code 129 = .ok (.invokevirtual 82, 3) := by decide +kernel
theorem d_X8_readUnit_126 : decode prog_10_method_18_code 126 = .ok (.getfield 22, 3) := by decide +kernel
theorem d_X8_readUnit_125 : decode prog_10_method_18_code 125 = .ok (.aload_n 0, 1) := by decide +kernel
theorem d_X8_readUnit_132 : decode prog_10_method_18_code 132 = .ok (.iload 4, 2) := by decide +kernel
theorem d_X8_readUnit_139 : decode prog_10_method_18_code 139 = .ok (.iconst 1, 1) := by decide +kernel
theorem d_X8_readUnit_138 : decode prog_10_method_18_code 138 = .ok (.iload_n 1, 1) := by decide +kernel
theorem d_X8_readUnit_137 : decode prog_10_method_18_code 137 = .ok (.aload_n 0, 1) := by decide +kernel
theorem d_X8_readUnit_140 : decode prog_10_method_18_code 140 = .ok (.iadd, 1) := by decide +kernel
theorem d_X8_readUnit_153 : decode prog_10_method_18_code 153 = .ok (.ifCond .eq 7, 3) := by decide +kernel
theorem d_X8_readUnit_148 : decode prog_10_method_18_code 148 = .ok (.bipush 41, 2) := by decide +kernel
theorem d_X8_readUnit_147 : decode prog_10_method_18_code 147 = .ok (.aload_n 0, 1) := by decide +kernel
theorem d_X8_readUnit_144 : decode prog_10_method_18_code 144 = .ok (.ifCond .eq 16, 3) := by decide +kernel
theorem d_X8_readUnit_150 : decode prog_10_method_18_code 150 = .ok (.invokevirtual 73, 3) := by decide +kernel
theorem d_X8_readUnit_160 : decode prog_10_method_18_code 160 = .ok (.iconst 0, 1) := by decide +kernel
theorem d_X8_readUnit_157 : decode prog_10_method_18_code 157 = .ok (.goto 4, 3) := by decide +kernel
theorem d_X8_readUnit_156 : decode prog_10_method_18_code 156 = .ok (.iconst 1, 1) := by decide +kernel
theorem d_X8_readUnit_161 : decode prog_10_method_18_code 161 = .ok (.ireturn, 1) := by decide +kernel
theorem d_X8_readBill_80 : decode prog_10_method_5_code 80 = .ok (.ifCond .ne 5, 3) := by decide +kernel
theorem d_X8_readBill_39 : decode prog_10_method_5_code 39 = .ok (.ifCond .eq 16, 3) := by decide +kernel
theorem d_X8_readBill_18 : decode prog_10_method_5_code 18 = .ok (.iconst 2, 1) := by decide +kernel
theorem d_X8_readBill_9 : decode prog_10_method_5_code 9 = .ok (.ifCond .lt 8, 3) := by decide +kernel
theorem d_X8_readBill_4 : decode prog_10_method_5_code 4 = .ok (.getfield 103, 3) := by decide +kernel
theorem d_X8_readBill_1 : decode prog_10_method_5_code 1 = .ok (.getfield 26, 3) := by decide +kernel
theorem d_X8_readBill_0 : decode prog_10_method_5_code 0 = .ok (.aload_n 0, 1) := by decide +kernel
theorem d_X8_readBill_8 : decode prog_10_method_5_code 8 = .ok (.iload_n 1, 1) := by decide +kernel
theorem d_X8_readBill_7 : decode prog_10_method_5_code 7 = .ok (.istore_n 1, 1) := by decide +kernel
theorem d_X8_readBill_14 : decode prog_10_method_5_code 14 = .ok (.if_icmp .lt 9, 3) := by decide +kernel
theorem d_X8_readBill_13 : decode prog_10_method_5_code 13 = .ok (.iconst 5, 1) := by decide +kernel
theorem d_X8_readBill_12 : decode prog_10_method_5_code 12 = .ok (.iload_n 1, 1) := by decide +kernel
theorem d_X8_readBill_17 : decode prog_10_method_5_code 17 = .ok (.aload_n 0, 1) := by decide +kernel
theorem d_X8_readBill_30 : decode prog_10_method_5_code 30 = .ok (.aload_n 0, 1) := by decide +kernel
theorem d_X8_readBill_23 : decode prog_10_method_5_code 23 = .ok (.aload_n 0, 1) := by decide +kernel
theorem d_X8_readBill_22 : decode prog_10_method_5_code 22 = .ok (.ireturn, 1) := by decide +kernel
theorem d_X8_readBill_19 : decode prog_10_method_5_code 19 = .ok (.invokevirtual 69, 3) := by decide +kernel
theorem d_X8_readBill_27 : decode prog_10_method_5_code 27 = .ok (.invokevirtual 82, 3) := by decide +kernel
theorem d_X8_readBill_24 : decode prog_10_method_5_code 24 = .ok (.getfield 22, 3) := by decide +kernel
theorem d_X8_readBill_35 : decode prog_10_method_5_code 35 = .ok (.iload_n 1, 1) := by decide +kernel
theorem d_X8_readBill_32 : decode prog_10_method_5_code 32 = .ok (.getfield 15, 3) := by decide +kernel
theorem d_X8_readBill_31 : decode prog_10_method_5_code 31 = .ok (.aload_n 0, 1) := by decide +kernel
theorem d_X8_readBill_36 : decode prog_10_method_5_code 36 = .ok (.invokevirtual 85, 3) := by decide +kernel
theorem d_X8_readBill_61 : decode prog_10_method_5_code 61 = .ok (.getfield 106, 3) := by decide +kernel
theorem d_X8_readBill_52 : decode prog_10_method_5_code 52 = .ok (.ifCond .ne 5, 3) := by decide +kernel
theorem d_X8_readBill_46 : decode prog_10_method_5_code 46 = .ok (.iconst 1, 1) := by decide +kernel
theorem d_X8_readBill_43 : decode prog_10_method_5_code 43 = .ok (.sipush 132, 3) := by decide +kernel
theorem d_X8_readBill_42 : decode prog_10_method_5_code 42 = .ok (.aload_n 0, 1) := by decide +kernel
theorem d_X8_readBill_49 : decode prog_10_method_5_code 49 = .ok (.invokevirtual 89, 3) := by decide +kernel
theorem d_X8_readBill_47 : decode prog_10_method_5_code 47 = .ok (.bipush 99, 2) := by decide +kernel
theorem d_X8_readBill_57 : decode prog_10_method_5_code 57 = .ok (.aload_n 0, 1) := by decide +kernel
theorem d_X8_readBill_56 : decode prog_10_method_5_code 56 = .ok (.ireturn, 1) := by decide +kernel
theorem d_X8_readBill_55 : decode prog_10_method_5_code 55 = .ok (.iconst 0, 1) := by decide +kernel
theorem d_X8_readBill_58 : decode prog_10_method_5_code 58 = .ok (.getfield 26, 3) := by decide +kernel
theorem d_X8_readBill_70 : decode prog_10_method_5_code 70 = .ok (.aload_n 0, 1) := by decide +kernel
theorem d_X8_readBill_66 : decode prog_10_method_5_code 66 = .ok (.getfield 97, 3) := by decide +kernel
theorem d_X8_readBill_65 : decode prog_10_method_5_code 65 = .ok (.aload_n 0, 1) := by decide +kernel
theorem d_X8_readBill_64 : decode prog_10_method_5_code 64 = .ok (.iload_n 1, 1) := by decide +kernel
theorem d_X8_readBill_69 : decode prog_10_method_5_code 69 = .ok (.iastore, 1) := by decide +kernel
theorem d_X8_readBill_75 : decode prog_10_method_5_code 75 = .ok (.bipush 60, 2) := by decide +kernel
theorem d_X8_readBill_74 : decode prog_10_method_5_code 74 = .ok (.iconst 1, 1) := by decide +kernel
theorem d_X8_readBill_71 : decode prog_10_method_5_code 71 = .ok (.sipush 133, 3) := by decide +kernel
theorem d_X8_readBill_77 : decode prog_10_method_5_code 77 = .ok (.invokevirtual 89, 3) := by decide +kernel
theorem d_X8_readBill_121 : decode prog_10_method_5_code 121 = .ok (.bipush 9, 2) := by decide +kernel
theorem d_X8_readBill_99 : decode prog_10_method_5_code 99 = .ok (.iconst 0, 1) := by decide +kernel
theorem d_X8_readBill_92 : decode prog_10_method_5_code 92 = .ok (.iload_n 1, 1) := by decide +kernel
theorem d_X8_readBill_85 : decode prog_10_method_5_code 85 = .ok (.aload_n 0, 1) := by decide +kernel
theorem d_X8_readBill_84 : decode prog_10_method_5_code 84 = .ok (.ireturn, 1) := by decide +kernel
theorem d_X8_readBill_83 : decode prog_10_method_5_code 83 = .ok (.iconst 0, 1) := by decide +kernel
theorem d_X8_readBill_89 : decode prog_10_method_5_code 89 = .ok (.getfield 109, 3) := by decide +kernel
theorem d_X8_readBill_86 : decode prog_10_method_5_code 86 = .ok (.getfield 26, 3) := by decide +kernel
theorem d_X8_readBill_97 : decode prog_10_method_5_code 97 = .ok (.iastore, 1) := by decide +kernel
theorem d_X8_readBill_94 : decode prog_10_method_5_code 94 = .ok (.getfield 97, 3) := by decide +kernel
theorem d_X8_readBill_93 : decode prog_10_method_5_code 93 = .ok (.aload_n 0, 1) := by decide +kernel
theorem d_X8_readBill_98 : decode prog_10_method_5_code 98 = .ok (.aload_n 0, 1) := by decide +kernel
theorem d_X8_readBill_110 : decode prog_10_method_5_code 110 = .ok (.sipush 143, 3) := by decide +kernel
theorem d_X8_readBill_104 : decode prog_10_method_5_code 104 = .ok (.getfield 22, 3) := by decide +kernel
theorem d_X8_readBill_103 : decode prog_10_method_5_code 103 = .ok (.aload_n 0, 1) := by decide +kernel
theorem d_X8_readBill_100 : decode prog_10_method_5_code 100 = .ok (.putfield 97, 3) := by decide +kernel
theorem d_X8_readBill_107 : decode prog_10_method_5_code 107 = .ok (.getfield 50, 3) := by decide +kernel
theorem d_X8_readBill_117 : decode prog_10_method_5_code 117 = .ok (.sipush 143, 3) := by decide +kernel
theorem d_X8_readBill_116 : decode prog_10_method_5_code 116 = .ok (.aload_n 0, 1) := by decide +kernel
theorem d_X8_readBill_113 : decode prog_10_method_5_code 113 = .ok (.if_icmp .ne 18, 3) := by decide +kernel
theorem d_X8_readBill_120 : decode prog_10_method_5_code 120 = .ok (.iconst 0, 1) := by decide +kernel
theorem d_X8_readBill_143 : decode prog_10_method_5_code 143 = .ok (.iastore, 1) := by decide +kernel
theorem d_X8_readBill_132 : decode prog_10_method_5_code 132 = .ok (.getfield 26, 3) := by decide +kernel
theorem d_X8_readBill_129 : decode prog_10_method_5_code 129 = .ok (.iconst 0, 1) := by decide +kernel
theorem d_X8_readBill_126 : decode prog_10_method_5_code 126 = .ok (.ifCond .ne 5, 3) := by decide +kernel
theorem d_X8_readBill_123 : decode prog_10_method_5_code 123 = .ok (.invokevirtual 89, 3) := by decide +kernel
theorem d_X8_readBill_131 : decode prog_10_method_5_code 131 = .ok (.aload_n 0, 1) := by decide +kernel
theorem d_X8_readBill_130 : decode prog_10_method_5_code 130 = .ok (.ireturn, 1) := by decide +kernel
theorem d_X8_readBill_139 : decode prog_10_method_5_code 139 = .ok (.aload_n 0, 1) := by decide +kernel
theorem d_X8_readBill_138 : decode prog_10_method_5_code 138 = .ok (.iload_n 1, 1) := by decide +kernel
theorem d_X8_readBill_135 : decode prog_10_method_5_code 135 = .ok (.getfield 112, 3) := by decide +kernel
theorem d_X8_readBill_140 : decode prog_10_method_5_code 140 = .ok (.getfield 97, 3) := by decide +kernel
theorem d_X8_readBill_152 : decode prog_10_method_5_code 152 = .ok (.iconst 1, 1) := by decide +kernel
theorem d_X8_readBill_148 : decode prog_10_method_5_code 148 = .ok (.dup, 1) := by decide +kernel
theorem d_X8_readBill_145 : decode prog_10_method_5_code 145 = .ok (.getfield 26, 3) := by decide +kernel
theorem d_X8_readBill_144 : decode prog_10_method_5_code 144 = .ok (.aload_n 0, 1) := by decide +kernel
theorem d_X8_readBill_149 : decode prog_10_method_5_code 149 = .ok (.getfield 103, 3) := by decide +kernel
theorem d_X8_readBill_157 : decode prog_10_method_5_code 157 = .ok (.iconst 1, 1) := by decide +kernel
theorem d_X8_readBill_154 : decode prog_10_method_5_code 154 = .ok (.putfield 103, 3) := by decide +kernel
theorem d_X8_readBill_153 : decode prog_10_method_5_code 153 = .ok (.iadd, 1) := by decide +kernel
theorem d_X8_readBill_158 : decode prog_10_method_5_code 158 = .ok (.ireturn, 1) := by decide +kernel
theorem d_X8_readName_36 : decode prog_10_method_10_code 36 = .ok (.laload, 1) := by decide +kernel
theorem d_X8_readName_21 : decode prog_10_method_10_code 21 = .ok (.aload_n 0, 1) := by decide +kernel
theorem d_X8_readName_11 : decode prog_10_method_10_code 11 = .ok (.iload_n 2, 1) := by decide +kernel
theorem d_X8_readName_4 : decode prog_10_method_10_code 4 = .ok (.getfield 50, 3) := by decide +kernel
theorem d_X8_readName_1 : decode prog_10_method_10_code 1 = .ok (.getfield 22, 3) := by decide +kernel
theorem d_X8_readName_0 : decode prog_10_method_10_code 0 = .ok (.aload_n 0, 1) := by decide +kernel
theorem d_X8_readName_8 : decode prog_10_method_10_code 8 = .ok (.if_icmp .ne 13, 3) := by decide +kernel
theorem d_X8_readName_7 : decode prog_10_method_10_code 7 = .ok (.iconst 2, 1) := by decide +kernel
theorem d_X8_readName_16 : decode prog_10_method_10_code 16 = .ok (.aload_n 1, 1) := by decide +kernel
theorem d_X8_readName_15 : decode prog_10_method_10_code 15 = .ok (.iload_n 2, 1) := by decide +kernel
theorem d_X8_readName_12 : decode prog_10_method_10_code 12 = .ok (.ifCond .lt 9, 3) := by decide +kernel
theorem d_X8_readName_18 : decode prog_10_method_10_code 18 = .ok (.if_icmp .lt 9, 3) := by decide +kernel
theorem d_X8_readName_17 : decode prog_10_method_10_code 17 = .ok (.arraylength, 1) := by decide +kernel
theorem d_X8_readName_29 : decode prog_10_method_10_code 29 = .ok (.iload_n 3, 1) := by decide +kernel
theorem d_X8_readName_26 : decode prog_10_method_10_code 26 = .ok (.ireturn, 1) := by decide +kernel
theorem d_X8_readName_23 : decode prog_10_method_10_code 23 = .ok (.invokevirtual 69, 3) := by decide +kernel
theorem d_X8_readName_22 : decode prog_10_method_10_code 22 = .ok (.iconst 2, 1) := by decide +kernel
theorem d_X8_readName_28 : decode prog_10_method_10_code 28 = .ok (.istore_n 3, 1) := by decide +kernel
theorem d_X8_readName_27 : decode prog_10_method_10_code 27 = .ok (.iconst 0, 1) := by decide +kernel
theorem d_X8_readName_34 : decode prog_10_method_10_code 34 = .ok (.aload_n 1, 1) := by decide +kernel
theorem d_X8_readName_31 : decode prog_10_method_10_code 31 = .ok (.if_icmp .ge 29, 3) := by decide +kernel
theorem d_X8_readName_30 : decode prog_10_method_10_code 30 = .ok (.iload_n 2, 1) := by decide +kernel
theorem d_X8_readName_35 : decode prog_10_method_10_code 35 = .ok (.iload_n 3, 1) := by decide +kernel
theorem d_X8_readName_60 : decode prog_10_method_10_code 60 = .ok (.aload_n 1, 1) := by decide +kernel
theorem d_X8_readName_48 : decode prog_10_method_10_code 48 = .ok (.aload_n 0, 1) := by decide +kernel
theorem d_X8_readName_41 : decode prog_10_method_10_code 41 = .ok (.getfield 133, 3) := by decide +kernel
