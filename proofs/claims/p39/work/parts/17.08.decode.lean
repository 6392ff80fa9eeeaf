theorem d_X3_fillShaken_222 : decode prog_5_method_14_code 222 = .ok (.dup2, 1) := by decide +kernel
theorem d_X3_fillShaken_224 : decode prog_5_method_14_code 224 = .ok (.aload_n 0, 1) := by decide +kernel
theorem d_X3_fillShaken_244 : decode prog_5_method_14_code 244 = .ok (.lshl, 1) := by decide +kernel
theorem d_X3_fillShaken_236 : decode prog_5_method_14_code 236 = .ok (.invokevirtual 100, 3) := by decide +kernel
theorem d_X3_fillShaken_232 : decode prog_5_method_14_code 232 = .ok (.getfield 37, 3) := by decide +kernel
theorem d_X3_fillShaken_231 : decode prog_5_method_14_code 231 = .ok (.aload_n 0, 1) := by decide +kernel
theorem d_X3_fillShaken_228 : decode prog_5_method_14_code 228 = .ok (.getfield 158, 3) := by decide +kernel
theorem d_X3_fillShaken_235 : decode prog_5_method_14_code 235 = .ok (.iload_n 1, 1) := by decide +kernel
theorem d_X3_fillShaken_242 : decode prog_5_method_14_code 242 = .ok (.lconst 1, 1) := by decide +kernel
theorem d_X3_fillShaken_239 : decode prog_5_method_14_code 239 = .ok (.if_icmp .lt 9, 3) := by decide +kernel
theorem d_X3_fillShaken_243 : decode prog_5_method_14_code 243 = .ok (.iload_n 3, 1) := by decide +kernel
theorem d_X3_fillShaken_250 : decode prog_5_method_14_code 250 = .ok (.lastore, 1) := by decide +kernel
theorem d_X3_fillShaken_248 : decode prog_5_method_14_code 248 = .ok (.lconst 0, 1) := by decide +kernel
theorem d_X3_fillShaken_245 : decode prog_5_method_14_code 245 = .ok (.goto 4, 3) := by decide +kernel
theorem d_X3_fillShaken_249 : decode prog_5_method_14_code 249 = .ok (.lor, 1) := by decide +kernel
theorem d_X3_fillShaken_254 : decode prog_5_method_14_code 254 = .ok (.goto (-226), 3) := by decide +kernel
theorem d_X3_fillShaken_251 : decode prog_5_method_14_code 251 = .ok (.iinc 3 1, 3) := by decide +kernel
theorem d_X3_fillShaken_257 : decode prog_5_method_14_code 257 = .ok (.return_, 1) := by decide +kernel
theorem d_X3_clear_2 : decode prog_5_method_2_code 2 = .ok (.putfield 56, 3) := by decide +kernel
theorem d_X3_clear_1 : decode prog_5_method_2_code 1 = .ok (.iconst 0, 1) := by decide +kernel
theorem d_X3_clear_0 : decode prog_5_method_2_code 0 = .ok (.aload_n 0, 1) := by decide +kernel
theorem d_X3_clear_5 : decode prog_5_method_2_code 5 = .ok (.return_, 1) := by decide +kernel
theorem d_X12_spoil_19 : decode prog_14_method_93_code 19 = .ok (.iload_n 1, 1) := by decide +kernel
theorem d_X12_spoil_10 : decode prog_14_method_93_code 10 = .ok (.iconst 0, 1) := by decide +kernel
theorem d_X12_spoil_5 : decode prog_14_method_93_code 5 = .ok (.ifCond .ne 5, 3) := by decide +kernel
theorem d_X12_spoil_1 : decode prog_14_method_93_code 1 = .ok (.iload_n 1, 1) := by decide +kernel
theorem d_X12_spoil_0 : decode prog_14_method_93_code 0 = .ok (.aload_n 0, 1) := by decide +kernel
theorem d_X12_spoil_2 : decode prog_14_method_93_code 2 = .ok (.invokevirtual 398, 3) := by decide +kernel
theorem d_X12_spoil_9 : decode prog_14_method_93_code 9 = .ok (.ireturn, 1) := by decide +kernel
theorem d_X12_spoil_8 : decode prog_14_method_93_code 8 = .ok (.iconst (-1), 1) := by decide +kernel
theorem d_X12_spoil_13 : decode prog_14_method_93_code 13 = .ok (.bipush 20, 2) := by decide +kernel
theorem d_X12_spoil_12 : decode prog_14_method_93_code 12 = .ok (.iload_n 2, 1) := by decide +kernel
theorem d_X12_spoil_11 : decode prog_14_method_93_code 11 = .ok (.istore_n 2, 1) := by decide +kernel
theorem d_X12_spoil_18 : decode prog_14_method_93_code 18 = .ok (.aload_n 0, 1) := by decide +kernel
theorem d_X12_spoil_15 : decode prog_14_method_93_code 15 = .ok (.if_icmp .gt 25, 3) := by decide +kernel
theorem d_X12_spoil_32 : decode prog_14_method_93_code 32 = .ok (.iload_n 2, 1) := by decide +kernel
theorem d_X12_spoil_25 : decode prog_14_method_93_code 25 = .ok (.iload_n 1, 1) := by decide +kernel
theorem d_X12_spoil_21 : decode prog_14_method_93_code 21 = .ok (.invokevirtual 461, 3) := by decide +kernel
theorem d_X12_spoil_20 : decode prog_14_method_93_code 20 = .ok (.iload_n 2, 1) := by decide +kernel
theorem d_X12_spoil_24 : decode prog_14_method_93_code 24 = .ok (.aload_n 0, 1) := by decide +kernel
theorem d_X12_spoil_29 : decode prog_14_method_93_code 29 = .ok (.if_icmp .ge 5, 3) := by decide +kernel
theorem d_X12_spoil_26 : decode prog_14_method_93_code 26 = .ok (.invokevirtual 404, 3) := by decide +kernel
theorem d_X12_spoil_37 : decode prog_14_method_93_code 37 = .ok (.goto (-25), 3) := by decide +kernel
theorem d_X12_spoil_34 : decode prog_14_method_93_code 34 = .ok (.iinc 2 1, 3) := by decide +kernel
theorem d_X12_spoil_33 : decode prog_14_method_93_code 33 = .ok (.ireturn, 1) := by decide +kernel
theorem d_X12_spoil_41 : decode prog_14_method_93_code 41 = .ok (.ireturn, 1) := by decide +kernel
theorem d_X12_spoil_40 : decode prog_14_method_93_code 40 = .ok (.iconst (-1), 1) := by decide +kernel
theorem d_X11_spoil_4 : decode prog_1_method_29_code 4 = .ok (.iload_n 1, 1) := by decide +kernel
theorem d_X11_spoil_1 : decode prog_1_method_29_code 1 = .ok (.getfield 71, 3) := by decide +kernel
theorem d_X11_spoil_0 : decode prog_1_method_29_code 0 = .ok (.aload_n 0, 1) := by decide +kernel
theorem d_X11_spoil_8 : decode prog_1_method_29_code 8 = .ok (.ireturn, 1) := by decide +kernel
theorem d_X11_spoil_5 : decode prog_1_method_29_code 5 = .ok (.invokevirtual 295, 3) := by decide +kernel
theorem d_X1_shakesToSpoil_19 : decode prog_3_method_23_code 19 = .ok (.invokevirtual 118, 3) := by decide +kernel
theorem d_X1_shakesToSpoil_9 : decode prog_3_method_23_code 9 = .ok (.iload_n 1, 1) := by decide +kernel
theorem d_X1_shakesToSpoil_3 : decode prog_3_method_23_code 3 = .ok (.bipush 20, 2) := by decide +kernel
theorem d_X1_shakesToSpoil_1 : decode prog_3_method_23_code 1 = .ok (.istore_n 2, 1) := by decide +kernel
theorem d_X1_shakesToSpoil_0 : decode prog_3_method_23_code 0 = .ok (.iconst 0, 1) := by decide +kernel
theorem d_X1_shakesToSpoil_2 : decode prog_3_method_23_code 2 = .ok (.iload_n 2, 1) := by decide +kernel
theorem d_X1_shakesToSpoil_8 : decode prog_3_method_23_code 8 = .ok (.aload_n 0, 1) := by decide +kernel
theorem d_X1_shakesToSpoil_5 : decode prog_3_method_23_code 5 = .ok (.if_icmp .gt 36, 3) := by decide +kernel
theorem d_X1_shakesToSpoil_16 : decode prog_3_method_23_code 16 = .ok (.aload_n 0, 1) := by decide +kernel
theorem d_X1_shakesToSpoil_13 : decode prog_3_method_23_code 13 = .ok (.ifCond .eq 28, 3) := by decide +kernel
theorem d_X1_shakesToSpoil_10 : decode prog_3_method_23_code 10 = .ok (.invokevirtual 46, 3) := by decide +kernel
theorem d_X1_shakesToSpoil_18 : decode prog_3_method_23_code 18 = .ok (.iload_n 2, 1) := by decide +kernel
theorem d_X1_shakesToSpoil_17 : decode prog_3_method_23_code 17 = .ok (.iload_n 1, 1) := by decide +kernel
theorem d_X1_shakesToSpoil_33 : decode prog_3_method_23_code 33 = .ok (.iload_n 2, 1) := by decide +kernel
theorem d_X1_shakesToSpoil_26 : decode prog_3_method_23_code 26 = .ok (.iload_n 1, 1) := by decide +kernel
theorem d_X1_shakesToSpoil_23 : decode prog_3_method_23_code 23 = .ok (.getfield 9, 3) := by decide +kernel
theorem d_X1_shakesToSpoil_22 : decode prog_3_method_23_code 22 = .ok (.aload_n 0, 1) := by decide +kernel
theorem d_X1_shakesToSpoil_30 : decode prog_3_method_23_code 30 = .ok (.if_icmp .ge 5, 3) := by decide +kernel
theorem d_X1_shakesToSpoil_27 : decode prog_3_method_23_code 27 = .ok (.invokevirtual 101, 3) := by decide +kernel
theorem d_X1_shakesToSpoil_38 : decode prog_3_method_23_code 38 = .ok (.goto (-36), 3) := by decide +kernel
theorem d_X1_shakesToSpoil_35 : decode prog_3_method_23_code 35 = .ok (.iinc 2 1, 3) := by decide +kernel
theorem d_X1_shakesToSpoil_34 : decode prog_3_method_23_code 34 = .ok (.ireturn, 1) := by decide +kernel
theorem d_X1_shakesToSpoil_42 : decode prog_3_method_23_code 42 = .ok (.ireturn, 1) := by decide +kernel
theorem d_X1_shakesToSpoil_41 : decode prog_3_method_23_code 41 = .ok (.iconst (-1), 1) := by decide +kernel
theorem d_X12_queue_60 : decode prog_14_method_118_code 60 = .ok (.ifCond .ne 6, 3) := by decide +kernel
theorem d_X12_queue_28 : decode prog_14_method_118_code 28 = .ok (.invokestatic 449, 3) := by decide +kernel
theorem d_X12_queue_15 : decode prog_14_method_118_code 15 = .ok (.aload_n 0, 1) := by decide +kernel
theorem d_X12_queue_6 : decode prog_14_method_118_code 6 = .ok (.iload_n 1, 1) := by decide +kernel
theorem d_X12_queue_2 : decode prog_14_method_118_code 2 = .ok (.putfield 374, 3) := by decide +kernel
theorem d_X12_queue_1 : decode prog_14_method_118_code 1 = .ok (.iconst 0, 1) := by decide +kernel
theorem d_X12_queue_0 : decode prog_14_method_118_code 0 = .ok (.aload_n 0, 1) := by decide +kernel
theorem d_X12_queue_5 : decode prog_14_method_118_code 5 = .ok (.aload_n 0, 1) := by decide +kernel
theorem d_X12_queue_13 : decode prog_14_method_118_code 13 = .ok (.iconst (-1), 1) := by decide +kernel
theorem d_X12_queue_10 : decode prog_14_method_118_code 10 = .ok (.ifCond .ne 5, 3) := by decide +kernel
theorem d_X12_queue_7 : decode prog_14_method_118_code 7 = .ok (.invokevirtual 398, 3) := by decide +kernel
theorem d_X12_queue_14 : decode prog_14_method_118_code 14 = .ok (.ireturn, 1) := by decide +kernel
theorem d_X12_queue_24 : decode prog_14_method_118_code 24 = .ok (.iconst 5, 1) := by decide +kernel
theorem d_X12_queue_20 : decode prog_14_method_118_code 20 = .ok (.aload_n 0, 1) := by decide +kernel
theorem d_X12_queue_17 : decode prog_14_method_118_code 17 = .ok (.invokevirtual 347, 3) := by decide +kernel
theorem d_X12_queue_16 : decode prog_14_method_118_code 16 = .ok (.aload_n 0, 1) := by decide +kernel
theorem d_X12_queue_21 : decode prog_14_method_118_code 21 = .ok (.getfield 89, 3) := by decide +kernel
theorem d_X12_queue_26 : decode prog_14_method_118_code 26 = .ok (.iadd, 1) := by decide +kernel
theorem d_X12_queue_25 : decode prog_14_method_118_code 25 = .ok (.iload_n 1, 1) := by decide +kernel
theorem d_X12_queue_27 : decode prog_14_method_118_code 27 = .ok (.iaload, 1) := by decide +kernel
theorem d_X12_queue_41 : decode prog_14_method_118_code 41 = .ok (.invokevirtual 347, 3) := by decide +kernel
theorem d_X12_queue_37 : decode prog_14_method_118_code 37 = .ok (.iconst 0, 1) := by decide +kernel
theorem d_X12_queue_35 : decode prog_14_method_118_code 35 = .ok (.iconst (-1), 1) := by decide +kernel
theorem d_X12_queue_32 : decode prog_14_method_118_code 32 = .ok (.putfield 507, 3) := by decide +kernel
theorem d_X12_queue_31 : decode prog_14_method_118_code 31 = .ok (.isub, 1) := by decide +kernel
theorem d_X12_queue_36 : decode prog_14_method_118_code 36 = .ok (.istore_n 2, 1) := by decide +kernel
theorem d_X12_queue_39 : decode prog_14_method_118_code 39 = .ok (.iload_n 3, 1) := by decide +kernel
theorem d_X12_queue_38 : decode prog_14_method_118_code 38 = .ok (.istore_n 3, 1) := by decide +kernel
theorem d_X12_queue_40 : decode prog_14_method_118_code 40 = .ok (.aload_n 0, 1) := by decide +kernel
theorem d_X12_queue_54 : decode prog_14_method_118_code 54 = .ok (.aload_n 0, 1) := by decide +kernel
theorem d_X12_queue_48 : decode prog_14_method_118_code 48 = .ok (.invokestatic 476, 3) := by decide +kernel
theorem d_X12_queue_45 : decode prog_14_method_118_code 45 = .ok (.getfield 507, 3) := by decide +kernel
theorem d_X12_queue_44 : decode prog_14_method_118_code 44 = .ok (.aload_n 0, 1) := by decide +kernel
theorem d_X12_queue_51 : decode prog_14_method_118_code 51 = .ok (.if_icmp .ge 72, 3) := by decide +kernel
theorem d_X12_queue_56 : decode prog_14_method_118_code 56 = .ok (.iload_n 3, 1) := by decide +kernel
theorem d_X12_queue_55 : decode prog_14_method_118_code 55 = .ok (.iload_n 1, 1) := by decide +kernel
theorem d_X12_queue_57 : decode prog_14_method_118_code 57 = .ok (.invokevirtual 510, 3) := by decide +kernel
theorem d_X12_queue_97 : decode prog_14_method_118_code 97 = .ok (.aload_n 0, 1) := by decide +kernel
theorem d_X12_queue_79 : decode prog_14_method_118_code 79 = .ok (.goto 38, 3) := by decide +kernel
theorem d_X12_queue_71 : decode prog_14_method_118_code 71 = .ok (.istore 4, 2) := by decide +kernel
theorem d_X12_queue_67 : decode prog_14_method_118_code 67 = .ok (.iload_n 1, 1) := by decide +kernel
theorem d_X12_queue_66 : decode prog_14_method_118_code 66 = .ok (.aload_n 0, 1) := by decide +kernel
theorem d_X12_queue_63 : decode prog_14_method_118_code 63 = .ok (.goto 54, 3) := by decide +kernel
theorem d_X12_queue_68 : decode prog_14_method_118_code 68 = .ok (.invokevirtual 513, 3) := by decide +kernel
theorem d_X12_queue_75 : decode prog_14_method_118_code 75 = .ok (.iload_n 2, 1) := by decide +kernel
theorem d_X12_queue_73 : decode prog_14_method_118_code 73 = .ok (.iload 4, 2) := by decide +kernel
theorem d_X12_queue_76 : decode prog_14_method_118_code 76 = .ok (.if_icmp .gt 6, 3) := by decide +kernel
theorem d_X12_queue_88 : decode prog_14_method_118_code 88 = .ok (.iload 5, 2) := by decide +kernel
theorem d_X12_queue_85 : decode prog_14_method_118_code 85 = .ok (.iconst 0, 1) := by decide +kernel
theorem d_X12_queue_84 : decode prog_14_method_118_code 84 = .ok (.istore_n 2, 1) := by decide +kernel
theorem d_X12_queue_82 : decode prog_14_method_118_code 82 = .ok (.iload 4, 2) := by decide +kernel
theorem d_X12_queue_86 : decode prog_14_method_118_code 86 = .ok (.istore 5, 2) := by decide +kernel
theorem d_X12_queue_91 : decode prog_14_method_118_code 91 = .ok (.getfield 507, 3) := by decide +kernel
theorem d_X12_queue_90 : decode prog_14_method_118_code 90 = .ok (.aload_n 0, 1) := by decide +kernel
theorem d_X12_queue_94 : decode prog_14_method_118_code 94 = .ok (.if_icmp .ge 23, 3) := by decide +kernel
theorem d_X12_queue_114 : decode prog_14_method_118_code 114 = .ok (.goto (-26), 3) := by decide +kernel
theorem d_X12_queue_107 : decode prog_14_method_118_code 107 = .ok (.iload 5, 2) := by decide +kernel
theorem d_X12_queue_103 : decode prog_14_method_118_code 103 = .ok (.aload_n 0, 1) := by decide +kernel
theorem d_X12_queue_101 : decode prog_14_method_118_code 101 = .ok (.iload 5, 2) := by decide +kernel
theorem d_X12_queue_98 : decode prog_14_method_118_code 98 = .ok (.getfield 101, 3) := by decide +kernel
theorem d_X12_queue_104 : decode prog_14_method_118_code 104 = .ok (.getfield 104, 3) := by decide +kernel
theorem d_X12_queue_110 : decode prog_14_method_118_code 110 = .ok (.iastore, 1) := by decide +kernel
theorem d_X12_queue_109 : decode prog_14_method_118_code 109 = .ok (.iaload, 1) := by decide +kernel
theorem d_X12_queue_111 : decode prog_14_method_118_code 111 = .ok (.iinc 5 1, 3) := by decide +kernel
theorem d_X12_queue_125 : decode prog_14_method_118_code 125 = .ok (.getfield 507, 3) := by decide +kernel
theorem d_X12_queue_123 : decode prog_14_method_118_code 123 = .ok (.aload_n 0, 1) := by decide +kernel
theorem d_X12_queue_120 : decode prog_14_method_118_code 120 = .ok (.goto (-81), 3) := by decide +kernel
theorem d_X12_queue_117 : decode prog_14_method_118_code 117 = .ok (.iinc 3 1, 3) := by decide +kernel
theorem d_X12_queue_124 : decode prog_14_method_118_code 124 = .ok (.aload_n 0, 1) := by decide +kernel
theorem d_X12_queue_131 : decode prog_14_method_118_code 131 = .ok (.iload_n 2, 1) := by decide +kernel
theorem d_X12_queue_128 : decode prog_14_method_118_code 128 = .ok (.putfield 374, 3) := by decide +kernel
theorem d_X12_queue_132 : decode prog_14_method_118_code 132 = .ok (.ireturn, 1) := by decide +kernel
theorem d_X12_openedByQueue_28 : decode prog_14_method_117_code 28 = .ok (.iconst 1, 1) := by decide +kernel
theorem d_X12_openedByQueue_12 : decode prog_14_method_117_code 12 = .ok (.if_icmp .ge 38, 3) := by decide +kernel
theorem d_X12_openedByQueue_6 : decode prog_14_method_117_code 6 = .ok (.istore_n 2, 1) := by decide +kernel
theorem d_X12_openedByQueue_2 : decode prog_14_method_117_code 2 = .ok (.invokevirtual 392, 3) := by decide +kernel
theorem d_X12_openedByQueue_1 : decode prog_14_method_117_code 1 = .ok (.iload_n 1, 1) := by decide +kernel
theorem d_X12_openedByQueue_0 : decode prog_14_method_117_code 0 = .ok (.aload_n 0, 1) := by decide +kernel
theorem d_X12_openedByQueue_5 : decode prog_14_method_117_code 5 = .ok (.iconst 0, 1) := by decide +kernel
theorem d_X12_openedByQueue_8 : decode prog_14_method_117_code 8 = .ok (.aload_n 0, 1) := by decide +kernel
theorem d_X12_openedByQueue_7 : decode prog_14_method_117_code 7 = .ok (.iload_n 2, 1) := by decide +kernel
theorem d_X12_openedByQueue_9 : decode prog_14_method_117_code 9 = .ok (.getfield 507, 3) := by decide +kernel
theorem d_X12_openedByQueue_20 : decode prog_14_method_117_code 20 = .ok (.iload_n 1, 1) := by decide +kernel
theorem d_X12_openedByQueue_16 : decode prog_14_method_117_code 16 = .ok (.getfield 337, 3) := by decide +kernel
theorem d_X12_openedByQueue_15 : decode prog_14_method_117_code 15 = .ok (.aload_n 0, 1) := by decide +kernel
theorem d_X12_openedByQueue_19 : decode prog_14_method_117_code 19 = .ok (.aload_n 0, 1) := by decide +kernel
theorem d_X12_openedByQueue_24 : decode prog_14_method_117_code 24 = .ok (.if_icmp .ge 26, 3) := by decide +kernel
theorem d_X12_openedByQueue_21 : decode prog_14_method_117_code 21 = .ok (.invokevirtual 386, 3) := by decide +kernel
theorem d_X12_openedByQueue_27 : decode prog_14_method_117_code 27 = .ok (.aload_n 0, 1) := by decide +kernel
theorem d_X12_openedByQueue_40 : decode prog_14_method_117_code 40 = .ok (.iconst 1, 1) := by decide +kernel
theorem d_X12_openedByQueue_34 : decode prog_14_method_117_code 34 = .ok (.iaload, 1) := by decide +kernel
theorem d_X12_openedByQueue_30 : decode prog_14_method_117_code 30 = .ok (.getfield 104, 3) := by decide +kernel
theorem d_X12_openedByQueue_29 : decode prog_14_method_117_code 29 = .ok (.aload_n 0, 1) := by decide +kernel
theorem d_X12_openedByQueue_33 : decode prog_14_method_117_code 33 = .ok (.iload_n 2, 1) := by decide +kernel
theorem d_X12_openedByQueue_36 : decode prog_14_method_117_code 36 = .ok (.invokevirtual 407, 3) := by decide +kernel
theorem d_X12_openedByQueue_35 : decode prog_14_method_117_code 35 = .ok (.ishl, 1) := by decide +kernel
theorem d_X12_openedByQueue_39 : decode prog_14_method_117_code 39 = .ok (.aload_n 0, 1) := by decide +kernel
theorem d_X12_openedByQueue_50 : decode prog_14_method_117_code 50 = .ok (.aload_n 0, 1) := by decide +kernel
theorem d_X12_openedByQueue_44 : decode prog_14_method_117_code 44 = .ok (.iinc 2 1, 3) := by decide +kernel
theorem d_X12_openedByQueue_41 : decode prog_14_method_117_code 41 = .ok (.invokevirtual 389, 3) := by decide +kernel
theorem d_X12_openedByQueue_47 : decode prog_14_method_117_code 47 = .ok (.goto (-40), 3) := by decide +kernel
theorem d_X12_openedByQueue_52 : decode prog_14_method_117_code 52 = .ok (.invokevirtual 395, 3) := by decide +kernel
theorem d_X12_openedByQueue_51 : decode prog_14_method_117_code 51 = .ok (.iload_n 1, 1) := by decide +kernel
theorem d_X12_openedByQueue_55 : decode prog_14_method_117_code 55 = .ok (.ireturn, 1) := by decide +kernel
theorem d_X12_layQueue_42 : decode prog_14_method_116_code 42 = .ok (.iconst 5, 1) := by decide +kernel
theorem d_X12_layQueue_22 : decode prog_14_method_116_code 22 = .ok (.iload 5, 2) := by decide +kernel
theorem d_X12_layQueue_9 : decode prog_14_method_116_code 9 = .ok (.iconst 1, 1) := by decide +kernel
theorem d_X12_layQueue_3 : decode prog_14_method_116_code 3 = .ok (.istore 4, 2) := by decide +kernel
theorem d_X12_layQueue_1 : decode prog_14_method_116_code 1 = .ok (.istore_n 3, 1) := by decide +kernel
theorem d_X12_layQueue_0 : decode prog_14_method_116_code 0 = .ok (.iload_n 2, 1) := by decide +kernel
theorem d_X12_layQueue_2 : decode prog_14_method_116_code 2 = .ok (.iconst 0, 1) := by decide +kernel
theorem d_X12_layQueue_6 : decode prog_14_method_116_code 6 = .ok (.getfield 507, 3) := by decide +kernel
theorem d_X12_layQueue_5 : decode prog_14_method_116_code 5 = .ok (.aload_n 0, 1) := by decide +kernel
theorem d_X12_layQueue_15 : decode prog_14_method_116_code 15 = .ok (.ifCond .lt 69, 3) := by decide +kernel
theorem d_X12_layQueue_11 : decode prog_14_method_116_code 11 = .ok (.istore 5, 2) := by decide +kernel
theorem d_X12_layQueue_10 : decode prog_14_method_116_code 10 = .ok (.isub, 1) := by decide +kernel
theorem d_X12_layQueue_13 : decode prog_14_method_116_code 13 = .ok (.iload 5, 2) := by decide +kernel
theorem d_X12_layQueue_19 : decode prog_14_method_116_code 19 = .ok (.getfield 104, 3) := by decide +kernel
theorem d_X12_layQueue_18 : decode prog_14_method_116_code 18 = .ok (.aload_n 0, 1) := by decide +kernel
theorem d_X12_layQueue_32 : decode prog_14_method_116_code 32 = .ok (.aload_n 0, 1) := by decide +kernel
theorem d_X12_layQueue_29 : decode prog_14_method_116_code 29 = .ok (.irem, 1) := by decide +kernel
theorem d_X12_layQueue_25 : decode prog_14_method_116_code 25 = .ok (.aload_n 0, 1) := by decide +kernel
theorem d_X12_layQueue_24 : decode prog_14_method_116_code 24 = .ok (.iload_n 3, 1) := by decide +kernel
theorem d_X12_layQueue_26 : decode prog_14_method_116_code 26 = .ok (.invokevirtual 347, 3) := by decide +kernel
theorem d_X12_layQueue_31 : decode prog_14_method_116_code 31 = .ok (.iload_n 3, 1) := by decide +kernel
theorem d_X12_layQueue_30 : decode prog_14_method_116_code 30 = .ok (.iastore, 1) := by decide +kernel
theorem d_X12_layQueue_37 : decode prog_14_method_116_code 37 = .ok (.istore_n 3, 1) := by decide +kernel
theorem d_X12_layQueue_36 : decode prog_14_method_116_code 36 = .ok (.idiv, 1) := by decide +kernel
theorem d_X12_layQueue_33 : decode prog_14_method_116_code 33 = .ok (.invokevirtual 347, 3) := by decide +kernel
theorem d_X12_layQueue_39 : decode prog_14_method_116_code 39 = .ok (.getfield 89, 3) := by decide +kernel
theorem d_X12_layQueue_38 : decode prog_14_method_116_code 38 = .ok (.aload_n 0, 1) := by decide +kernel
theorem d_X12_layQueue_64 : decode prog_14_method_116_code 64 = .ok (.iload 4, 2) := by decide +kernel
theorem d_X12_layQueue_50 : decode prog_14_method_116_code 50 = .ok (.getfield 104, 3) := by decide +kernel
theorem d_X12_layQueue_46 : decode prog_14_method_116_code 46 = .ok (.iload 4, 2) := by decide +kernel
theorem d_X12_layQueue_44 : decode prog_14_method_116_code 44 = .ok (.iadd, 1) := by decide +kernel
theorem d_X12_layQueue_43 : decode prog_14_method_116_code 43 = .ok (.iload_n 1, 1) := by decide +kernel
theorem d_X12_layQueue_45 : decode prog_14_method_116_code 45 = .ok (.iaload, 1) := by decide +kernel
theorem d_X12_layQueue_49 : decode prog_14_method_116_code 49 = .ok (.aload_n 0, 1) := by decide +kernel
theorem d_X12_layQueue_48 : decode prog_14_method_116_code 48 = .ok (.ior, 1) := by decide +kernel
theorem d_X12_layQueue_59 : decode prog_14_method_116_code 59 = .ok (.ifCond .eq 5, 3) := by decide +kernel
theorem d_X12_layQueue_55 : decode prog_14_method_116_code 55 = .ok (.iaload, 1) := by decide +kernel
theorem d_X12_layQueue_53 : decode prog_14_method_116_code 53 = .ok (.iload 5, 2) := by decide +kernel
theorem d_X12_layQueue_56 : decode prog_14_method_116_code 56 = .ok (.invokestatic 357, 3) := by decide +kernel
theorem d_X12_layQueue_63 : decode prog_14_method_116_code 63 = .ok (.ireturn, 1) := by decide +kernel
theorem d_X12_layQueue_62 : decode prog_14_method_116_code 62 = .ok (.iconst 0, 1) := by decide +kernel
theorem d_X12_layQueue_75 : decode prog_14_method_116_code 75 = .ok (.ior, 1) := by decide +kernel
theorem d_X12_layQueue_71 : decode prog_14_method_116_code 71 = .ok (.iload 5, 2) := by decide +kernel
theorem d_X12_layQueue_67 : decode prog_14_method_116_code 67 = .ok (.aload_n 0, 1) := by decide +kernel
theorem d_X12_layQueue_66 : decode prog_14_method_116_code 66 = .ok (.iconst 1, 1) := by decide +kernel
theorem d_X12_layQueue_68 : decode prog_14_method_116_code 68 = .ok (.getfield 104, 3) := by decide +kernel
theorem d_X12_layQueue_74 : decode prog_14_method_116_code 74 = .ok (.ishl, 1) := by decide +kernel
theorem d_X12_layQueue_73 : decode prog_14_method_116_code 73 = .ok (.iaload, 1) := by decide +kernel
theorem d_X12_layQueue_81 : decode prog_14_method_116_code 81 = .ok (.goto (-68), 3) := by decide +kernel
theorem d_X12_layQueue_78 : decode prog_14_method_116_code 78 = .ok (.iinc 5 (-1), 3) := by decide +kernel
theorem d_X12_layQueue_76 : decode prog_14_method_116_code 76 = .ok (.istore 4, 2) := by decide +kernel
theorem d_X12_layQueue_85 : decode prog_14_method_116_code 85 = .ok (.ireturn, 1) := by decide +kernel
theorem d_X12_layQueue_84 : decode prog_14_method_116_code 84 = .ok (.iconst 1, 1) := by decide +kernel
theorem d_X12_bitsOf_12 : decode prog_14_method_41_code 12 = .ok (.iload_n 2, 1) := by decide +kernel
theorem d_X12_bitsOf_4 : decode prog_14_method_41_code 4 = .ok (.iload_n 2, 1) := by decide +kernel
theorem d_X12_bitsOf_2 : decode prog_14_method_41_code 2 = .ok (.iload_n 0, 1) := by decide +kernel
theorem d_X12_bitsOf_1 : decode prog_14_method_41_code 1 = .ok (.istore_n 1, 1) := by decide +kernel
theorem d_X12_bitsOf_0 : decode prog_14_method_41_code 0 = .ok (.iconst 0, 1) := by decide +kernel
theorem d_X12_bitsOf_3 : decode prog_14_method_41_code 3 = .ok (.istore_n 2, 1) := by decide +kernel
theorem d_X12_bitsOf_8 : decode prog_14_method_41_code 8 = .ok (.iinc 1 1, 3) := by decide +kernel
theorem d_X12_bitsOf_5 : decode prog_14_method_41_code 5 = .ok (.ifCond .eq 15, 3) := by decide +kernel
theorem d_X12_bitsOf_11 : decode prog_14_method_41_code 11 = .ok (.iload_n 2, 1) := by decide +kernel
theorem d_X12_bitsOf_16 : decode prog_14_method_41_code 16 = .ok (.istore_n 2, 1) := by decide +kernel
theorem d_X12_bitsOf_14 : decode prog_14_method_41_code 14 = .ok (.isub, 1) := by decide +kernel
theorem d_X12_bitsOf_13 : decode prog_14_method_41_code 13 = .ok (.iconst 1, 1) := by decide +kernel
theorem d_X12_bitsOf_15 : decode prog_14_method_41_code 15 = .ok (.iand, 1) := by decide +kernel
theorem d_X12_bitsOf_20 : decode prog_14_method_41_code 20 = .ok (.iload_n 1, 1) := by decide +kernel
theorem d_X12_bitsOf_17 : decode prog_14_method_41_code 17 = .ok (.goto (-13), 3) := by decide +kernel
theorem d_X12_bitsOf_21 : decode prog_14_method_41_code 21 = .ok (.ireturn, 1) := by decide +kernel
theorem d_X11_queue_4 : decode prog_1_method_28_code 4 = .ok (.iload_n 1, 1) := by decide +kernel
theorem d_X11_queue_1 : decode prog_1_method_28_code 1 = .ok (.getfield 87, 3) := by decide +kernel
theorem d_X11_queue_0 : decode prog_1_method_28_code 0 = .ok (.aload_n 0, 1) := by decide +kernel
theorem d_X11_queue_8 : decode prog_1_method_28_code 8 = .ok (.ireturn, 1) := by decide +kernel
theorem d_X11_queue_5 : decode prog_1_method_28_code 5 = .ok (.invokevirtual 292, 3) := by decide +kernel
theorem d_X3_chooseQueue_44 : decode prog_5_method_10_code 44 = .ok (.getfield 37, 3) := by decide +kernel
theorem d_X3_chooseQueue_24 : decode prog_5_method_10_code 24 = .ok (.iconst (-1), 1) := by decide +kernel
theorem d_X3_chooseQueue_10 : decode prog_5_method_10_code 10 = .ok (.getfield 49, 3) := by decide +kernel
theorem d_X3_chooseQueue_5 : decode prog_5_method_10_code 5 = .ok (.iconst (-1), 1) := by decide +kernel
theorem d_X3_chooseQueue_1 : decode prog_5_method_10_code 1 = .ok (.invokevirtual 122, 3) := by decide +kernel
theorem d_X3_chooseQueue_0 : decode prog_5_method_10_code 0 = .ok (.aload_n 0, 1) := by decide +kernel
theorem d_X3_chooseQueue_4 : decode prog_5_method_10_code 4 = .ok (.aload_n 0, 1) := by decide +kernel
theorem d_X3_chooseQueue_9 : decode prog_5_method_10_code 9 = .ok (.aload_n 0, 1) := by decide +kernel
theorem d_X3_chooseQueue_6 : decode prog_5_method_10_code 6 = .ok (.putfield 85, 3) := by decide +kernel
theorem d_X3_chooseQueue_17 : decode prog_5_method_10_code 17 = .ok (.ifCond .eq 63, 3) := by decide +kernel
theorem d_X3_chooseQueue_14 : decode prog_5_method_10_code 14 = .ok (.invokevirtual 92, 3) := by decide +kernel
theorem d_X3_chooseQueue_13 : decode prog_5_method_10_code 13 = .ok (.iload_n 1, 1) := by decide +kernel
theorem d_X3_chooseQueue_21 : decode prog_5_method_10_code 21 = .ok (.getfield 34, 3) := by decide +kernel
theorem d_X3_chooseQueue_20 : decode prog_5_method_10_code 20 = .ok (.aload_n 0, 1) := by decide +kernel
theorem d_X3_chooseQueue_34 : decode prog_5_method_10_code 34 = .ok (.aload_n 0, 1) := by decide +kernel
theorem d_X3_chooseQueue_29 : decode prog_5_method_10_code 29 = .ok (.getfield 30, 3) := by decide +kernel
theorem d_X3_chooseQueue_28 : decode prog_5_method_10_code 28 = .ok (.aload_n 0, 1) := by decide +kernel
theorem d_X3_chooseQueue_25 : decode prog_5_method_10_code 25 = .ok (.invokestatic 66, 3) := by decide +kernel
theorem d_X3_chooseQueue_33 : decode prog_5_method_10_code 33 = .ok (.aaload, 1) := by decide +kernel
theorem d_X3_chooseQueue_32 : decode prog_5_method_10_code 32 = .ok (.iconst 0, 1) := by decide +kernel
theorem d_X3_chooseQueue_39 : decode prog_5_method_10_code 39 = .ok (.invokevirtual 125, 3) := by decide +kernel
theorem d_X3_chooseQueue_38 : decode prog_5_method_10_code 38 = .ok (.iload_n 1, 1) := by decide +kernel
theorem d_X3_chooseQueue_35 : decode prog_5_method_10_code 35 = .ok (.getfield 41, 3) := by decide +kernel
theorem d_X3_chooseQueue_43 : decode prog_5_method_10_code 43 = .ok (.aload_n 0, 1) := by decide +kernel
theorem d_X3_chooseQueue_42 : decode prog_5_method_10_code 42 = .ok (.iconst 1, 1) := by decide +kernel
theorem d_X3_chooseQueue_65 : decode prog_5_method_10_code 65 = .ok (.aload_n 0, 1) := by decide +kernel
theorem d_X3_chooseQueue_55 : decode prog_5_method_10_code 55 = .ok (.aload_n 0, 1) := by decide +kernel
theorem d_X3_chooseQueue_52 : decode prog_5_method_10_code 52 = .ok (.isub, 1) := by decide +kernel
theorem d_X3_chooseQueue_50 : decode prog_5_method_10_code 50 = .ok (.ishl, 1) := by decide +kernel
theorem d_X3_chooseQueue_47 : decode prog_5_method_10_code 47 = .ok (.getfield 108, 3) := by decide +kernel
theorem d_X3_chooseQueue_51 : decode prog_5_method_10_code 51 = .ok (.iconst 1, 1) := by decide +kernel
theorem d_X3_chooseQueue_54 : decode prog_5_method_10_code 54 = .ok (.aload_n 0, 1) := by decide +kernel
theorem d_X3_chooseQueue_53 : decode prog_5_method_10_code 53 = .ok (.istore_n 2, 1) := by decide +kernel
theorem d_X3_chooseQueue_60 : decode prog_5_method_10_code 60 = .ok (.invokevirtual 129, 3) := by decide +kernel
theorem d_X3_chooseQueue_59 : decode prog_5_method_10_code 59 = .ok (.iload_n 1, 1) := by decide +kernel
theorem d_X3_chooseQueue_56 : decode prog_5_method_10_code 56 = .ok (.getfield 37, 3) := by decide +kernel
theorem d_X3_chooseQueue_64 : decode prog_5_method_10_code 64 = .ok (.iload_n 2, 1) := by decide +kernel
theorem d_X3_chooseQueue_63 : decode prog_5_method_10_code 63 = .ok (.iconst 0, 1) := by decide +kernel
theorem d_X3_chooseQueue_75 : decode prog_5_method_10_code 75 = .ok (.ixor, 1) := by decide +kernel
theorem d_X3_chooseQueue_70 : decode prog_5_method_10_code 70 = .ok (.iconst 1, 1) := by decide +kernel
theorem d_X3_chooseQueue_69 : decode prog_5_method_10_code 69 = .ok (.iload_n 1, 1) := by decide +kernel
theorem d_X3_chooseQueue_66 : decode prog_5_method_10_code 66 = .ok (.getfield 41, 3) := by decide +kernel
theorem d_X3_chooseQueue_74 : decode prog_5_method_10_code 74 = .ok (.iconst (-1), 1) := by decide +kernel
theorem d_X3_chooseQueue_71 : decode prog_5_method_10_code 71 = .ok (.invokevirtual 134, 3) := by decide +kernel
theorem d_X3_chooseQueue_80 : decode prog_5_method_10_code 80 = .ok (.aload_n 0, 1) := by decide +kernel
theorem d_X3_chooseQueue_77 : decode prog_5_method_10_code 77 = .ok (.invokevirtual 138, 3) := by decide +kernel
theorem d_X3_chooseQueue_76 : decode prog_5_method_10_code 76 = .ok (.iand, 1) := by decide +kernel
theorem d_X3_chooseQueue_84 : decode prog_5_method_10_code 84 = .ok (.ireturn, 1) := by decide +kernel
theorem d_X3_chooseQueue_81 : decode prog_5_method_10_code 81 = .ok (.getfield 85, 3) := by decide +kernel
theorem d_X3_extendQueue_54 : decode prog_5_method_11_code 54 = .ok (.invokevirtual 145, 3) := by decide +kernel
theorem d_X3_extendQueue_25 : decode prog_5_method_11_code 25 = .ok (.astore 4, 2) := by decide +kernel
theorem d_X3_extendQueue_13 : decode prog_5_method_11_code 13 = .ok (.invokevirtual 142, 3) := by decide +kernel
theorem d_X3_extendQueue_7 : decode prog_5_method_11_code 7 = .ok (.if_icmp .lt 10, 3) := by decide +kernel
theorem d_X3_extendQueue_4 : decode prog_5_method_11_code 4 = .ok (.iload_n 2, 1) := by decide +kernel
theorem d_X3_extendQueue_1 : decode prog_5_method_11_code 1 = .ok (.ifCond .eq 9, 3) := by decide +kernel
theorem d_X3_extendQueue_0 : decode prog_5_method_11_code 0 = .ok (.iload_n 3, 1) := by decide +kernel
theorem d_X3_extendQueue_5 : decode prog_5_method_11_code 5 = .ok (.bipush 6, 2) := by decide +kernel
theorem d_X3_extendQueue_11 : decode prog_5_method_11_code 11 = .ok (.iload_n 1, 1) := by decide +kernel
theorem d_X3_extendQueue_10 : decode prog_5_method_11_code 10 = .ok (.aload_n 0, 1) := by decide +kernel
theorem d_X3_extendQueue_12 : decode prog_5_method_11_code 12 = .ok (.iload_n 2, 1) := by decide +kernel
theorem d_X3_extendQueue_21 : decode prog_5_method_11_code 21 = .ok (.iload_n 2, 1) := by decide +kernel
theorem d_X3_extendQueue_17 : decode prog_5_method_11_code 17 = .ok (.aload_n 0, 1) := by decide +kernel
theorem d_X3_extendQueue_16 : decode prog_5_method_11_code 16 = .ok (.return_, 1) := by decide +kernel
theorem d_X3_extendQueue_18 : decode prog_5_method_11_code 18 = .ok (.getfield 30, 3) := by decide +kernel
theorem d_X3_extendQueue_23 : decode prog_5_method_11_code 23 = .ok (.iadd, 1) := by decide +kernel
theorem d_X3_extendQueue_22 : decode prog_5_method_11_code 22 = .ok (.iconst 1, 1) := by decide +kernel
theorem d_X3_extendQueue_24 : decode prog_5_method_11_code 24 = .ok (.aaload, 1) := by decide +kernel
theorem d_X3_extendQueue_41 : decode prog_5_method_11_code 41 = .ok (.iconst 1, 1) := by decide +kernel
theorem d_X3_extendQueue_34 : decode prog_5_method_11_code 34 = .ok (.if_icmp .ge 77, 3) := by decide +kernel
theorem d_X3_extendQueue_30 : decode prog_5_method_11_code 30 = .ok (.iload 5, 2) := by decide +kernel
theorem d_X3_extendQueue_28 : decode prog_5_method_11_code 28 = .ok (.istore 5, 2) := by decide +kernel
theorem d_X3_extendQueue_27 : decode prog_5_method_11_code 27 = .ok (.iconst 0, 1) := by decide +kernel
theorem d_X3_extendQueue_32 : decode prog_5_method_11_code 32 = .ok (.bipush 6, 2) := by decide +kernel
theorem d_X3_extendQueue_38 : decode prog_5_method_11_code 38 = .ok (.iload 5, 2) := by decide +kernel
theorem d_X3_extendQueue_37 : decode prog_5_method_11_code 37 = .ok (.iload_n 3, 1) := by decide +kernel
theorem d_X3_extendQueue_40 : decode prog_5_method_11_code 40 = .ok (.ishr, 1) := by decide +kernel
theorem d_X3_extendQueue_48 : decode prog_5_method_11_code 48 = .ok (.aload_n 0, 1) := by decide +kernel
theorem d_X3_extendQueue_43 : decode prog_5_method_11_code 43 = .ok (.ifCond .eq 62, 3) := by decide +kernel
theorem d_X3_extendQueue_42 : decode prog_5_method_11_code 42 = .ok (.iand, 1) := by decide +kernel
theorem d_X3_extendQueue_46 : decode prog_5_method_11_code 46 = .ok (.aload 4, 2) := by decide +kernel
theorem d_X3_extendQueue_52 : decode prog_5_method_11_code 52 = .ok (.iload_n 2, 1) := by decide +kernel
theorem d_X3_extendQueue_49 : decode prog_5_method_11_code 49 = .ok (.getfield 30, 3) := by decide +kernel
theorem d_X3_extendQueue_53 : decode prog_5_method_11_code 53 = .ok (.aaload, 1) := by decide +kernel
theorem d_X3_extendQueue_88 : decode prog_5_method_11_code 88 = .ok (.iastore, 1) := by decide +kernel
theorem d_X3_extendQueue_72 : decode prog_5_method_11_code 72 = .ok (.invokevirtual 152, 3) := by decide +kernel
theorem d_X3_extendQueue_66 : decode prog_5_method_11_code 66 = .ok (.aload 4, 2) := by decide +kernel
theorem d_X3_extendQueue_62 : decode prog_5_method_11_code 62 = .ok (.iload_n 1, 1) := by decide +kernel
theorem d_X3_extendQueue_59 : decode prog_5_method_11_code 59 = .ok (.getfield 149, 3) := by decide +kernel
theorem d_X3_extendQueue_57 : decode prog_5_method_11_code 57 = .ok (.aload 4, 2) := by decide +kernel
theorem d_X3_extendQueue_63 : decode prog_5_method_11_code 63 = .ok (.if_icmp .ge 18, 3) := by decide +kernel
theorem d_X3_extendQueue_69 : decode prog_5_method_11_code 69 = .ok (.iload 5, 2) := by decide +kernel
theorem d_X3_extendQueue_68 : decode prog_5_method_11_code 68 = .ok (.iconst 1, 1) := by decide +kernel
theorem d_X3_extendQueue_71 : decode prog_5_method_11_code 71 = .ok (.ishl, 1) := by decide +kernel
theorem d_X3_extendQueue_81 : decode prog_5_method_11_code 81 = .ok (.aload_n 0, 1) := by decide +kernel
theorem d_X3_extendQueue_77 : decode prog_5_method_11_code 77 = .ok (.iconst 1, 1) := by decide +kernel
theorem d_X3_extendQueue_75 : decode prog_5_method_11_code 75 = .ok (.aload 4, 2) := by decide +kernel
theorem d_X3_extendQueue_78 : decode prog_5_method_11_code 78 = .ok (.invokevirtual 155, 3) := by decide +kernel
theorem d_X3_extendQueue_85 : decode prog_5_method_11_code 85 = .ok (.iload_n 2, 1) := by decide +kernel
theorem d_X3_extendQueue_82 : decode prog_5_method_11_code 82 = .ok (.getfield 15, 3) := by decide +kernel
theorem d_X3_extendQueue_86 : decode prog_5_method_11_code 86 = .ok (.iload 5, 2) := by decide +kernel
theorem d_X3_extendQueue_98 : decode prog_5_method_11_code 98 = .ok (.ishl, 1) := by decide +kernel
theorem d_X3_extendQueue_93 : decode prog_5_method_11_code 93 = .ok (.iadd, 1) := by decide +kernel
theorem d_X3_extendQueue_91 : decode prog_5_method_11_code 91 = .ok (.iload_n 2, 1) := by decide +kernel
theorem d_X3_extendQueue_90 : decode prog_5_method_11_code 90 = .ok (.iload_n 1, 1) := by decide +kernel
theorem d_X3_extendQueue_89 : decode prog_5_method_11_code 89 = .ok (.aload_n 0, 1) := by decide +kernel
theorem d_X3_extendQueue_92 : decode prog_5_method_11_code 92 = .ok (.iconst 1, 1) := by decide +kernel
theorem d_X3_extendQueue_95 : decode prog_5_method_11_code 95 = .ok (.iconst 1, 1) := by decide +kernel
theorem d_X3_extendQueue_94 : decode prog_5_method_11_code 94 = .ok (.iload_n 3, 1) := by decide +kernel
theorem d_X3_extendQueue_96 : decode prog_5_method_11_code 96 = .ok (.iload 5, 2) := by decide +kernel
theorem d_X3_extendQueue_102 : decode prog_5_method_11_code 102 = .ok (.invokevirtual 138, 3) := by decide +kernel
theorem d_X3_extendQueue_100 : decode prog_5_method_11_code 100 = .ok (.ixor, 1) := by decide +kernel
theorem d_X3_extendQueue_99 : decode prog_5_method_11_code 99 = .ok (.iconst (-1), 1) := by decide +kernel
theorem d_X3_extendQueue_101 : decode prog_5_method_11_code 101 = .ok (.iand, 1) := by decide +kernel
theorem d_X3_extendQueue_108 : decode prog_5_method_11_code 108 = .ok (.goto (-78), 3) := by decide +kernel
theorem d_X3_extendQueue_105 : decode prog_5_method_11_code 105 = .ok (.iinc 5 1, 3) := by decide +kernel
theorem d_X3_extendQueue_111 : decode prog_5_method_11_code 111 = .ok (.return_, 1) := by decide +kernel
theorem d_X10_copyFrom_24 : decode prog_12_method_4_code 24 = .ok (.aload_n 0, 1) := by decide +kernel
theorem d_X10_copyFrom_10 : decode prog_12_method_4_code 10 = .ok (.getfield 25, 3) := by decide +kernel
theorem d_X10_copyFrom_5 : decode prog_12_method_4_code 5 = .ok (.putfield 21, 3) := by decide +kernel
theorem d_X10_copyFrom_1 : decode prog_12_method_4_code 1 = .ok (.aload_n 1, 1) := by decide +kernel
theorem d_X10_copyFrom_0 : decode prog_12_method_4_code 0 = .ok (.aload_n 0, 1) := by decide +kernel
theorem d_X10_copyFrom_2 : decode prog_12_method_4_code 2 = .ok (.getfield 21, 3) := by decide +kernel
theorem d_X10_copyFrom_9 : decode prog_12_method_4_code 9 = .ok (.aload_n 1, 1) := by decide +kernel
theorem d_X10_copyFrom_8 : decode prog_12_method_4_code 8 = .ok (.aload_n 0, 1) := by decide +kernel
theorem d_X10_copyFrom_17 : decode prog_12_method_4_code 17 = .ok (.aload_n 1, 1) := by decide +kernel
theorem d_X10_copyFrom_16 : decode prog_12_method_4_code 16 = .ok (.aload_n 0, 1) := by decide +kernel
theorem d_X10_copyFrom_13 : decode prog_12_method_4_code 13 = .ok (.putfield 25, 3) := by decide +kernel
theorem d_X10_copyFrom_21 : decode prog_12_method_4_code 21 = .ok (.putfield 28, 3) := by decide +kernel
theorem d_X10_copyFrom_18 : decode prog_12_method_4_code 18 = .ok (.getfield 28, 3) := by decide +kernel
theorem d_X10_copyFrom_37 : decode prog_12_method_4_code 37 = .ok (.putfield 34, 3) := by decide +kernel
theorem d_X10_copyFrom_32 : decode prog_12_method_4_code 32 = .ok (.aload_n 0, 1) := by decide +kernel
theorem d_X10_copyFrom_26 : decode prog_12_method_4_code 26 = .ok (.getfield 31, 3) := by decide +kernel
theorem d_X10_copyFrom_25 : decode prog_12_method_4_code 25 = .ok (.aload_n 1, 1) := by decide +kernel
theorem d_X10_copyFrom_29 : decode prog_12_method_4_code 29 = .ok (.putfield 31, 3) := by decide +kernel
theorem d_X10_copyFrom_34 : decode prog_12_method_4_code 34 = .ok (.getfield 34, 3) := by decide +kernel
theorem d_X10_copyFrom_33 : decode prog_12_method_4_code 33 = .ok (.aload_n 1, 1) := by decide +kernel
theorem d_X10_copyFrom_42 : decode prog_12_method_4_code 42 = .ok (.getfield 40, 3) := by decide +kernel
theorem d_X10_copyFrom_41 : decode prog_12_method_4_code 41 = .ok (.aload_n 1, 1) := by decide +kernel
theorem d_X10_copyFrom_40 : decode prog_12_method_4_code 40 = .ok (.aload_n 0, 1) := by decide +kernel
theorem d_X10_copyFrom_48 : decode prog_12_method_4_code 48 = .ok (.return_, 1) := by decide +kernel
theorem d_X10_copyFrom_45 : decode prog_12_method_4_code 45 = .ok (.putfield 40, 3) := by decide +kernel
theorem d_X3_weighQueue_59 : decode prog_5_method_12_code 59 = .ok (.aload_n 0, 1) := by decide +kernel
theorem d_X3_weighQueue_29 : decode prog_5_method_12_code 29 = .ok (.sipush 999, 3) := by decide +kernel
theorem d_X3_weighQueue_15 : decode prog_5_method_12_code 15 = .ok (.aaload, 1) := by decide +kernel
theorem d_X3_weighQueue_7 : decode prog_5_method_12_code 7 = .ok (.if_icmp .gt 15, 3) := by decide +kernel
theorem d_X3_weighQueue_4 : decode prog_5_method_12_code 4 = .ok (.iload_n 2, 1) := by decide +kernel
theorem d_X3_weighQueue_1 : decode prog_5_method_12_code 1 = .ok (.ifCond .lt 21, 3) := by decide +kernel
theorem d_X3_weighQueue_0 : decode prog_5_method_12_code 0 = .ok (.iload_n 2, 1) := by decide +kernel
theorem d_X3_weighQueue_5 : decode prog_5_method_12_code 5 = .ok (.bipush 6, 2) := by decide +kernel
theorem d_X3_weighQueue_11 : decode prog_5_method_12_code 11 = .ok (.getfield 30, 3) := by decide +kernel
theorem d_X3_weighQueue_10 : decode prog_5_method_12_code 10 = .ok (.aload_n 0, 1) := by decide +kernel
theorem d_X3_weighQueue_14 : decode prog_5_method_12_code 14 = .ok (.iload_n 2, 1) := by decide +kernel
theorem d_X3_weighQueue_23 : decode prog_5_method_12_code 23 = .ok (.istore_n 3, 1) := by decide +kernel
theorem d_X3_weighQueue_19 : decode prog_5_method_12_code 19 = .ok (.goto 4, 3) := by decide +kernel
theorem d_X3_weighQueue_16 : decode prog_5_method_12_code 16 = .ok (.getfield 158, 3) := by decide +kernel
theorem d_X3_weighQueue_22 : decode prog_5_method_12_code 22 = .ok (.iconst (-1), 1) := by decide +kernel
theorem d_X3_weighQueue_25 : decode prog_5_method_12_code 25 = .ok (.ifCond .lt 10, 3) := by decide +kernel
theorem d_X3_weighQueue_24 : decode prog_5_method_12_code 24 = .ok (.iload_n 3, 1) := by decide +kernel
theorem d_X3_weighQueue_28 : decode prog_5_method_12_code 28 = .ok (.iload_n 3, 1) := by decide +kernel
theorem d_X3_weighQueue_43 : decode prog_5_method_12_code 43 = .ok (.if_icmp .ne 45, 3) := by decide +kernel
theorem d_X3_weighQueue_37 : decode prog_5_method_12_code 37 = .ok (.getfield 34, 3) := by decide +kernel
theorem d_X3_weighQueue_35 : decode prog_5_method_12_code 35 = .ok (.return_, 1) := by decide +kernel
theorem d_X3_weighQueue_32 : decode prog_5_method_12_code 32 = .ok (.if_icmp .le 4, 3) := by decide +kernel
theorem d_X3_weighQueue_36 : decode prog_5_method_12_code 36 = .ok (.aload_n 0, 1) := by decide +kernel
theorem d_X3_weighQueue_41 : decode prog_5_method_12_code 41 = .ok (.iaload, 1) := by decide +kernel
theorem d_X3_weighQueue_40 : decode prog_5_method_12_code 40 = .ok (.iload_n 3, 1) := by decide +kernel
theorem d_X3_weighQueue_42 : decode prog_5_method_12_code 42 = .ok (.iconst (-1), 1) := by decide +kernel
theorem d_X3_weighQueue_51 : decode prog_5_method_12_code 51 = .ok (.getfield 30, 3) := by decide +kernel
theorem d_X3_weighQueue_47 : decode prog_5_method_12_code 47 = .ok (.getfield 45, 3) := by decide +kernel
theorem d_X3_weighQueue_46 : decode prog_5_method_12_code 46 = .ok (.aload_n 0, 1) := by decide +kernel
theorem d_X3_weighQueue_50 : decode prog_5_method_12_code 50 = .ok (.aload_n 0, 1) := by decide +kernel
theorem d_X3_weighQueue_55 : decode prog_5_method_12_code 55 = .ok (.aaload, 1) := by decide +kernel
theorem d_X3_weighQueue_54 : decode prog_5_method_12_code 54 = .ok (.iload_n 2, 1) := by decide +kernel
theorem d_X3_weighQueue_56 : decode prog_5_method_12_code 56 = .ok (.invokevirtual 145, 3) := by decide +kernel
theorem d_X3_weighQueue_89 : decode prog_5_method_12_code 89 = .ok (.getfield 34, 3) := by decide +kernel
theorem d_X3_weighQueue_75 : decode prog_5_method_12_code 75 = .ok (.aload_n 0, 1) := by decide +kernel
theorem d_X3_weighQueue_65 : decode prog_5_method_12_code 65 = .ok (.getfield 45, 3) := by decide +kernel
theorem d_X3_weighQueue_63 : decode prog_5_method_12_code 63 = .ok (.iload_n 1, 1) := by decide +kernel
theorem d_X3_weighQueue_60 : decode prog_5_method_12_code 60 = .ok (.getfield 45, 3) := by decide +kernel
theorem d_X3_weighQueue_64 : decode prog_5_method_12_code 64 = .ok (.aload_n 0, 1) := by decide +kernel
theorem d_X3_weighQueue_71 : decode prog_5_method_12_code 71 = .ok (.isub, 1) := by decide +kernel
theorem d_X3_weighQueue_68 : decode prog_5_method_12_code 68 = .ok (.getfield 149, 3) := by decide +kernel
theorem d_X3_weighQueue_72 : decode prog_5_method_12_code 72 = .ok (.invokevirtual 155, 3) := by decide +kernel
theorem d_X3_weighQueue_81 : decode prog_5_method_12_code 81 = .ok (.getfield 45, 3) := by decide +kernel
theorem d_X3_weighQueue_79 : decode prog_5_method_12_code 79 = .ok (.iload_n 3, 1) := by decide +kernel
theorem d_X3_weighQueue_76 : decode prog_5_method_12_code 76 = .ok (.getfield 34, 3) := by decide +kernel
theorem d_X3_weighQueue_80 : decode prog_5_method_12_code 80 = .ok (.aload_n 0, 1) := by decide +kernel
theorem d_X3_weighQueue_87 : decode prog_5_method_12_code 87 = .ok (.iastore, 1) := by decide +kernel
theorem d_X3_weighQueue_84 : decode prog_5_method_12_code 84 = .ok (.getfield 158, 3) := by decide +kernel
theorem d_X3_weighQueue_88 : decode prog_5_method_12_code 88 = .ok (.aload_n 0, 1) := by decide +kernel
theorem d_X3_weighQueue_103 : decode prog_5_method_12_code 103 = .ok (.getfield 34, 3) := by decide +kernel
theorem d_X3_weighQueue_95 : decode prog_5_method_12_code 95 = .ok (.getfield 85, 3) := by decide +kernel
theorem d_X3_weighQueue_93 : decode prog_5_method_12_code 93 = .ok (.iaload, 1) := by decide +kernel
theorem d_X3_weighQueue_92 : decode prog_5_method_12_code 92 = .ok (.iload_n 3, 1) := by decide +kernel
theorem d_X3_weighQueue_94 : decode prog_5_method_12_code 94 = .ok (.aload_n 0, 1) := by decide +kernel
theorem d_X3_weighQueue_101 : decode prog_5_method_12_code 101 = .ok (.aload_n 0, 1) := by decide +kernel
