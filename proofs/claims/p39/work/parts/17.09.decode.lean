theorem d_X3_weighQueue_98 : decode prog_5_method_12_code 98 = .ok (.if_icmp .le 18, 3) := by decide +kernel
theorem d_X3_weighQueue_102 : decode prog_5_method_12_code 102 = .ok (.aload_n 0, 1) := by decide +kernel
theorem d_X3_weighQueue_111 : decode prog_5_method_12_code 111 = .ok (.aload_n 0, 1) := by decide +kernel
theorem d_X3_weighQueue_107 : decode prog_5_method_12_code 107 = .ok (.iaload, 1) := by decide +kernel
theorem d_X3_weighQueue_106 : decode prog_5_method_12_code 106 = .ok (.iload_n 3, 1) := by decide +kernel
theorem d_X3_weighQueue_108 : decode prog_5_method_12_code 108 = .ok (.putfield 85, 3) := by decide +kernel
theorem d_X3_weighQueue_113 : decode prog_5_method_12_code 113 = .ok (.invokevirtual 119, 3) := by decide +kernel
theorem d_X3_weighQueue_112 : decode prog_5_method_12_code 112 = .ok (.iload_n 2, 1) := by decide +kernel
theorem d_X3_weighQueue_116 : decode prog_5_method_12_code 116 = .ok (.return_, 1) := by decide +kernel
theorem d_X12_ripe_51 : decode prog_14_method_90_code 51 = .ok (.aload_n 0, 1) := by decide +kernel
theorem d_X12_ripe_25 : decode prog_14_method_90_code 25 = .ok (.iand, 1) := by decide +kernel
theorem d_X12_ripe_13 : decode prog_14_method_90_code 13 = .ok (.ifCond .eq 25, 3) := by decide +kernel
theorem d_X12_ripe_5 : decode prog_14_method_90_code 5 = .ok (.ifCond .eq 33, 3) := by decide +kernel
theorem d_X12_ripe_1 : decode prog_14_method_90_code 1 = .ok (.iload_n 1, 1) := by decide +kernel
theorem d_X12_ripe_0 : decode prog_14_method_90_code 0 = .ok (.aload_n 0, 1) := by decide +kernel
theorem d_X12_ripe_2 : decode prog_14_method_90_code 2 = .ok (.invokevirtual 398, 3) := by decide +kernel
theorem d_X12_ripe_9 : decode prog_14_method_90_code 9 = .ok (.iload_n 2, 1) := by decide +kernel
theorem d_X12_ripe_8 : decode prog_14_method_90_code 8 = .ok (.aload_n 0, 1) := by decide +kernel
theorem d_X12_ripe_10 : decode prog_14_method_90_code 10 = .ok (.invokevirtual 458, 3) := by decide +kernel
theorem d_X12_ripe_21 : decode prog_14_method_90_code 21 = .ok (.iconst 5, 1) := by decide +kernel
theorem d_X12_ripe_17 : decode prog_14_method_90_code 17 = .ok (.aload_n 0, 1) := by decide +kernel
theorem d_X12_ripe_16 : decode prog_14_method_90_code 16 = .ok (.iload_n 2, 1) := by decide +kernel
theorem d_X12_ripe_18 : decode prog_14_method_90_code 18 = .ok (.getfield 89, 3) := by decide +kernel
theorem d_X12_ripe_23 : decode prog_14_method_90_code 23 = .ok (.iadd, 1) := by decide +kernel
theorem d_X12_ripe_22 : decode prog_14_method_90_code 22 = .ok (.iload_n 1, 1) := by decide +kernel
theorem d_X12_ripe_24 : decode prog_14_method_90_code 24 = .ok (.iaload, 1) := by decide +kernel
theorem d_X12_ripe_39 : decode prog_14_method_90_code 39 = .ok (.ireturn, 1) := by decide +kernel
theorem d_X12_ripe_31 : decode prog_14_method_90_code 31 = .ok (.iconst 1, 1) := by decide +kernel
theorem d_X12_ripe_29 : decode prog_14_method_90_code 29 = .ok (.iload_n 3, 1) := by decide +kernel
theorem d_X12_ripe_26 : decode prog_14_method_90_code 26 = .ok (.ifCond .ne 12, 3) := by decide +kernel
theorem d_X12_ripe_30 : decode prog_14_method_90_code 30 = .ok (.iconst 0, 1) := by decide +kernel
theorem d_X12_ripe_35 : decode prog_14_method_90_code 35 = .ok (.ifCond .ne 5, 3) := by decide +kernel
theorem d_X12_ripe_32 : decode prog_14_method_90_code 32 = .ok (.invokestatic 350, 3) := by decide +kernel
theorem d_X12_ripe_38 : decode prog_14_method_90_code 38 = .ok (.iconst (-1), 1) := by decide +kernel
theorem d_X12_ripe_44 : decode prog_14_method_90_code 44 = .ok (.istore 5, 2) := by decide +kernel
theorem d_X12_ripe_41 : decode prog_14_method_90_code 41 = .ok (.istore 4, 2) := by decide +kernel
theorem d_X12_ripe_40 : decode prog_14_method_90_code 40 = .ok (.iconst (-1), 1) := by decide +kernel
theorem d_X12_ripe_43 : decode prog_14_method_90_code 43 = .ok (.iconst (-1), 1) := by decide +kernel
theorem d_X12_ripe_47 : decode prog_14_method_90_code 47 = .ok (.istore 6, 2) := by decide +kernel
theorem d_X12_ripe_46 : decode prog_14_method_90_code 46 = .ok (.iconst 0, 1) := by decide +kernel
theorem d_X12_ripe_49 : decode prog_14_method_90_code 49 = .ok (.iload 6, 2) := by decide +kernel
theorem d_X12_ripe_79 : decode prog_14_method_90_code 79 = .ok (.iload 5, 2) := by decide +kernel
theorem d_X12_ripe_64 : decode prog_14_method_90_code 64 = .ok (.if_icmp .ge 37, 3) := by decide +kernel
theorem d_X12_ripe_57 : decode prog_14_method_90_code 57 = .ok (.getfield 89, 3) := by decide +kernel
theorem d_X12_ripe_53 : decode prog_14_method_90_code 53 = .ok (.invokevirtual 386, 3) := by decide +kernel
theorem d_X12_ripe_52 : decode prog_14_method_90_code 52 = .ok (.iload_n 1, 1) := by decide +kernel
theorem d_X12_ripe_56 : decode prog_14_method_90_code 56 = .ok (.aload_n 0, 1) := by decide +kernel
theorem d_X12_ripe_62 : decode prog_14_method_90_code 62 = .ok (.iaload, 1) := by decide +kernel
theorem d_X12_ripe_60 : decode prog_14_method_90_code 60 = .ok (.bipush 31, 2) := by decide +kernel
theorem d_X12_ripe_63 : decode prog_14_method_90_code 63 = .ok (.isub, 1) := by decide +kernel
theorem d_X12_ripe_70 : decode prog_14_method_90_code 70 = .ok (.iload 6, 2) := by decide +kernel
theorem d_X12_ripe_68 : decode prog_14_method_90_code 68 = .ok (.iload_n 1, 1) := by decide +kernel
theorem d_X12_ripe_67 : decode prog_14_method_90_code 67 = .ok (.aload_n 0, 1) := by decide +kernel
theorem d_X12_ripe_69 : decode prog_14_method_90_code 69 = .ok (.iload_n 2, 1) := by decide +kernel
theorem d_X12_ripe_75 : decode prog_14_method_90_code 75 = .ok (.istore 7, 2) := by decide +kernel
theorem d_X12_ripe_72 : decode prog_14_method_90_code 72 = .ok (.invokevirtual 455, 3) := by decide +kernel
theorem d_X12_ripe_77 : decode prog_14_method_90_code 77 = .ok (.iload 7, 2) := by decide +kernel
theorem d_X12_ripe_98 : decode prog_14_method_90_code 98 = .ok (.goto (-49), 3) := by decide +kernel
theorem d_X12_ripe_89 : decode prog_14_method_90_code 89 = .ok (.istore 4, 2) := by decide +kernel
theorem d_X12_ripe_84 : decode prog_14_method_90_code 84 = .ok (.goto 11, 3) := by decide +kernel
theorem d_X12_ripe_81 : decode prog_14_method_90_code 81 = .ok (.if_icmp .gt 6, 3) := by decide +kernel
theorem d_X12_ripe_87 : decode prog_14_method_90_code 87 = .ok (.iload 6, 2) := by decide +kernel
theorem d_X12_ripe_93 : decode prog_14_method_90_code 93 = .ok (.istore 5, 2) := by decide +kernel
theorem d_X12_ripe_91 : decode prog_14_method_90_code 91 = .ok (.iload 7, 2) := by decide +kernel
theorem d_X12_ripe_95 : decode prog_14_method_90_code 95 = .ok (.iinc 6 1, 3) := by decide +kernel
theorem d_X12_ripe_107 : decode prog_14_method_90_code 107 = .ok (.goto 5, 3) := by decide +kernel
theorem d_X12_ripe_102 : decode prog_14_method_90_code 102 = .ok (.ifCond .ne 8, 3) := by decide +kernel
theorem d_X12_ripe_101 : decode prog_14_method_90_code 101 = .ok (.iload_n 3, 1) := by decide +kernel
theorem d_X12_ripe_105 : decode prog_14_method_90_code 105 = .ok (.iload 4, 2) := by decide +kernel
theorem d_X12_ripe_112 : decode prog_14_method_90_code 112 = .ok (.ireturn, 1) := by decide +kernel
theorem d_X12_ripe_110 : decode prog_14_method_90_code 110 = .ok (.iload 5, 2) := by decide +kernel
theorem d_X12_openedLater_10 : decode prog_14_method_88_code 10 = .ok (.aload_n 0, 1) := by decide +kernel
theorem d_X12_openedLater_5 : decode prog_14_method_88_code 5 = .ok (.aload_n 0, 1) := by decide +kernel
theorem d_X12_openedLater_1 : decode prog_14_method_88_code 1 = .ok (.iload_n 1, 1) := by decide +kernel
theorem d_X12_openedLater_0 : decode prog_14_method_88_code 0 = .ok (.aload_n 0, 1) := by decide +kernel
theorem d_X12_openedLater_2 : decode prog_14_method_88_code 2 = .ok (.invokevirtual 392, 3) := by decide +kernel
theorem d_X12_openedLater_7 : decode prog_14_method_88_code 7 = .ok (.invokevirtual 389, 3) := by decide +kernel
theorem d_X12_openedLater_6 : decode prog_14_method_88_code 6 = .ok (.iload_n 3, 1) := by decide +kernel
theorem d_X12_openedLater_16 : decode prog_14_method_88_code 16 = .ok (.iload_n 1, 1) := by decide +kernel
theorem d_X12_openedLater_12 : decode prog_14_method_88_code 12 = .ok (.invokevirtual 407, 3) := by decide +kernel
theorem d_X12_openedLater_11 : decode prog_14_method_88_code 11 = .ok (.iload_n 2, 1) := by decide +kernel
theorem d_X12_openedLater_15 : decode prog_14_method_88_code 15 = .ok (.aload_n 0, 1) := by decide +kernel
theorem d_X12_openedLater_20 : decode prog_14_method_88_code 20 = .ok (.ireturn, 1) := by decide +kernel
theorem d_X12_openedLater_17 : decode prog_14_method_88_code 17 = .ok (.invokevirtual 395, 3) := by decide +kernel
theorem d_X12_isSet_7 : decode prog_14_method_48_code 7 = .ok (.ishl, 1) := by decide +kernel
theorem d_X12_isSet_2 : decode prog_14_method_48_code 2 = .ok (.iconst 1, 1) := by decide +kernel
theorem d_X12_isSet_1 : decode prog_14_method_48_code 1 = .ok (.iconst 0, 1) := by decide +kernel
theorem d_X12_isSet_0 : decode prog_14_method_48_code 0 = .ok (.iload_n 1, 1) := by decide +kernel
theorem d_X12_isSet_4 : decode prog_14_method_48_code 4 = .ok (.invokevirtual 347, 3) := by decide +kernel
theorem d_X12_isSet_3 : decode prog_14_method_48_code 3 = .ok (.aload_n 0, 1) := by decide +kernel
theorem d_X12_isSet_10 : decode prog_14_method_48_code 10 = .ok (.invokestatic 350, 3) := by decide +kernel
theorem d_X12_isSet_9 : decode prog_14_method_48_code 9 = .ok (.isub, 1) := by decide +kernel
theorem d_X12_isSet_8 : decode prog_14_method_48_code 8 = .ok (.iconst 1, 1) := by decide +kernel
theorem d_X12_isSet_13 : decode prog_14_method_48_code 13 = .ok (.ireturn, 1) := by decide +kernel
theorem d_X11_ripe_22 : decode prog_1_method_27_code 22 = .ok (.iload 4, 2) := by decide +kernel
theorem d_X11_ripe_10 : decode prog_1_method_27_code 10 = .ok (.ireturn, 1) := by decide +kernel
theorem d_X11_ripe_5 : decode prog_1_method_27_code 5 = .ok (.iconst 1, 1) := by decide +kernel
theorem d_X11_ripe_1 : decode prog_1_method_27_code 1 = .ok (.ifCond .eq 10, 3) := by decide +kernel
theorem d_X11_ripe_0 : decode prog_1_method_27_code 0 = .ok (.iload_n 3, 1) := by decide +kernel
theorem d_X11_ripe_4 : decode prog_1_method_27_code 4 = .ok (.iload_n 3, 1) := by decide +kernel
theorem d_X11_ripe_9 : decode prog_1_method_27_code 9 = .ok (.iconst (-1), 1) := by decide +kernel
theorem d_X11_ripe_6 : decode prog_1_method_27_code 6 = .ok (.if_icmp .eq 5, 3) := by decide +kernel
theorem d_X11_ripe_16 : decode prog_1_method_27_code 16 = .ok (.iload_n 2, 1) := by decide +kernel
theorem d_X11_ripe_12 : decode prog_1_method_27_code 12 = .ok (.getfield 71, 3) := by decide +kernel
theorem d_X11_ripe_11 : decode prog_1_method_27_code 11 = .ok (.aload_n 0, 1) := by decide +kernel
theorem d_X11_ripe_15 : decode prog_1_method_27_code 15 = .ok (.iload_n 1, 1) := by decide +kernel
theorem d_X11_ripe_20 : decode prog_1_method_27_code 20 = .ok (.istore 4, 2) := by decide +kernel
theorem d_X11_ripe_17 : decode prog_1_method_27_code 17 = .ok (.invokevirtual 285, 3) := by decide +kernel
theorem d_X11_ripe_37 : decode prog_1_method_27_code 37 = .ok (.aload_n 0, 1) := by decide +kernel
theorem d_X11_ripe_29 : decode prog_1_method_27_code 29 = .ok (.ifCond .ne 8, 3) := by decide +kernel
theorem d_X11_ripe_25 : decode prog_1_method_27_code 25 = .ok (.if_icmp .eq 7, 3) := by decide +kernel
theorem d_X11_ripe_24 : decode prog_1_method_27_code 24 = .ok (.iconst (-1), 1) := by decide +kernel
theorem d_X11_ripe_28 : decode prog_1_method_27_code 28 = .ok (.iload_n 3, 1) := by decide +kernel
theorem d_X11_ripe_34 : decode prog_1_method_27_code 34 = .ok (.goto 14, 3) := by decide +kernel
theorem d_X11_ripe_32 : decode prog_1_method_27_code 32 = .ok (.iload 4, 2) := by decide +kernel
theorem d_X11_ripe_43 : decode prog_1_method_27_code 43 = .ok (.iload 4, 2) := by decide +kernel
theorem d_X11_ripe_41 : decode prog_1_method_27_code 41 = .ok (.iload_n 1, 1) := by decide +kernel
theorem d_X11_ripe_38 : decode prog_1_method_27_code 38 = .ok (.getfield 71, 3) := by decide +kernel
theorem d_X11_ripe_42 : decode prog_1_method_27_code 42 = .ok (.iload_n 2, 1) := by decide +kernel
theorem d_X11_ripe_48 : decode prog_1_method_27_code 48 = .ok (.ireturn, 1) := by decide +kernel
theorem d_X11_ripe_45 : decode prog_1_method_27_code 45 = .ok (.invokevirtual 288, 3) := by decide +kernel
theorem d_X1_ripestDays_45 : decode prog_3_method_22_code 45 = .ok (.iconst 0, 1) := by decide +kernel
theorem d_X1_ripestDays_21 : decode prog_3_method_22_code 21 = .ok (.ifCond .eq 21, 3) := by decide +kernel
theorem d_X1_ripestDays_7 : decode prog_3_method_22_code 7 = .ok (.invokevirtual 46, 3) := by decide +kernel
theorem d_X1_ripestDays_3 : decode prog_3_method_22_code 3 = .ok (.istore 4, 2) := by decide +kernel
theorem d_X1_ripestDays_1 : decode prog_3_method_22_code 1 = .ok (.istore_n 3, 1) := by decide +kernel
theorem d_X1_ripestDays_0 : decode prog_3_method_22_code 0 = .ok (.iconst (-1), 1) := by decide +kernel
theorem d_X1_ripestDays_2 : decode prog_3_method_22_code 2 = .ok (.iconst (-1), 1) := by decide +kernel
theorem d_X1_ripestDays_6 : decode prog_3_method_22_code 6 = .ok (.iload_n 1, 1) := by decide +kernel
theorem d_X1_ripestDays_5 : decode prog_3_method_22_code 5 = .ok (.aload_n 0, 1) := by decide +kernel
theorem d_X1_ripestDays_14 : decode prog_3_method_22_code 14 = .ok (.getfield 9, 3) := by decide +kernel
theorem d_X1_ripestDays_13 : decode prog_3_method_22_code 13 = .ok (.aload_n 0, 1) := by decide +kernel
theorem d_X1_ripestDays_10 : decode prog_3_method_22_code 10 = .ok (.ifCond .eq 32, 3) := by decide +kernel
theorem d_X1_ripestDays_18 : decode prog_3_method_22_code 18 = .ok (.invokevirtual 115, 3) := by decide +kernel
theorem d_X1_ripestDays_17 : decode prog_3_method_22_code 17 = .ok (.iload_n 2, 1) := by decide +kernel
theorem d_X1_ripestDays_34 : decode prog_3_method_22_code 34 = .ok (.iand, 1) := by decide +kernel
theorem d_X1_ripestDays_29 : decode prog_3_method_22_code 29 = .ok (.iload_n 1, 1) := by decide +kernel
theorem d_X1_ripestDays_25 : decode prog_3_method_22_code 25 = .ok (.aload_n 0, 1) := by decide +kernel
theorem d_X1_ripestDays_24 : decode prog_3_method_22_code 24 = .ok (.iload_n 2, 1) := by decide +kernel
theorem d_X1_ripestDays_26 : decode prog_3_method_22_code 26 = .ok (.getfield 15, 3) := by decide +kernel
theorem d_X1_ripestDays_31 : decode prog_3_method_22_code 31 = .ok (.invokevirtual 31, 3) := by decide +kernel
theorem d_X1_ripestDays_30 : decode prog_3_method_22_code 30 = .ok (.iconst 1, 1) := by decide +kernel
theorem d_X1_ripestDays_39 : decode prog_3_method_22_code 39 = .ok (.goto 4, 3) := by decide +kernel
theorem d_X1_ripestDays_38 : decode prog_3_method_22_code 38 = .ok (.iconst 1, 1) := by decide +kernel
theorem d_X1_ripestDays_35 : decode prog_3_method_22_code 35 = .ok (.ifCond .ne 7, 3) := by decide +kernel
theorem d_X1_ripestDays_43 : decode prog_3_method_22_code 43 = .ok (.istore 5, 2) := by decide +kernel
theorem d_X1_ripestDays_42 : decode prog_3_method_22_code 42 = .ok (.iconst 0, 1) := by decide +kernel
theorem d_X1_ripestDays_68 : decode prog_3_method_22_code 68 = .ok (.invokevirtual 97, 3) := by decide +kernel
theorem d_X1_ripestDays_58 : decode prog_3_method_22_code 58 = .ok (.iload 5, 2) := by decide +kernel
theorem d_X1_ripestDays_51 : decode prog_3_method_22_code 51 = .ok (.iload_n 1, 1) := by decide +kernel
theorem d_X1_ripestDays_48 : decode prog_3_method_22_code 48 = .ok (.iload 6, 2) := by decide +kernel
theorem d_X1_ripestDays_46 : decode prog_3_method_22_code 46 = .ok (.istore 6, 2) := by decide +kernel
theorem d_X1_ripestDays_50 : decode prog_3_method_22_code 50 = .ok (.aload_n 0, 1) := by decide +kernel
theorem d_X1_ripestDays_55 : decode prog_3_method_22_code 55 = .ok (.if_icmp .ge 38, 3) := by decide +kernel
theorem d_X1_ripestDays_52 : decode prog_3_method_22_code 52 = .ok (.invokevirtual 85, 3) := by decide +kernel
theorem d_X1_ripestDays_64 : decode prog_3_method_22_code 64 = .ok (.iload_n 1, 1) := by decide +kernel
theorem d_X1_ripestDays_63 : decode prog_3_method_22_code 63 = .ok (.aload_n 0, 1) := by decide +kernel
theorem d_X1_ripestDays_60 : decode prog_3_method_22_code 60 = .ok (.ifCond .eq 33, 3) := by decide +kernel
theorem d_X1_ripestDays_66 : decode prog_3_method_22_code 66 = .ok (.iload 6, 2) := by decide +kernel
theorem d_X1_ripestDays_65 : decode prog_3_method_22_code 65 = .ok (.iload_n 2, 1) := by decide +kernel
theorem d_X1_ripestDays_84 : decode prog_3_method_22_code 84 = .ok (.iload 6, 2) := by decide +kernel
theorem d_X1_ripestDays_77 : decode prog_3_method_22_code 77 = .ok (.if_icmp .le 10, 3) := by decide +kernel
theorem d_X1_ripestDays_73 : decode prog_3_method_22_code 73 = .ok (.iload 7, 2) := by decide +kernel
theorem d_X1_ripestDays_71 : decode prog_3_method_22_code 71 = .ok (.istore 7, 2) := by decide +kernel
theorem d_X1_ripestDays_75 : decode prog_3_method_22_code 75 = .ok (.iload 4, 2) := by decide +kernel
theorem d_X1_ripestDays_82 : decode prog_3_method_22_code 82 = .ok (.istore 4, 2) := by decide +kernel
theorem d_X1_ripestDays_80 : decode prog_3_method_22_code 80 = .ok (.iload 7, 2) := by decide +kernel
theorem d_X1_ripestDays_90 : decode prog_3_method_22_code 90 = .ok (.goto (-42), 3) := by decide +kernel
theorem d_X1_ripestDays_87 : decode prog_3_method_22_code 87 = .ok (.iinc 6 1, 3) := by decide +kernel
theorem d_X1_ripestDays_86 : decode prog_3_method_22_code 86 = .ok (.istore_n 3, 1) := by decide +kernel
theorem d_X1_ripestDays_94 : decode prog_3_method_22_code 94 = .ok (.ireturn, 1) := by decide +kernel
theorem d_X1_ripestDays_93 : decode prog_3_method_22_code 93 = .ok (.iload_n 3, 1) := by decide +kernel
theorem d_X5_hasSet_10 : decode prog_7_method_6_code 10 = .ok (.ishl, 1) := by decide +kernel
theorem d_X5_hasSet_5 : decode prog_7_method_6_code 5 = .ok (.iconst 1, 1) := by decide +kernel
theorem d_X5_hasSet_1 : decode prog_7_method_6_code 1 = .ok (.ifCond .lt 17, 3) := by decide +kernel
theorem d_X5_hasSet_0 : decode prog_7_method_6_code 0 = .ok (.iload_n 1, 1) := by decide +kernel
theorem d_X5_hasSet_4 : decode prog_7_method_6_code 4 = .ok (.iload_n 1, 1) := by decide +kernel
theorem d_X5_hasSet_7 : decode prog_7_method_6_code 7 = .ok (.getfield 37, 3) := by decide +kernel
theorem d_X5_hasSet_6 : decode prog_7_method_6_code 6 = .ok (.aload_n 0, 1) := by decide +kernel
theorem d_X5_hasSet_15 : decode prog_7_method_6_code 15 = .ok (.goto 4, 3) := by decide +kernel
theorem d_X5_hasSet_14 : decode prog_7_method_6_code 14 = .ok (.iconst 1, 1) := by decide +kernel
theorem d_X5_hasSet_11 : decode prog_7_method_6_code 11 = .ok (.if_icmp .ge 7, 3) := by decide +kernel
theorem d_X5_hasSet_19 : decode prog_7_method_6_code 19 = .ok (.ireturn, 1) := by decide +kernel
theorem d_X5_hasSet_18 : decode prog_7_method_6_code 18 = .ok (.iconst 0, 1) := by decide +kernel
theorem d_X12_mean_19 : decode prog_14_method_115_code 19 = .ok (.aload_n 0, 1) := by decide +kernel
theorem d_X12_mean_7 : decode prog_14_method_115_code 7 = .ok (.ifCond .eq 28, 3) := by decide +kernel
theorem d_X12_mean_2 : decode prog_14_method_115_code 2 = .ok (.iload_n 2, 1) := by decide +kernel
theorem d_X12_mean_1 : decode prog_14_method_115_code 1 = .ok (.iload_n 1, 1) := by decide +kernel
theorem d_X12_mean_0 : decode prog_14_method_115_code 0 = .ok (.aload_n 0, 1) := by decide +kernel
theorem d_X12_mean_4 : decode prog_14_method_115_code 4 = .ok (.invokevirtual 497, 3) := by decide +kernel
theorem d_X12_mean_3 : decode prog_14_method_115_code 3 = .ok (.iconst 3, 1) := by decide +kernel
theorem d_X12_mean_12 : decode prog_14_method_115_code 12 = .ok (.iconst 1, 1) := by decide +kernel
theorem d_X12_mean_11 : decode prog_14_method_115_code 11 = .ok (.iconst 0, 1) := by decide +kernel
theorem d_X12_mean_10 : decode prog_14_method_115_code 10 = .ok (.iload_n 3, 1) := by decide +kernel
theorem d_X12_mean_16 : decode prog_14_method_115_code 16 = .ok (.ifCond .eq 19, 3) := by decide +kernel
theorem d_X12_mean_13 : decode prog_14_method_115_code 13 = .ok (.invokestatic 350, 3) := by decide +kernel
theorem d_X12_mean_27 : decode prog_14_method_115_code 27 = .ok (.iload_n 2, 1) := by decide +kernel
theorem d_X12_mean_22 : decode prog_14_method_115_code 22 = .ok (.iload_n 2, 1) := by decide +kernel
theorem d_X12_mean_21 : decode prog_14_method_115_code 21 = .ok (.iload_n 1, 1) := by decide +kernel
theorem d_X12_mean_20 : decode prog_14_method_115_code 20 = .ok (.aload_n 0, 1) := by decide +kernel
theorem d_X12_mean_24 : decode prog_14_method_115_code 24 = .ok (.invokevirtual 500, 3) := by decide +kernel
theorem d_X12_mean_23 : decode prog_14_method_115_code 23 = .ok (.iconst 1, 1) := by decide +kernel
theorem d_X12_mean_32 : decode prog_14_method_115_code 32 = .ok (.goto 4, 3) := by decide +kernel
theorem d_X12_mean_29 : decode prog_14_method_115_code 29 = .ok (.invokevirtual 504, 3) := by decide +kernel
theorem d_X12_mean_28 : decode prog_14_method_115_code 28 = .ok (.iload_n 3, 1) := by decide +kernel
theorem d_X12_mean_36 : decode prog_14_method_115_code 36 = .ok (.ireturn, 1) := by decide +kernel
theorem d_X12_mean_35 : decode prog_14_method_115_code 35 = .ok (.iconst (-1), 1) := by decide +kernel
theorem d_X12_partOf_21 : decode prog_14_method_113_code 21 = .ok (.iinc 5 (-1), 3) := by decide +kernel
theorem d_X12_partOf_9 : decode prog_14_method_113_code 9 = .ok (.iload 5, 2) := by decide +kernel
theorem d_X12_partOf_3 : decode prog_14_method_113_code 3 = .ok (.iload_n 2, 1) := by decide +kernel
theorem d_X12_partOf_1 : decode prog_14_method_113_code 1 = .ok (.istore 4, 2) := by decide +kernel
theorem d_X12_partOf_0 : decode prog_14_method_113_code 0 = .ok (.iconst 1, 1) := by decide +kernel
theorem d_X12_partOf_7 : decode prog_14_method_113_code 7 = .ok (.istore 5, 2) := by decide +kernel
theorem d_X12_partOf_4 : decode prog_14_method_113_code 4 = .ok (.invokestatic 449, 3) := by decide +kernel
theorem d_X12_partOf_16 : decode prog_14_method_113_code 16 = .ok (.bipush 100, 2) := by decide +kernel
theorem d_X12_partOf_14 : decode prog_14_method_113_code 14 = .ok (.iload 4, 2) := by decide +kernel
theorem d_X12_partOf_11 : decode prog_14_method_113_code 11 = .ok (.ifCond .le 16, 3) := by decide +kernel
theorem d_X12_partOf_19 : decode prog_14_method_113_code 19 = .ok (.istore 4, 2) := by decide +kernel
theorem d_X12_partOf_18 : decode prog_14_method_113_code 18 = .ok (.imul, 1) := by decide +kernel
theorem d_X12_partOf_35 : decode prog_14_method_113_code 35 = .ok (.iload 4, 2) := by decide +kernel
theorem d_X12_partOf_28 : decode prog_14_method_113_code 28 = .ok (.ifCond .ne 7, 3) := by decide +kernel
theorem d_X12_partOf_27 : decode prog_14_method_113_code 27 = .ok (.iload_n 3, 1) := by decide +kernel
theorem d_X12_partOf_24 : decode prog_14_method_113_code 24 = .ok (.goto (-15), 3) := by decide +kernel
theorem d_X12_partOf_32 : decode prog_14_method_113_code 32 = .ok (.goto 5, 3) := by decide +kernel
theorem d_X12_partOf_31 : decode prog_14_method_113_code 31 = .ok (.iload_n 1, 1) := by decide +kernel
theorem d_X12_partOf_40 : decode prog_14_method_113_code 40 = .ok (.invokestatic 491, 3) := by decide +kernel
theorem d_X12_partOf_39 : decode prog_14_method_113_code 39 = .ok (.iload_n 1, 1) := by decide +kernel
theorem d_X12_partOf_37 : decode prog_14_method_113_code 37 = .ok (.iload 4, 2) := by decide +kernel
theorem d_X12_partOf_44 : decode prog_14_method_113_code 44 = .ok (.ireturn, 1) := by decide +kernel
theorem d_X12_partOf_43 : decode prog_14_method_113_code 43 = .ok (.idiv, 1) := by decide +kernel
theorem d_X12_divisor_10 : decode prog_14_method_42_code 10 = .ok (.irem, 1) := by decide +kernel
theorem d_X12_divisor_4 : decode prog_14_method_42_code 4 = .ok (.iload_n 3, 1) := by decide +kernel
theorem d_X12_divisor_2 : decode prog_14_method_42_code 2 = .ok (.iload_n 1, 1) := by decide +kernel
theorem d_X12_divisor_1 : decode prog_14_method_42_code 1 = .ok (.istore_n 2, 1) := by decide +kernel
theorem d_X12_divisor_0 : decode prog_14_method_42_code 0 = .ok (.iload_n 0, 1) := by decide +kernel
theorem d_X12_divisor_3 : decode prog_14_method_42_code 3 = .ok (.istore_n 3, 1) := by decide +kernel
theorem d_X12_divisor_8 : decode prog_14_method_42_code 8 = .ok (.iload_n 2, 1) := by decide +kernel
theorem d_X12_divisor_5 : decode prog_14_method_42_code 5 = .ok (.ifCond .le 16, 3) := by decide +kernel
theorem d_X12_divisor_9 : decode prog_14_method_42_code 9 = .ok (.iload_n 3, 1) := by decide +kernel
theorem d_X12_divisor_17 : decode prog_14_method_42_code 17 = .ok (.istore_n 3, 1) := by decide +kernel
theorem d_X12_divisor_14 : decode prog_14_method_42_code 14 = .ok (.istore_n 2, 1) := by decide +kernel
theorem d_X12_divisor_13 : decode prog_14_method_42_code 13 = .ok (.iload_n 3, 1) := by decide +kernel
theorem d_X12_divisor_11 : decode prog_14_method_42_code 11 = .ok (.istore 4, 2) := by decide +kernel
theorem d_X12_divisor_15 : decode prog_14_method_42_code 15 = .ok (.iload 4, 2) := by decide +kernel
theorem d_X12_divisor_21 : decode prog_14_method_42_code 21 = .ok (.iload_n 2, 1) := by decide +kernel
theorem d_X12_divisor_18 : decode prog_14_method_42_code 18 = .ok (.goto (-14), 3) := by decide +kernel
theorem d_X12_divisor_22 : decode prog_14_method_42_code 22 = .ok (.ireturn, 1) := by decide +kernel
theorem d_X12_overParts_36 : decode prog_14_method_112_code 36 = .ok (.iload_n 2, 1) := by decide +kernel
theorem d_X12_overParts_16 : decode prog_14_method_112_code 16 = .ok (.ixor, 1) := by decide +kernel
theorem d_X12_overParts_8 : decode prog_14_method_112_code 8 = .ok (.iload_n 2, 1) := by decide +kernel
theorem d_X12_overParts_3 : decode prog_14_method_112_code 3 = .ok (.iconst 0, 1) := by decide +kernel
theorem d_X12_overParts_1 : decode prog_14_method_112_code 1 = .ok (.istore 4, 2) := by decide +kernel
theorem d_X12_overParts_0 : decode prog_14_method_112_code 0 = .ok (.iconst 0, 1) := by decide +kernel
theorem d_X12_overParts_6 : decode prog_14_method_112_code 6 = .ok (.iload 5, 2) := by decide +kernel
theorem d_X12_overParts_4 : decode prog_14_method_112_code 4 = .ok (.istore 5, 2) := by decide +kernel
theorem d_X12_overParts_14 : decode prog_14_method_112_code 14 = .ok (.iload_n 2, 1) := by decide +kernel
theorem d_X12_overParts_12 : decode prog_14_method_112_code 12 = .ok (.iload 5, 2) := by decide +kernel
theorem d_X12_overParts_9 : decode prog_14_method_112_code 9 = .ok (.if_icmp .gt 67, 3) := by decide +kernel
theorem d_X12_overParts_15 : decode prog_14_method_112_code 15 = .ok (.iconst (-1), 1) := by decide +kernel
theorem d_X12_overParts_26 : decode prog_14_method_112_code 26 = .ok (.iload 5, 2) := by decide +kernel
theorem d_X12_overParts_21 : decode prog_14_method_112_code 21 = .ok (.goto 49, 3) := by decide +kernel
theorem d_X12_overParts_18 : decode prog_14_method_112_code 18 = .ok (.ifCond .eq 6, 3) := by decide +kernel
theorem d_X12_overParts_17 : decode prog_14_method_112_code 17 = .ok (.iand, 1) := by decide +kernel
theorem d_X12_overParts_25 : decode prog_14_method_112_code 25 = .ok (.iload_n 1, 1) := by decide +kernel
theorem d_X12_overParts_24 : decode prog_14_method_112_code 24 = .ok (.aload_n 0, 1) := by decide +kernel
theorem d_X12_overParts_33 : decode prog_14_method_112_code 33 = .ok (.iload 4, 2) := by decide +kernel
theorem d_X12_overParts_31 : decode prog_14_method_112_code 31 = .ok (.istore 6, 2) := by decide +kernel
theorem d_X12_overParts_28 : decode prog_14_method_112_code 28 = .ok (.invokevirtual 452, 3) := by decide +kernel
theorem d_X12_overParts_35 : decode prog_14_method_112_code 35 = .ok (.aload_n 0, 1) := by decide +kernel
theorem d_X12_overParts_58 : decode prog_14_method_112_code 58 = .ok (.if_icmp .lt 7, 3) := by decide +kernel
theorem d_X12_overParts_48 : decode prog_14_method_112_code 48 = .ok (.goto 18, 3) := by decide +kernel
theorem d_X12_overParts_42 : decode prog_14_method_112_code 42 = .ok (.iload_n 3, 1) := by decide +kernel
theorem d_X12_overParts_39 : decode prog_14_method_112_code 39 = .ok (.invokevirtual 494, 3) := by decide +kernel
theorem d_X12_overParts_37 : decode prog_14_method_112_code 37 = .ok (.iload 5, 2) := by decide +kernel
theorem d_X12_overParts_46 : decode prog_14_method_112_code 46 = .ok (.iload 6, 2) := by decide +kernel
theorem d_X12_overParts_43 : decode prog_14_method_112_code 43 = .ok (.ifCond .eq 8, 3) := by decide +kernel
theorem d_X12_overParts_54 : decode prog_14_method_112_code 54 = .ok (.iload_n 1, 1) := by decide +kernel
theorem d_X12_overParts_53 : decode prog_14_method_112_code 53 = .ok (.aload_n 0, 1) := by decide +kernel
theorem d_X12_overParts_51 : decode prog_14_method_112_code 51 = .ok (.iload 6, 2) := by decide +kernel
theorem d_X12_overParts_55 : decode prog_14_method_112_code 55 = .ok (.invokevirtual 404, 3) := by decide +kernel
theorem d_X12_overParts_68 : decode prog_14_method_112_code 68 = .ok (.istore 4, 2) := by decide +kernel
theorem d_X12_overParts_65 : decode prog_14_method_112_code 65 = .ok (.iconst 0, 1) := by decide +kernel
theorem d_X12_overParts_62 : decode prog_14_method_112_code 62 = .ok (.goto 4, 3) := by decide +kernel
theorem d_X12_overParts_61 : decode prog_14_method_112_code 61 = .ok (.iconst 1, 1) := by decide +kernel
theorem d_X12_overParts_67 : decode prog_14_method_112_code 67 = .ok (.iadd, 1) := by decide +kernel
theorem d_X12_overParts_66 : decode prog_14_method_112_code 66 = .ok (.imul, 1) := by decide +kernel
theorem d_X12_overParts_76 : decode prog_14_method_112_code 76 = .ok (.iload 4, 2) := by decide +kernel
theorem d_X12_overParts_73 : decode prog_14_method_112_code 73 = .ok (.goto (-67), 3) := by decide +kernel
theorem d_X12_overParts_70 : decode prog_14_method_112_code 70 = .ok (.iinc 5 1, 3) := by decide +kernel
theorem d_X12_overParts_78 : decode prog_14_method_112_code 78 = .ok (.ireturn, 1) := by decide +kernel
theorem d_X12_weightOf_35 : decode prog_14_method_111_code 35 = .ok (.aload_n 0, 1) := by decide +kernel
theorem d_X12_weightOf_15 : decode prog_14_method_111_code 15 = .ok (.iload 4, 2) := by decide +kernel
theorem d_X12_weightOf_5 : decode prog_14_method_111_code 5 = .ok (.iload 4, 2) := by decide +kernel
theorem d_X12_weightOf_2 : decode prog_14_method_111_code 2 = .ok (.iconst 0, 1) := by decide +kernel
theorem d_X12_weightOf_1 : decode prog_14_method_111_code 1 = .ok (.istore_n 3, 1) := by decide +kernel
theorem d_X12_weightOf_0 : decode prog_14_method_111_code 0 = .ok (.iconst 1, 1) := by decide +kernel
theorem d_X12_weightOf_3 : decode prog_14_method_111_code 3 = .ok (.istore 4, 2) := by decide +kernel
theorem d_X12_weightOf_11 : decode prog_14_method_111_code 11 = .ok (.if_icmp .ge 54, 3) := by decide +kernel
theorem d_X12_weightOf_8 : decode prog_14_method_111_code 8 = .ok (.invokevirtual 347, 3) := by decide +kernel
theorem d_X12_weightOf_7 : decode prog_14_method_111_code 7 = .ok (.aload_n 0, 1) := by decide +kernel
theorem d_X12_weightOf_14 : decode prog_14_method_111_code 14 = .ok (.iload_n 1, 1) := by decide +kernel
theorem d_X12_weightOf_25 : decode prog_14_method_111_code 25 = .ok (.iload 4, 2) := by decide +kernel
theorem d_X12_weightOf_23 : decode prog_14_method_111_code 23 = .ok (.iload_n 3, 1) := by decide +kernel
theorem d_X12_weightOf_20 : decode prog_14_method_111_code 20 = .ok (.ifCond .eq 39, 3) := by decide +kernel
theorem d_X12_weightOf_17 : decode prog_14_method_111_code 17 = .ok (.invokestatic 357, 3) := by decide +kernel
theorem d_X12_weightOf_24 : decode prog_14_method_111_code 24 = .ok (.iload_n 2, 1) := by decide +kernel
theorem d_X12_weightOf_30 : decode prog_14_method_111_code 30 = .ok (.ifCond .eq 18, 3) := by decide +kernel
theorem d_X12_weightOf_27 : decode prog_14_method_111_code 27 = .ok (.invokestatic 357, 3) := by decide +kernel
theorem d_X12_weightOf_33 : decode prog_14_method_111_code 33 = .ok (.bipush 100, 2) := by decide +kernel
theorem d_X12_weightOf_52 : decode prog_14_method_111_code 52 = .ok (.aload_n 0, 1) := by decide +kernel
theorem d_X12_weightOf_44 : decode prog_14_method_111_code 44 = .ok (.isub, 1) := by decide +kernel
theorem d_X12_weightOf_40 : decode prog_14_method_111_code 40 = .ok (.getfield 251, 3) := by decide +kernel
theorem d_X12_weightOf_39 : decode prog_14_method_111_code 39 = .ok (.aload_n 0, 1) := by decide +kernel
theorem d_X12_weightOf_36 : decode prog_14_method_111_code 36 = .ok (.getfield 30, 3) := by decide +kernel
theorem d_X12_weightOf_43 : decode prog_14_method_111_code 43 = .ok (.iaload, 1) := by decide +kernel
theorem d_X12_weightOf_48 : decode prog_14_method_111_code 48 = .ok (.aload_n 0, 1) := by decide +kernel
theorem d_X12_weightOf_45 : decode prog_14_method_111_code 45 = .ok (.goto 12, 3) := by decide +kernel
theorem d_X12_weightOf_49 : decode prog_14_method_111_code 49 = .ok (.getfield 30, 3) := by decide +kernel
theorem d_X12_weightOf_59 : decode prog_14_method_111_code 59 = .ok (.iinc 4 1, 3) := by decide +kernel
theorem d_X12_weightOf_57 : decode prog_14_method_111_code 57 = .ok (.imul, 1) := by decide +kernel
theorem d_X12_weightOf_56 : decode prog_14_method_111_code 56 = .ok (.iaload, 1) := by decide +kernel
theorem d_X12_weightOf_53 : decode prog_14_method_111_code 53 = .ok (.getfield 251, 3) := by decide +kernel
theorem d_X12_weightOf_58 : decode prog_14_method_111_code 58 = .ok (.istore_n 3, 1) := by decide +kernel
theorem d_X12_weightOf_65 : decode prog_14_method_111_code 65 = .ok (.iload_n 3, 1) := by decide +kernel
theorem d_X12_weightOf_62 : decode prog_14_method_111_code 62 = .ok (.goto (-57), 3) := by decide +kernel
theorem d_X12_weightOf_66 : decode prog_14_method_111_code 66 = .ok (.ireturn, 1) := by decide +kernel
theorem d_X12_openedWith_7 : decode prog_14_method_62_code 7 = .ok (.invokevirtual 407, 3) := by decide +kernel
theorem d_X12_openedWith_2 : decode prog_14_method_62_code 2 = .ok (.invokevirtual 392, 3) := by decide +kernel
theorem d_X12_openedWith_1 : decode prog_14_method_62_code 1 = .ok (.iload_n 1, 1) := by decide +kernel
theorem d_X12_openedWith_0 : decode prog_14_method_62_code 0 = .ok (.aload_n 0, 1) := by decide +kernel
theorem d_X12_openedWith_6 : decode prog_14_method_62_code 6 = .ok (.iload_n 2, 1) := by decide +kernel
theorem d_X12_openedWith_5 : decode prog_14_method_62_code 5 = .ok (.aload_n 0, 1) := by decide +kernel
theorem d_X12_openedWith_12 : decode prog_14_method_62_code 12 = .ok (.invokevirtual 395, 3) := by decide +kernel
theorem d_X12_openedWith_11 : decode prog_14_method_62_code 11 = .ok (.iload_n 1, 1) := by decide +kernel
theorem d_X12_openedWith_10 : decode prog_14_method_62_code 10 = .ok (.aload_n 0, 1) := by decide +kernel
theorem d_X12_openedWith_15 : decode prog_14_method_62_code 15 = .ok (.ireturn, 1) := by decide +kernel
theorem d_X12_mayAll_31 : decode prog_14_method_110_code 31 = .ok (.aload_n 0, 1) := by decide +kernel
theorem d_X12_mayAll_16 : decode prog_14_method_110_code 16 = .ok (.iload_n 2, 1) := by decide +kernel
theorem d_X12_mayAll_8 : decode prog_14_method_110_code 8 = .ok (.aload_n 0, 1) := by decide +kernel
theorem d_X12_mayAll_2 : decode prog_14_method_110_code 2 = .ok (.invokevirtual 398, 3) := by decide +kernel
theorem d_X12_mayAll_1 : decode prog_14_method_110_code 1 = .ok (.iload_n 1, 1) := by decide +kernel
theorem d_X12_mayAll_0 : decode prog_14_method_110_code 0 = .ok (.aload_n 0, 1) := by decide +kernel
theorem d_X12_mayAll_5 : decode prog_14_method_110_code 5 = .ok (.ifCond .eq 19, 3) := by decide +kernel
theorem d_X12_mayAll_10 : decode prog_14_method_110_code 10 = .ok (.invokevirtual 458, 3) := by decide +kernel
theorem d_X12_mayAll_9 : decode prog_14_method_110_code 9 = .ok (.iload_n 2, 1) := by decide +kernel
theorem d_X12_mayAll_13 : decode prog_14_method_110_code 13 = .ok (.ifCond .eq 11, 3) := by decide +kernel
theorem d_X12_mayAll_25 : decode prog_14_method_110_code 25 = .ok (.ireturn, 1) := by decide +kernel
theorem d_X12_mayAll_21 : decode prog_14_method_110_code 21 = .ok (.if_icmp .le 5, 3) := by decide +kernel
theorem d_X12_mayAll_20 : decode prog_14_method_110_code 20 = .ok (.iload_n 3, 1) := by decide +kernel
theorem d_X12_mayAll_17 : decode prog_14_method_110_code 17 = .ok (.invokestatic 449, 3) := by decide +kernel
theorem d_X12_mayAll_24 : decode prog_14_method_110_code 24 = .ok (.iconst 0, 1) := by decide +kernel
theorem d_X12_mayAll_27 : decode prog_14_method_110_code 27 = .ok (.istore 4, 2) := by decide +kernel
theorem d_X12_mayAll_26 : decode prog_14_method_110_code 26 = .ok (.iconst 0, 1) := by decide +kernel
theorem d_X12_mayAll_29 : decode prog_14_method_110_code 29 = .ok (.iload 4, 2) := by decide +kernel
theorem d_X12_mayAll_50 : decode prog_14_method_110_code 50 = .ok (.iload_n 1, 1) := by decide +kernel
theorem d_X12_mayAll_41 : decode prog_14_method_110_code 41 = .ok (.invokestatic 357, 3) := by decide +kernel
theorem d_X12_mayAll_38 : decode prog_14_method_110_code 38 = .ok (.iload_n 2, 1) := by decide +kernel
theorem d_X12_mayAll_35 : decode prog_14_method_110_code 35 = .ok (.if_icmp .ge 30, 3) := by decide +kernel
theorem d_X12_mayAll_32 : decode prog_14_method_110_code 32 = .ok (.invokevirtual 347, 3) := by decide +kernel
theorem d_X12_mayAll_39 : decode prog_14_method_110_code 39 = .ok (.iload 4, 2) := by decide +kernel
theorem d_X12_mayAll_47 : decode prog_14_method_110_code 47 = .ok (.aload_n 0, 1) := by decide +kernel
theorem d_X12_mayAll_44 : decode prog_14_method_110_code 44 = .ok (.ifCond .eq 15, 3) := by decide +kernel
theorem d_X12_mayAll_48 : decode prog_14_method_110_code 48 = .ok (.iload 4, 2) := by decide +kernel
theorem d_X12_mayAll_59 : decode prog_14_method_110_code 59 = .ok (.iinc 4 1, 3) := by decide +kernel
theorem d_X12_mayAll_57 : decode prog_14_method_110_code 57 = .ok (.iconst 0, 1) := by decide +kernel
theorem d_X12_mayAll_54 : decode prog_14_method_110_code 54 = .ok (.ifCond .ne 5, 3) := by decide +kernel
theorem d_X12_mayAll_51 : decode prog_14_method_110_code 51 = .ok (.invokevirtual 413, 3) := by decide +kernel
theorem d_X12_mayAll_58 : decode prog_14_method_110_code 58 = .ok (.ireturn, 1) := by decide +kernel
theorem d_X12_mayAll_65 : decode prog_14_method_110_code 65 = .ok (.iconst 1, 1) := by decide +kernel
theorem d_X12_mayAll_62 : decode prog_14_method_110_code 62 = .ok (.goto (-33), 3) := by decide +kernel
theorem d_X12_mayAll_66 : decode prog_14_method_110_code 66 = .ok (.ireturn, 1) := by decide +kernel
theorem d_X12_mayVote_27 : decode prog_14_method_63_code 27 = .ok (.ifCond .ne 22, 3) := by decide +kernel
theorem d_X12_mayVote_13 : decode prog_14_method_63_code 13 = .ok (.ifCond .eq 36, 3) := by decide +kernel
theorem d_X12_mayVote_5 : decode prog_14_method_63_code 5 = .ok (.ifCond .eq 44, 3) := by decide +kernel
theorem d_X12_mayVote_1 : decode prog_14_method_63_code 1 = .ok (.iload_n 1, 1) := by decide +kernel
theorem d_X12_mayVote_0 : decode prog_14_method_63_code 0 = .ok (.aload_n 0, 1) := by decide +kernel
theorem d_X12_mayVote_2 : decode prog_14_method_63_code 2 = .ok (.invokevirtual 410, 3) := by decide +kernel
theorem d_X12_mayVote_9 : decode prog_14_method_63_code 9 = .ok (.iload_n 2, 1) := by decide +kernel
theorem d_X12_mayVote_8 : decode prog_14_method_63_code 8 = .ok (.aload_n 0, 1) := by decide +kernel
theorem d_X12_mayVote_10 : decode prog_14_method_63_code 10 = .ok (.invokevirtual 398, 3) := by decide +kernel
theorem d_X12_mayVote_22 : decode prog_14_method_63_code 22 = .ok (.iaload, 1) := by decide +kernel
theorem d_X12_mayVote_17 : decode prog_14_method_63_code 17 = .ok (.getfield 89, 3) := by decide +kernel
theorem d_X12_mayVote_16 : decode prog_14_method_63_code 16 = .ok (.aload_n 0, 1) := by decide +kernel
theorem d_X12_mayVote_20 : decode prog_14_method_63_code 20 = .ok (.bipush 30, 2) := by decide +kernel
theorem d_X12_mayVote_24 : decode prog_14_method_63_code 24 = .ok (.invokestatic 357, 3) := by decide +kernel
theorem d_X12_mayVote_23 : decode prog_14_method_63_code 23 = .ok (.iload_n 1, 1) := by decide +kernel
theorem d_X12_mayVote_38 : decode prog_14_method_63_code 38 = .ok (.iload_n 1, 1) := by decide +kernel
theorem d_X12_mayVote_35 : decode prog_14_method_63_code 35 = .ok (.iload_n 2, 1) := by decide +kernel
theorem d_X12_mayVote_31 : decode prog_14_method_63_code 31 = .ok (.getfield 89, 3) := by decide +kernel
theorem d_X12_mayVote_30 : decode prog_14_method_63_code 30 = .ok (.aload_n 0, 1) := by decide +kernel
theorem d_X12_mayVote_34 : decode prog_14_method_63_code 34 = .ok (.iconst 5, 1) := by decide +kernel
theorem d_X12_mayVote_37 : decode prog_14_method_63_code 37 = .ok (.iaload, 1) := by decide +kernel
theorem d_X12_mayVote_36 : decode prog_14_method_63_code 36 = .ok (.iadd, 1) := by decide +kernel
theorem d_X12_mayVote_46 : decode prog_14_method_63_code 46 = .ok (.goto 4, 3) := by decide +kernel
theorem d_X12_mayVote_42 : decode prog_14_method_63_code 42 = .ok (.ifCond .ne 7, 3) := by decide +kernel
theorem d_X12_mayVote_39 : decode prog_14_method_63_code 39 = .ok (.invokestatic 357, 3) := by decide +kernel
theorem d_X12_mayVote_45 : decode prog_14_method_63_code 45 = .ok (.iconst 1, 1) := by decide +kernel
theorem d_X12_mayVote_50 : decode prog_14_method_63_code 50 = .ok (.ireturn, 1) := by decide +kernel
theorem d_X12_mayVote_49 : decode prog_14_method_63_code 49 = .ok (.iconst 0, 1) := by decide +kernel
theorem d_X11_mean_12 : decode prog_1_method_26_code 12 = .ok (.aload_n 0, 1) := by decide +kernel
theorem d_X11_mean_5 : decode prog_1_method_26_code 5 = .ok (.iload_n 2, 1) := by decide +kernel
theorem d_X11_mean_1 : decode prog_1_method_26_code 1 = .ok (.getfield 80, 3) := by decide +kernel
theorem d_X11_mean_0 : decode prog_1_method_26_code 0 = .ok (.aload_n 0, 1) := by decide +kernel
theorem d_X11_mean_4 : decode prog_1_method_26_code 4 = .ok (.iload_n 1, 1) := by decide +kernel
theorem d_X11_mean_9 : decode prog_1_method_26_code 9 = .ok (.ifCond .eq 14, 3) := by decide +kernel
theorem d_X11_mean_6 : decode prog_1_method_26_code 6 = .ok (.invokevirtual 282, 3) := by decide +kernel
theorem d_X11_mean_20 : decode prog_1_method_26_code 20 = .ok (.goto 4, 3) := by decide +kernel
theorem d_X11_mean_16 : decode prog_1_method_26_code 16 = .ok (.iload_n 3, 1) := by decide +kernel
theorem d_X11_mean_13 : decode prog_1_method_26_code 13 = .ok (.getfield 80, 3) := by decide +kernel
theorem d_X11_mean_17 : decode prog_1_method_26_code 17 = .ok (.invokevirtual 267, 3) := by decide +kernel
theorem d_X11_mean_24 : decode prog_1_method_26_code 24 = .ok (.ireturn, 1) := by decide +kernel
theorem d_X11_mean_23 : decode prog_1_method_26_code 23 = .ok (.iconst (-1), 1) := by decide +kernel
theorem d_X2_part_24 : decode prog_4_method_2_code 24 = .ok (.ifCond .ne 5, 3) := by decide +kernel
theorem d_X2_part_13 : decode prog_4_method_2_code 13 = .ok (.ifCond .lt 14, 3) := by decide +kernel
theorem d_X2_part_5 : decode prog_4_method_2_code 5 = .ok (.getfield 31, 3) := by decide +kernel
theorem d_X2_part_1 : decode prog_4_method_2_code 1 = .ok (.getfield 27, 3) := by decide +kernel
theorem d_X2_part_0 : decode prog_4_method_2_code 0 = .ok (.aload_n 0, 1) := by decide +kernel
theorem d_X2_part_4 : decode prog_4_method_2_code 4 = .ok (.aload_n 0, 1) := by decide +kernel
theorem d_X2_part_11 : decode prog_4_method_2_code 11 = .ok (.lstore_n 2, 1) := by decide +kernel
theorem d_X2_part_8 : decode prog_4_method_2_code 8 = .ok (.invokestatic 34, 3) := by decide +kernel
theorem d_X2_part_12 : decode prog_4_method_2_code 12 = .ok (.iload_n 1, 1) := by decide +kernel
theorem d_X2_part_21 : decode prog_4_method_2_code 21 = .ok (.lload_n 2, 1) := by decide +kernel
theorem d_X2_part_17 : decode prog_4_method_2_code 17 = .ok (.iconst 1, 1) := by decide +kernel
theorem d_X2_part_16 : decode prog_4_method_2_code 16 = .ok (.iload_n 1, 1) := by decide +kernel
theorem d_X2_part_18 : decode prog_4_method_2_code 18 = .ok (.if_icmp .gt 9, 3) := by decide +kernel
theorem d_X2_part_23 : decode prog_4_method_2_code 23 = .ok (.lcmp, 1) := by decide +kernel
theorem d_X2_part_22 : decode prog_4_method_2_code 22 = .ok (.lconst 0, 1) := by decide +kernel
theorem d_X2_part_37 : decode prog_4_method_2_code 37 = .ok (.goto 7, 3) := by decide +kernel
theorem d_X2_part_30 : decode prog_4_method_2_code 30 = .ok (.ifCond .ne 10, 3) := by decide +kernel
theorem d_X2_part_28 : decode prog_4_method_2_code 28 = .ok (.ireturn, 1) := by decide +kernel
theorem d_X2_part_27 : decode prog_4_method_2_code 27 = .ok (.iconst (-1), 1) := by decide +kernel
theorem d_X2_part_29 : decode prog_4_method_2_code 29 = .ok (.iload_n 1, 1) := by decide +kernel
theorem d_X2_part_34 : decode prog_4_method_2_code 34 = .ok (.getfield 27, 3) := by decide +kernel
theorem d_X2_part_33 : decode prog_4_method_2_code 33 = .ok (.aload_n 0, 1) := by decide +kernel
theorem d_X2_part_45 : decode prog_4_method_2_code 45 = .ok (.ldiv, 1) := by decide +kernel
theorem d_X2_part_41 : decode prog_4_method_2_code 41 = .ok (.getfield 31, 3) := by decide +kernel
theorem d_X2_part_40 : decode prog_4_method_2_code 40 = .ok (.aload_n 0, 1) := by decide +kernel
theorem d_X2_part_44 : decode prog_4_method_2_code 44 = .ok (.lload_n 2, 1) := by decide +kernel
theorem d_X2_part_47 : decode prog_4_method_2_code 47 = .ok (.ireturn, 1) := by decide +kernel
theorem d_X2_part_46 : decode prog_4_method_2_code 46 = .ok (.l2i, 1) := by decide +kernel
theorem d_X2_commonDivisor_17 : decode prog_4_method_11_code 17 = .ok (.lload_n 2, 1) := by decide +kernel
theorem d_X2_commonDivisor_10 : decode prog_4_method_11_code 10 = .ok (.lload_n 2, 1) := by decide +kernel
theorem d_X2_commonDivisor_3 : decode prog_4_method_11_code 3 = .ok (.iload 4, 2) := by decide +kernel
theorem d_X2_commonDivisor_1 : decode prog_4_method_11_code 1 = .ok (.istore 4, 2) := by decide +kernel
theorem d_X2_commonDivisor_0 : decode prog_4_method_11_code 0 = .ok (.iconst 0, 1) := by decide +kernel
theorem d_X2_commonDivisor_7 : decode prog_4_method_11_code 7 = .ok (.if_icmp .ge 25, 3) := by decide +kernel
theorem d_X2_commonDivisor_5 : decode prog_4_method_11_code 5 = .ok (.bipush 100, 2) := by decide +kernel
theorem d_X2_commonDivisor_13 : decode prog_4_method_11_code 13 = .ok (.ifCond .eq 19, 3) := by decide +kernel
theorem d_X2_commonDivisor_12 : decode prog_4_method_11_code 12 = .ok (.lcmp, 1) := by decide +kernel
theorem d_X2_commonDivisor_11 : decode prog_4_method_11_code 11 = .ok (.lconst 0, 1) := by decide +kernel
