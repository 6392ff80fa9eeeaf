theorem d_X12_house_20 : decode prog_14_method_18_code 20 = .ok (.iload_n 1, 1) := by decide +kernel
theorem d_X12_house_19 : decode prog_14_method_18_code 19 = .ok (.istore_n 1, 1) := by decide +kernel
theorem d_X12_house_52 : decode prog_14_method_18_code 52 = .ok (.iconst 0, 1) := by decide +kernel
theorem d_X12_house_47 : decode prog_14_method_18_code 47 = .ok (.iconst 0, 1) := by decide +kernel
theorem d_X12_house_25 : decode prog_14_method_18_code 25 = .ok (.if_icmp .ge 21, 3) := by decide +kernel
theorem d_X12_house_22 : decode prog_14_method_18_code 22 = .ok (.getfield 137, 3) := by decide +kernel
theorem d_X12_house_46 : decode prog_14_method_18_code 46 = .ok (.aload_n 0, 1) := by decide +kernel
theorem d_X12_house_51 : decode prog_14_method_18_code 51 = .ok (.aload_n 0, 1) := by decide +kernel
theorem d_X12_house_48 : decode prog_14_method_18_code 48 = .ok (.putfield 248, 3) := by decide +kernel
theorem d_X12_house_57 : decode prog_14_method_18_code 57 = .ok (.iconst 1, 1) := by decide +kernel
theorem d_X12_house_56 : decode prog_14_method_18_code 56 = .ok (.aload_n 0, 1) := by decide +kernel
theorem d_X12_house_53 : decode prog_14_method_18_code 53 = .ok (.putfield 179, 3) := by decide +kernel
theorem d_X12_house_59 : decode prog_14_method_18_code 59 = .ok (.getfield 251, 3) := by decide +kernel
theorem d_X12_house_58 : decode prog_14_method_18_code 58 = .ok (.aload_n 0, 1) := by decide +kernel
theorem d_X12_house_99 : decode prog_14_method_18_code 99 = .ok (.ifCond .ne 5, 3) := by decide +kernel
theorem d_X12_house_75 : decode prog_14_method_18_code 75 = .ok (.invokevirtual 217, 3) := by decide +kernel
theorem d_X12_house_70 : decode prog_14_method_18_code 70 = .ok (.aload_n 0, 1) := by decide +kernel
theorem d_X12_house_66 : decode prog_14_method_18_code 66 = .ok (.aload_n 0, 1) := by decide +kernel
theorem d_X12_house_63 : decode prog_14_method_18_code 63 = .ok (.putfield 242, 3) := by decide +kernel
theorem d_X12_house_67 : decode prog_14_method_18_code 67 = .ok (.invokevirtual 131, 3) := by decide +kernel
theorem d_X12_house_74 : decode prog_14_method_18_code 74 = .ok (.aload_n 0, 1) := by decide +kernel
theorem d_X12_house_71 : decode prog_14_method_18_code 71 = .ok (.invokevirtual 221, 3) := by decide +kernel
theorem d_X12_house_85 : decode prog_14_method_18_code 85 = .ok (.ifCond .eq 10, 3) := by decide +kernel
theorem d_X12_house_81 : decode prog_14_method_18_code 81 = .ok (.aload_n 0, 1) := by decide +kernel
theorem d_X12_house_78 : decode prog_14_method_18_code 78 = .ok (.ifCond .eq 17, 3) := by decide +kernel
theorem d_X12_house_82 : decode prog_14_method_18_code 82 = .ok (.getfield 189, 3) := by decide +kernel
theorem d_X12_house_96 : decode prog_14_method_18_code 96 = .ok (.invokevirtual 217, 3) := by decide +kernel
theorem d_X12_house_95 : decode prog_14_method_18_code 95 = .ok (.aload_n 0, 1) := by decide +kernel
theorem d_X12_house_116 : decode prog_14_method_18_code 116 = .ok (.aload_n 0, 1) := by decide +kernel
theorem d_X12_house_109 : decode prog_14_method_18_code 109 = .ok (.putfield 251, 3) := by decide +kernel
theorem d_X12_house_105 : decode prog_14_method_18_code 105 = .ok (.aload_n 0, 1) := by decide +kernel
theorem d_X12_house_104 : decode prog_14_method_18_code 104 = .ok (.aload_n 0, 1) := by decide +kernel
theorem d_X12_house_106 : decode prog_14_method_18_code 106 = .ok (.getfield 242, 3) := by decide +kernel
theorem d_X12_house_113 : decode prog_14_method_18_code 113 = .ok (.invokevirtual 134, 3) := by decide +kernel
theorem d_X12_house_112 : decode prog_14_method_18_code 112 = .ok (.aload_n 0, 1) := by decide +kernel
theorem d_X12_house_121 : decode prog_14_method_18_code 121 = .ok (.getfield 251, 3) := by decide +kernel
theorem d_X12_house_120 : decode prog_14_method_18_code 120 = .ok (.aload_n 0, 1) := by decide +kernel
theorem d_X12_house_117 : decode prog_14_method_18_code 117 = .ok (.getfield 20, 3) := by decide +kernel
theorem d_X12_house_125 : decode prog_14_method_18_code 125 = .ok (.ireturn, 1) := by decide +kernel
theorem d_X12_house_124 : decode prog_14_method_18_code 124 = .ok (.iaload, 1) := by decide +kernel
theorem d_X11_fault_36 : decode prog_1_method_5_code 36 = .ok (.aload_n 0, 1) := by decide +kernel
theorem d_X11_fault_29 : decode prog_1_method_5_code 29 = .ok (.getfield 31, 3) := by decide +kernel
theorem d_X11_fault_1 : decode prog_1_method_5_code 1 = .ok (.lookupswitch 43 #[(0, 27), (1, 35)], 27) := by decide +kernel
theorem d_X11_fault_0 : decode prog_1_method_5_code 0 = .ok (.iload_n 1, 1) := by decide +kernel
theorem d_X11_fault_28 : decode prog_1_method_5_code 28 = .ok (.aload_n 0, 1) := by decide +kernel
theorem d_X11_fault_35 : decode prog_1_method_5_code 35 = .ok (.ireturn, 1) := by decide +kernel
theorem d_X11_fault_32 : decode prog_1_method_5_code 32 = .ok (.getfield 135, 3) := by decide +kernel
theorem d_X11_fault_43 : decode prog_1_method_5_code 43 = .ok (.ireturn, 1) := by decide +kernel
theorem d_X11_fault_40 : decode prog_1_method_5_code 40 = .ok (.getfield 138, 3) := by decide +kernel
theorem d_X11_fault_37 : decode prog_1_method_5_code 37 = .ok (.getfield 31, 3) := by decide +kernel
theorem d_X11_fault_45 : decode prog_1_method_5_code 45 = .ok (.ireturn, 1) := by decide +kernel
theorem d_X11_fault_44 : decode prog_1_method_5_code 44 = .ok (.iconst (-1), 1) := by decide +kernel
theorem d_X12_fault_12 : decode prog_14_method_37_code 12 = .ok (.iconst 1, 1) := by decide +kernel
theorem d_X12_fault_5 : decode prog_14_method_37_code 5 = .ok (.getfield 140, 3) := by decide +kernel
theorem d_X12_fault_1 : decode prog_14_method_37_code 1 = .ok (.ifCond .ne 10, 3) := by decide +kernel
theorem d_X12_fault_0 : decode prog_14_method_37_code 0 = .ok (.iload_n 1, 1) := by decide +kernel
theorem d_X12_fault_4 : decode prog_14_method_37_code 4 = .ok (.aload_n 0, 1) := by decide +kernel
theorem d_X12_fault_11 : decode prog_14_method_37_code 11 = .ok (.iload_n 1, 1) := by decide +kernel
theorem d_X12_fault_8 : decode prog_14_method_37_code 8 = .ok (.goto 16, 3) := by decide +kernel
theorem d_X12_fault_20 : decode prog_14_method_37_code 20 = .ok (.goto 4, 3) := by decide +kernel
theorem d_X12_fault_16 : decode prog_14_method_37_code 16 = .ok (.aload_n 0, 1) := by decide +kernel
theorem d_X12_fault_13 : decode prog_14_method_37_code 13 = .ok (.if_icmp .ne 10, 3) := by decide +kernel
theorem d_X12_fault_17 : decode prog_14_method_37_code 17 = .ok (.getfield 16, 3) := by decide +kernel
theorem d_X12_fault_24 : decode prog_14_method_37_code 24 = .ok (.ireturn, 1) := by decide +kernel
theorem d_X12_fault_23 : decode prog_14_method_37_code 23 = .ok (.iconst (-1), 1) := by decide +kernel
theorem d_X11_member_5 : decode prog_1_method_6_code 5 = .ok (.invokevirtual 141, 3) := by decide +kernel
theorem d_X11_member_1 : decode prog_1_method_6_code 1 = .ok (.getfield 19, 3) := by decide +kernel
theorem d_X11_member_0 : decode prog_1_method_6_code 0 = .ok (.aload_n 0, 1) := by decide +kernel
theorem d_X11_member_4 : decode prog_1_method_6_code 4 = .ok (.iload_n 1, 1) := by decide +kernel
theorem d_X11_member_11 : decode prog_1_method_6_code 11 = .ok (.iconst (-1), 1) := by decide +kernel
theorem d_X11_member_8 : decode prog_1_method_6_code 8 = .ok (.ifCond .ne 5, 3) := by decide +kernel
theorem d_X11_member_12 : decode prog_1_method_6_code 12 = .ok (.ireturn, 1) := by decide +kernel
theorem d_X12_member_5 : decode prog_14_method_66_code 5 = .ok (.ifCond .ne 5, 3) := by decide +kernel
theorem d_X12_member_1 : decode prog_14_method_66_code 1 = .ok (.iload_n 1, 1) := by decide +kernel
theorem d_X12_member_0 : decode prog_14_method_66_code 0 = .ok (.aload_n 0, 1) := by decide +kernel
theorem d_X12_member_2 : decode prog_14_method_66_code 2 = .ok (.invokevirtual 410, 3) := by decide +kernel
theorem d_X12_member_9 : decode prog_14_method_66_code 9 = .ok (.ireturn, 1) := by decide +kernel
theorem d_X12_member_8 : decode prog_14_method_66_code 8 = .ok (.iconst (-1), 1) := by decide +kernel
theorem d_X11_bill_5 : decode prog_1_method_7_code 5 = .ok (.invokevirtual 160, 3) := by decide +kernel
theorem d_X11_bill_1 : decode prog_1_method_7_code 1 = .ok (.getfield 19, 3) := by decide +kernel
theorem d_X11_bill_0 : decode prog_1_method_7_code 0 = .ok (.aload_n 0, 1) := by decide +kernel
theorem d_X11_bill_4 : decode prog_1_method_7_code 4 = .ok (.iload_n 1, 1) := by decide +kernel
theorem d_X11_bill_11 : decode prog_1_method_7_code 11 = .ok (.iconst (-1), 1) := by decide +kernel
theorem d_X11_bill_8 : decode prog_1_method_7_code 8 = .ok (.ifCond .ne 5, 3) := by decide +kernel
theorem d_X11_bill_12 : decode prog_1_method_7_code 12 = .ok (.ireturn, 1) := by decide +kernel
theorem d_X12_bill_5 : decode prog_14_method_68_code 5 = .ok (.ifCond .ne 5, 3) := by decide +kernel
theorem d_X12_bill_1 : decode prog_14_method_68_code 1 = .ok (.iload_n 1, 1) := by decide +kernel
theorem d_X12_bill_0 : decode prog_14_method_68_code 0 = .ok (.aload_n 0, 1) := by decide +kernel
theorem d_X12_bill_2 : decode prog_14_method_68_code 2 = .ok (.invokevirtual 354, 3) := by decide +kernel
theorem d_X12_bill_9 : decode prog_14_method_68_code 9 = .ok (.ireturn, 1) := by decide +kernel
theorem d_X12_bill_8 : decode prog_14_method_68_code 8 = .ok (.iconst (-1), 1) := by decide +kernel
theorem d_X11_vote_6 : decode prog_1_method_8_code 6 = .ok (.invokevirtual 179, 3) := by decide +kernel
theorem d_X11_vote_4 : decode prog_1_method_8_code 4 = .ok (.iload_n 1, 1) := by decide +kernel
theorem d_X11_vote_1 : decode prog_1_method_8_code 1 = .ok (.getfield 71, 3) := by decide +kernel
theorem d_X11_vote_0 : decode prog_1_method_8_code 0 = .ok (.aload_n 0, 1) := by decide +kernel
theorem d_X11_vote_5 : decode prog_1_method_8_code 5 = .ok (.iload_n 2, 1) := by decide +kernel
theorem d_X11_vote_12 : decode prog_1_method_8_code 12 = .ok (.iconst (-1), 1) := by decide +kernel
theorem d_X11_vote_9 : decode prog_1_method_8_code 9 = .ok (.ifCond .ne 5, 3) := by decide +kernel
theorem d_X11_vote_13 : decode prog_1_method_8_code 13 = .ok (.ireturn, 1) := by decide +kernel
theorem d_X12_vote_3 : decode prog_14_method_74_code 3 = .ok (.invokevirtual 413, 3) := by decide +kernel
theorem d_X12_vote_1 : decode prog_14_method_74_code 1 = .ok (.iload_n 1, 1) := by decide +kernel
theorem d_X12_vote_0 : decode prog_14_method_74_code 0 = .ok (.aload_n 0, 1) := by decide +kernel
theorem d_X12_vote_2 : decode prog_14_method_74_code 2 = .ok (.iload_n 2, 1) := by decide +kernel
theorem d_X12_vote_9 : decode prog_14_method_74_code 9 = .ok (.iconst (-1), 1) := by decide +kernel
theorem d_X12_vote_6 : decode prog_14_method_74_code 6 = .ok (.ifCond .ne 5, 3) := by decide +kernel
theorem d_X12_vote_10 : decode prog_14_method_74_code 10 = .ok (.ireturn, 1) := by decide +kernel
theorem d_X11_shake_10 : decode prog_1_method_9_code 10 = .ok (.aload_n 0, 1) := by decide +kernel
theorem d_X11_shake_5 : decode prog_1_method_9_code 5 = .ok (.iconst 4, 1) := by decide +kernel
theorem d_X11_shake_1 : decode prog_1_method_9_code 1 = .ok (.getfield 38, 3) := by decide +kernel
theorem d_X11_shake_0 : decode prog_1_method_9_code 0 = .ok (.aload_n 0, 1) := by decide +kernel
theorem d_X11_shake_4 : decode prog_1_method_9_code 4 = .ok (.iload_n 1, 1) := by decide +kernel
theorem d_X11_shake_9 : decode prog_1_method_9_code 9 = .ok (.istore_n 2, 1) := by decide +kernel
theorem d_X11_shake_6 : decode prog_1_method_9_code 6 = .ok (.invokevirtual 163, 3) := by decide +kernel
theorem d_X11_shake_18 : decode prog_1_method_9_code 18 = .ok (.ifCond .eq 20, 3) := by decide +kernel
theorem d_X11_shake_14 : decode prog_1_method_9_code 14 = .ok (.iload_n 1, 1) := by decide +kernel
theorem d_X11_shake_11 : decode prog_1_method_9_code 11 = .ok (.getfield 71, 3) := by decide +kernel
theorem d_X11_shake_15 : decode prog_1_method_9_code 15 = .ok (.invokevirtual 202, 3) := by decide +kernel
theorem d_X11_shake_39 : decode prog_1_method_9_code 39 = .ok (.ireturn, 1) := by decide +kernel
theorem d_X11_shake_38 : decode prog_1_method_9_code 38 = .ok (.iconst (-1), 1) := by decide +kernel
theorem d_X12_shake_5 : decode prog_14_method_76_code 5 = .ok (.ifCond .ne 5, 3) := by decide +kernel
theorem d_X12_shake_1 : decode prog_14_method_76_code 1 = .ok (.iload_n 1, 1) := by decide +kernel
theorem d_X12_shake_0 : decode prog_14_method_76_code 0 = .ok (.aload_n 0, 1) := by decide +kernel
theorem d_X12_shake_2 : decode prog_14_method_76_code 2 = .ok (.invokevirtual 434, 3) := by decide +kernel
theorem d_X12_shake_9 : decode prog_14_method_76_code 9 = .ok (.ireturn, 1) := by decide +kernel
theorem d_X12_shake_8 : decode prog_14_method_76_code 8 = .ok (.iconst (-1), 1) := by decide +kernel
theorem d_X11_shelve_10 : decode prog_1_method_10_code 10 = .ok (.aload_n 0, 1) := by decide +kernel
theorem d_X11_shelve_5 : decode prog_1_method_10_code 5 = .ok (.iconst 3, 1) := by decide +kernel
theorem d_X11_shelve_1 : decode prog_1_method_10_code 1 = .ok (.getfield 38, 3) := by decide +kernel
theorem d_X11_shelve_0 : decode prog_1_method_10_code 0 = .ok (.aload_n 0, 1) := by decide +kernel
theorem d_X11_shelve_4 : decode prog_1_method_10_code 4 = .ok (.iload_n 1, 1) := by decide +kernel
theorem d_X11_shelve_9 : decode prog_1_method_10_code 9 = .ok (.istore_n 3, 1) := by decide +kernel
theorem d_X11_shelve_6 : decode prog_1_method_10_code 6 = .ok (.invokevirtual 163, 3) := by decide +kernel
theorem d_X11_shelve_18 : decode prog_1_method_10_code 18 = .ok (.ifCond .eq 18, 3) := by decide +kernel
theorem d_X11_shelve_14 : decode prog_1_method_10_code 14 = .ok (.iload_n 1, 1) := by decide +kernel
theorem d_X11_shelve_11 : decode prog_1_method_10_code 11 = .ok (.getfield 71, 3) := by decide +kernel
theorem d_X11_shelve_15 : decode prog_1_method_10_code 15 = .ok (.invokevirtual 202, 3) := by decide +kernel
theorem d_X11_shelve_37 : decode prog_1_method_10_code 37 = .ok (.ireturn, 1) := by decide +kernel
theorem d_X11_shelve_36 : decode prog_1_method_10_code 36 = .ok (.iconst (-1), 1) := by decide +kernel
theorem d_X12_shelve_5 : decode prog_14_method_77_code 5 = .ok (.ifCond .eq 26, 3) := by decide +kernel
theorem d_X12_shelve_1 : decode prog_14_method_77_code 1 = .ok (.iload_n 1, 1) := by decide +kernel
theorem d_X12_shelve_0 : decode prog_14_method_77_code 0 = .ok (.aload_n 0, 1) := by decide +kernel
theorem d_X12_shelve_2 : decode prog_14_method_77_code 2 = .ok (.invokevirtual 398, 3) := by decide +kernel
theorem d_X12_shelve_32 : decode prog_14_method_77_code 32 = .ok (.ireturn, 1) := by decide +kernel
theorem d_X12_shelve_31 : decode prog_14_method_77_code 31 = .ok (.iconst (-1), 1) := by decide +kernel
theorem d_X11_join_6 : decode prog_1_method_11_code 6 = .ok (.invokevirtual 212, 3) := by decide +kernel
theorem d_X11_join_4 : decode prog_1_method_11_code 4 = .ok (.iload_n 1, 1) := by decide +kernel
theorem d_X11_join_1 : decode prog_1_method_11_code 1 = .ok (.getfield 71, 3) := by decide +kernel
theorem d_X11_join_0 : decode prog_1_method_11_code 0 = .ok (.aload_n 0, 1) := by decide +kernel
theorem d_X11_join_5 : decode prog_1_method_11_code 5 = .ok (.iload_n 2, 1) := by decide +kernel
theorem d_X11_join_12 : decode prog_1_method_11_code 12 = .ok (.iconst (-1), 1) := by decide +kernel
theorem d_X11_join_9 : decode prog_1_method_11_code 9 = .ok (.ifCond .ne 5, 3) := by decide +kernel
theorem d_X11_join_13 : decode prog_1_method_11_code 13 = .ok (.ireturn, 1) := by decide +kernel
theorem d_X12_join_3 : decode prog_14_method_80_code 3 = .ok (.invokevirtual 437, 3) := by decide +kernel
theorem d_X12_join_1 : decode prog_14_method_80_code 1 = .ok (.iload_n 1, 1) := by decide +kernel
theorem d_X12_join_0 : decode prog_14_method_80_code 0 = .ok (.aload_n 0, 1) := by decide +kernel
theorem d_X12_join_2 : decode prog_14_method_80_code 2 = .ok (.iload_n 2, 1) := by decide +kernel
theorem d_X12_join_9 : decode prog_14_method_80_code 9 = .ok (.iconst (-1), 1) := by decide +kernel
theorem d_X12_join_6 : decode prog_14_method_80_code 6 = .ok (.ifCond .ne 5, 3) := by decide +kernel
theorem d_X12_join_10 : decode prog_14_method_80_code 10 = .ok (.ireturn, 1) := by decide +kernel
theorem d_X11_day_31 : decode prog_1_method_12_code 31 = .ok (.getfield 19, 3) := by decide +kernel
theorem d_X11_day_22 : decode prog_1_method_12_code 22 = .ok (.iconst 1, 1) := by decide +kernel
theorem d_X11_day_10 : decode prog_1_method_12_code 10 = .ok (.if_icmp .lt 5, 3) := by decide +kernel
theorem d_X11_day_4 : decode prog_1_method_12_code 4 = .ok (.getfield 221, 3) := by decide +kernel
theorem d_X11_day_1 : decode prog_1_method_12_code 1 = .ok (.getfield 38, 3) := by decide +kernel
theorem d_X11_day_0 : decode prog_1_method_12_code 0 = .ok (.aload_n 0, 1) := by decide +kernel
theorem d_X11_day_7 : decode prog_1_method_12_code 7 = .ok (.sipush 999, 3) := by decide +kernel
theorem d_X11_day_16 : decode prog_1_method_12_code 16 = .ok (.getfield 38, 3) := by decide +kernel
theorem d_X11_day_15 : decode prog_1_method_12_code 15 = .ok (.aload_n 0, 1) := by decide +kernel
theorem d_X11_day_19 : decode prog_1_method_12_code 19 = .ok (.getfield 221, 3) := by decide +kernel
theorem d_X11_day_27 : decode prog_1_method_12_code 27 = .ok (.iconst 0, 1) := by decide +kernel
theorem d_X11_day_25 : decode prog_1_method_12_code 25 = .ok (.iconst 0, 1) := by decide +kernel
theorem d_X11_day_24 : decode prog_1_method_12_code 24 = .ok (.istore_n 1, 1) := by decide +kernel
theorem d_X11_day_23 : decode prog_1_method_12_code 23 = .ok (.iadd, 1) := by decide +kernel
theorem d_X11_day_26 : decode prog_1_method_12_code 26 = .ok (.istore_n 2, 1) := by decide +kernel
theorem d_X11_day_29 : decode prog_1_method_12_code 29 = .ok (.iload_n 3, 1) := by decide +kernel
theorem d_X11_day_28 : decode prog_1_method_12_code 28 = .ok (.istore_n 3, 1) := by decide +kernel
theorem d_X11_day_30 : decode prog_1_method_12_code 30 = .ok (.aload_n 0, 1) := by decide +kernel
theorem d_X11_day_175 : decode prog_1_method_12_code 175 = .ok (.iconst 0, 1) := by decide +kernel
theorem d_X11_day_167 : decode prog_1_method_12_code 167 = .ok (.iload_n 1, 1) := by decide +kernel
theorem d_X11_day_163 : decode prog_1_method_12_code 163 = .ok (.aload_n 0, 1) := by decide +kernel
theorem d_X11_day_37 : decode prog_1_method_12_code 37 = .ok (.if_icmp .ge 126, 3) := by decide +kernel
theorem d_X11_day_34 : decode prog_1_method_12_code 34 = .ok (.getfield 224, 3) := by decide +kernel
theorem d_X11_day_164 : decode prog_1_method_12_code 164 = .ok (.getfield 38, 3) := by decide +kernel
theorem d_X11_day_171 : decode prog_1_method_12_code 171 = .ok (.aload_n 0, 1) := by decide +kernel
theorem d_X11_day_168 : decode prog_1_method_12_code 168 = .ok (.putfield 221, 3) := by decide +kernel
theorem d_X11_day_172 : decode prog_1_method_12_code 172 = .ok (.getfield 38, 3) := by decide +kernel
theorem d_X11_day_184 : decode prog_1_method_12_code 184 = .ok (.getfield 38, 3) := by decide +kernel
theorem d_X11_day_180 : decode prog_1_method_12_code 180 = .ok (.getfield 53, 3) := by decide +kernel
theorem d_X11_day_179 : decode prog_1_method_12_code 179 = .ok (.aload_n 0, 1) := by decide +kernel
theorem d_X11_day_176 : decode prog_1_method_12_code 176 = .ok (.putfield 151, 3) := by decide +kernel
theorem d_X11_day_183 : decode prog_1_method_12_code 183 = .ok (.aload_n 0, 1) := by decide +kernel
theorem d_X11_day_190 : decode prog_1_method_12_code 190 = .ok (.iload_n 2, 1) := by decide +kernel
theorem d_X11_day_187 : decode prog_1_method_12_code 187 = .ok (.invokevirtual 199, 3) := by decide +kernel
theorem d_X11_day_191 : decode prog_1_method_12_code 191 = .ok (.ireturn, 1) := by decide +kernel
theorem d_X12_day_10 : decode prog_14_method_82_code 10 = .ok (.if_icmp .ne 5, 3) := by decide +kernel
theorem d_X12_day_4 : decode prog_14_method_82_code 4 = .ok (.bipush 31, 2) := by decide +kernel
theorem d_X12_day_1 : decode prog_14_method_82_code 1 = .ok (.getfield 89, 3) := by decide +kernel
theorem d_X12_day_0 : decode prog_14_method_82_code 0 = .ok (.aload_n 0, 1) := by decide +kernel
theorem d_X12_day_7 : decode prog_14_method_82_code 7 = .ok (.sipush 999, 3) := by decide +kernel
theorem d_X12_day_6 : decode prog_14_method_82_code 6 = .ok (.iaload, 1) := by decide +kernel
theorem d_X12_day_19 : decode prog_14_method_82_code 19 = .ok (.aload_n 0, 1) := by decide +kernel
theorem d_X12_day_16 : decode prog_14_method_82_code 16 = .ok (.invokevirtual 428, 3) := by decide +kernel
theorem d_X12_day_15 : decode prog_14_method_82_code 15 = .ok (.aload_n 0, 1) := by decide +kernel
theorem d_X12_day_23 : decode prog_14_method_82_code 23 = .ok (.ireturn, 1) := by decide +kernel
theorem d_X12_day_20 : decode prog_14_method_82_code 20 = .ok (.invokevirtual 443, 3) := by decide +kernel
theorem d_X11_undo_5 : decode prog_1_method_13_code 5 = .ok (.getfield 38, 3) := by decide +kernel
theorem d_X11_undo_1 : decode prog_1_method_13_code 1 = .ok (.getfield 53, 3) := by decide +kernel
theorem d_X11_undo_0 : decode prog_1_method_13_code 0 = .ok (.aload_n 0, 1) := by decide +kernel
theorem d_X11_undo_4 : decode prog_1_method_13_code 4 = .ok (.aload_n 0, 1) := by decide +kernel
theorem d_X11_undo_11 : decode prog_1_method_13_code 11 = .ok (.ireturn, 1) := by decide +kernel
theorem d_X11_undo_8 : decode prog_1_method_13_code 8 = .ok (.invokevirtual 233, 3) := by decide +kernel
theorem d_X12_undo_4 : decode prog_14_method_83_code 4 = .ok (.ifCond .ne 5, 3) := by decide +kernel
theorem d_X12_undo_1 : decode prog_14_method_83_code 1 = .ok (.getfield 365, 3) := by decide +kernel
theorem d_X12_undo_0 : decode prog_14_method_83_code 0 = .ok (.aload_n 0, 1) := by decide +kernel
theorem d_X12_undo_8 : decode prog_14_method_83_code 8 = .ok (.ireturn, 1) := by decide +kernel
theorem d_X12_undo_7 : decode prog_14_method_83_code 7 = .ok (.iconst 0, 1) := by decide +kernel
theorem d_X11_redo_5 : decode prog_1_method_14_code 5 = .ok (.getfield 38, 3) := by decide +kernel
theorem d_X11_redo_1 : decode prog_1_method_14_code 1 = .ok (.getfield 53, 3) := by decide +kernel
theorem d_X11_redo_0 : decode prog_1_method_14_code 0 = .ok (.aload_n 0, 1) := by decide +kernel
theorem d_X11_redo_4 : decode prog_1_method_14_code 4 = .ok (.aload_n 0, 1) := by decide +kernel
theorem d_X11_redo_11 : decode prog_1_method_14_code 11 = .ok (.ireturn, 1) := by decide +kernel
theorem d_X11_redo_8 : decode prog_1_method_14_code 8 = .ok (.invokevirtual 237, 3) := by decide +kernel
theorem d_X12_redo_4 : decode prog_14_method_84_code 4 = .ok (.ifCond .ne 5, 3) := by decide +kernel
theorem d_X12_redo_1 : decode prog_14_method_84_code 1 = .ok (.getfield 368, 3) := by decide +kernel
theorem d_X12_redo_0 : decode prog_14_method_84_code 0 = .ok (.aload_n 0, 1) := by decide +kernel
theorem d_X12_redo_8 : decode prog_14_method_84_code 8 = .ok (.ireturn, 1) := by decide +kernel
theorem d_X12_redo_7 : decode prog_14_method_84_code 7 = .ok (.iconst 0, 1) := by decide +kernel
theorem d_X11_will_5 : decode prog_1_method_15_code 5 = .ok (.iload_n 2, 1) := by decide +kernel
theorem d_X11_will_1 : decode prog_1_method_15_code 1 = .ok (.getfield 71, 3) := by decide +kernel
theorem d_X11_will_0 : decode prog_1_method_15_code 0 = .ok (.aload_n 0, 1) := by decide +kernel
theorem d_X11_will_4 : decode prog_1_method_15_code 4 = .ok (.iload_n 1, 1) := by decide +kernel
theorem d_X11_will_9 : decode prog_1_method_15_code 9 = .ok (.ireturn, 1) := by decide +kernel
theorem d_X11_will_6 : decode prog_1_method_15_code 6 = .ok (.invokevirtual 240, 3) := by decide +kernel
theorem d_X12_will_5 : decode prog_14_method_85_code 5 = .ok (.ifCond .eq 13, 3) := by decide +kernel
theorem d_X12_will_1 : decode prog_14_method_85_code 1 = .ok (.iload_n 1, 1) := by decide +kernel
theorem d_X12_will_0 : decode prog_14_method_85_code 0 = .ok (.aload_n 0, 1) := by decide +kernel
theorem d_X12_will_2 : decode prog_14_method_85_code 2 = .ok (.invokevirtual 398, 3) := by decide +kernel
theorem d_X12_will_19 : decode prog_14_method_85_code 19 = .ok (.ireturn, 1) := by decide +kernel
theorem d_X12_will_18 : decode prog_14_method_85_code 18 = .ok (.iconst (-1), 1) := by decide +kernel
theorem d_X11_dull_4 : decode prog_1_method_16_code 4 = .ok (.iload_n 1, 1) := by decide +kernel
theorem d_X11_dull_1 : decode prog_1_method_16_code 1 = .ok (.getfield 71, 3) := by decide +kernel
theorem d_X11_dull_0 : decode prog_1_method_16_code 0 = .ok (.aload_n 0, 1) := by decide +kernel
theorem d_X11_dull_8 : decode prog_1_method_16_code 8 = .ok (.ireturn, 1) := by decide +kernel
theorem d_X11_dull_5 : decode prog_1_method_16_code 5 = .ok (.invokevirtual 243, 3) := by decide +kernel
theorem d_X12_dull_5 : decode prog_14_method_86_code 5 = .ok (.ifCond .ne 5, 3) := by decide +kernel
theorem d_X12_dull_1 : decode prog_14_method_86_code 1 = .ok (.iload_n 1, 1) := by decide +kernel
theorem d_X12_dull_0 : decode prog_14_method_86_code 0 = .ok (.aload_n 0, 1) := by decide +kernel
theorem d_X12_dull_2 : decode prog_14_method_86_code 2 = .ok (.invokevirtual 398, 3) := by decide +kernel
theorem d_X12_dull_9 : decode prog_14_method_86_code 9 = .ok (.ireturn, 1) := by decide +kernel
theorem d_X12_dull_8 : decode prog_14_method_86_code 8 = .ok (.iconst (-1), 1) := by decide +kernel
theorem d_X11_pass_4 : decode prog_1_method_17_code 4 = .ok (.invokevirtual 246, 3) := by decide +kernel
theorem d_X11_pass_1 : decode prog_1_method_17_code 1 = .ok (.getfield 71, 3) := by decide +kernel
theorem d_X11_pass_0 : decode prog_1_method_17_code 0 = .ok (.aload_n 0, 1) := by decide +kernel
theorem d_X11_pass_7 : decode prog_1_method_17_code 7 = .ok (.ireturn, 1) := by decide +kernel
theorem d_X12_pass_6 : decode prog_14_method_69_code 6 = .ok (.getfield 24, 3) := by decide +kernel
theorem d_X12_pass_3 : decode prog_14_method_69_code 3 = .ok (.istore_n 2, 1) := by decide +kernel
theorem d_X12_pass_1 : decode prog_14_method_69_code 1 = .ok (.istore_n 1, 1) := by decide +kernel
theorem d_X12_pass_0 : decode prog_14_method_69_code 0 = .ok (.iconst 0, 1) := by decide +kernel
theorem d_X12_pass_2 : decode prog_14_method_69_code 2 = .ok (.iconst 0, 1) := by decide +kernel
theorem d_X12_pass_5 : decode prog_14_method_69_code 5 = .ok (.aload_n 0, 1) := by decide +kernel
theorem d_X12_pass_4 : decode prog_14_method_69_code 4 = .ok (.iload_n 2, 1) := by decide +kernel
theorem d_X12_pass_14 : decode prog_14_method_69_code 14 = .ok (.if_icmp .ge 23, 3) := by decide +kernel
theorem d_X12_pass_10 : decode prog_14_method_69_code 10 = .ok (.getfield 251, 3) := by decide +kernel
theorem d_X12_pass_9 : decode prog_14_method_69_code 9 = .ok (.aload_n 0, 1) := by decide +kernel
theorem d_X12_pass_13 : decode prog_14_method_69_code 13 = .ok (.iaload, 1) := by decide +kernel
theorem d_X12_pass_38 : decode prog_14_method_69_code 38 = .ok (.ireturn, 1) := by decide +kernel
theorem d_X12_pass_37 : decode prog_14_method_69_code 37 = .ok (.iload_n 1, 1) := by decide +kernel
theorem d_X11_muster_17 : decode prog_1_method_18_code 17 = .ok (.goto 4, 3) := by decide +kernel
theorem d_X11_muster_6 : decode prog_1_method_18_code 6 = .ok (.if_icmp .ne 14, 3) := by decide +kernel
theorem d_X11_muster_4 : decode prog_1_method_18_code 4 = .ok (.iload_n 2, 1) := by decide +kernel
theorem d_X11_muster_1 : decode prog_1_method_18_code 1 = .ok (.ifCond .eq 8, 3) := by decide +kernel
theorem d_X11_muster_0 : decode prog_1_method_18_code 0 = .ok (.iload_n 2, 1) := by decide +kernel
theorem d_X11_muster_5 : decode prog_1_method_18_code 5 = .ok (.iconst 1, 1) := by decide +kernel
theorem d_X11_muster_13 : decode prog_1_method_18_code 13 = .ok (.iload_n 1, 1) := by decide +kernel
theorem d_X11_muster_10 : decode prog_1_method_18_code 10 = .ok (.getfield 71, 3) := by decide +kernel
theorem d_X11_muster_9 : decode prog_1_method_18_code 9 = .ok (.aload_n 0, 1) := by decide +kernel
theorem d_X11_muster_14 : decode prog_1_method_18_code 14 = .ok (.invokevirtual 250, 3) := by decide +kernel
theorem d_X11_muster_24 : decode prog_1_method_18_code 24 = .ok (.if_icmp .eq 8, 3) := by decide +kernel
theorem d_X11_muster_22 : decode prog_1_method_18_code 22 = .ok (.iload_n 3, 1) := by decide +kernel
theorem d_X11_muster_21 : decode prog_1_method_18_code 21 = .ok (.istore_n 3, 1) := by decide +kernel
theorem d_X11_muster_20 : decode prog_1_method_18_code 20 = .ok (.iconst (-1), 1) := by decide +kernel
theorem d_X11_muster_23 : decode prog_1_method_18_code 23 = .ok (.iconst (-1), 1) := by decide +kernel
theorem d_X11_muster_33 : decode prog_1_method_18_code 33 = .ok (.goto 7, 3) := by decide +kernel
theorem d_X11_muster_32 : decode prog_1_method_18_code 32 = .ok (.iload_n 3, 1) := by decide +kernel
theorem d_X11_muster_40 : decode prog_1_method_18_code 40 = .ok (.ireturn, 1) := by decide +kernel
theorem d_X12_muster_5 : decode prog_14_method_87_code 5 = .ok (.ifCond .eq 12, 3) := by decide +kernel
theorem d_X12_muster_1 : decode prog_14_method_87_code 1 = .ok (.iload_n 1, 1) := by decide +kernel
theorem d_X12_muster_0 : decode prog_14_method_87_code 0 = .ok (.aload_n 0, 1) := by decide +kernel
theorem d_X12_muster_2 : decode prog_14_method_87_code 2 = .ok (.invokevirtual 398, 3) := by decide +kernel
theorem d_X12_muster_18 : decode prog_14_method_87_code 18 = .ok (.ireturn, 1) := by decide +kernel
theorem d_X12_muster_17 : decode prog_14_method_87_code 17 = .ok (.iconst (-1), 1) := by decide +kernel
theorem d_X11_latest_5 : decode prog_1_method_19_code 5 = .ok (.iload_n 2, 1) := by decide +kernel
theorem d_X11_latest_1 : decode prog_1_method_19_code 1 = .ok (.getfield 71, 3) := by decide +kernel
theorem d_X11_latest_0 : decode prog_1_method_19_code 0 = .ok (.aload_n 0, 1) := by decide +kernel
theorem d_X11_latest_4 : decode prog_1_method_19_code 4 = .ok (.iload_n 1, 1) := by decide +kernel
theorem d_X11_latest_9 : decode prog_1_method_19_code 9 = .ok (.ireturn, 1) := by decide +kernel
theorem d_X11_latest_6 : decode prog_1_method_19_code 6 = .ok (.invokevirtual 258, 3) := by decide +kernel
theorem d_X12_latest_5 : decode prog_14_method_89_code 5 = .ok (.ifCond .eq 26, 3) := by decide +kernel
theorem d_X12_latest_1 : decode prog_14_method_89_code 1 = .ok (.iload_n 1, 1) := by decide +kernel
theorem d_X12_latest_0 : decode prog_14_method_89_code 0 = .ok (.aload_n 0, 1) := by decide +kernel
theorem d_X12_latest_2 : decode prog_14_method_89_code 2 = .ok (.invokevirtual 410, 3) := by decide +kernel
theorem d_X12_latest_32 : decode prog_14_method_89_code 32 = .ok (.ireturn, 1) := by decide +kernel
theorem d_X12_latest_31 : decode prog_14_method_89_code 31 = .ok (.iconst (-1), 1) := by decide +kernel
theorem d_X11_plan_4 : decode prog_1_method_20_code 4 = .ok (.invokevirtual 261, 3) := by decide +kernel
theorem d_X11_plan_1 : decode prog_1_method_20_code 1 = .ok (.getfield 87, 3) := by decide +kernel
theorem d_X11_plan_0 : decode prog_1_method_20_code 0 = .ok (.aload_n 0, 1) := by decide +kernel
theorem d_X11_plan_7 : decode prog_1_method_20_code 7 = .ok (.ireturn, 1) := by decide +kernel
theorem d_X12_plan_124 : decode prog_14_method_106_code 124 = .ok (.aload_n 0, 1) := by decide +kernel
theorem d_X12_plan_94 : decode prog_14_method_106_code 94 = .ok (.iconst 0, 1) := by decide +kernel
theorem d_X12_plan_8 : decode prog_14_method_106_code 8 = .ok (.getfield 251, 3) := by decide +kernel
theorem d_X12_plan_3 : decode prog_14_method_106_code 3 = .ok (.aload_n 0, 1) := by decide +kernel
theorem d_X12_plan_1 : decode prog_14_method_106_code 1 = .ok (.istore_n 1, 1) := by decide +kernel
theorem d_X12_plan_0 : decode prog_14_method_106_code 0 = .ok (.iconst 0, 1) := by decide +kernel
theorem d_X12_plan_2 : decode prog_14_method_106_code 2 = .ok (.iload_n 1, 1) := by decide +kernel
theorem d_X12_plan_7 : decode prog_14_method_106_code 7 = .ok (.aload_n 0, 1) := by decide +kernel
theorem d_X12_plan_4 : decode prog_14_method_106_code 4 = .ok (.getfield 24, 3) := by decide +kernel
theorem d_X12_plan_91 : decode prog_14_method_106_code 91 = .ok (.istore_n 1, 1) := by decide +kernel
theorem d_X12_plan_12 : decode prog_14_method_106_code 12 = .ok (.if_icmp .ge 78, 3) := by decide +kernel
theorem d_X12_plan_11 : decode prog_14_method_106_code 11 = .ok (.iaload, 1) := by decide +kernel
theorem d_X12_plan_90 : decode prog_14_method_106_code 90 = .ok (.iconst (-1), 1) := by decide +kernel
theorem d_X12_plan_93 : decode prog_14_method_106_code 93 = .ok (.istore_n 2, 1) := by decide +kernel
theorem d_X12_plan_92 : decode prog_14_method_106_code 92 = .ok (.iconst 0, 1) := by decide +kernel
theorem d_X12_plan_106 : decode prog_14_method_106_code 106 = .ok (.if_icmp .ge 89, 3) := by decide +kernel
theorem d_X12_plan_99 : decode prog_14_method_106_code 99 = .ok (.aload_n 0, 1) := by decide +kernel
theorem d_X12_plan_96 : decode prog_14_method_106_code 96 = .ok (.iload_n 3, 1) := by decide +kernel
theorem d_X12_plan_95 : decode prog_14_method_106_code 95 = .ok (.istore_n 3, 1) := by decide +kernel
theorem d_X12_plan_97 : decode prog_14_method_106_code 97 = .ok (.bipush 6, 2) := by decide +kernel
theorem d_X12_plan_103 : decode prog_14_method_106_code 103 = .ok (.invokestatic 476, 3) := by decide +kernel
theorem d_X12_plan_100 : decode prog_14_method_106_code 100 = .ok (.invokevirtual 347, 3) := by decide +kernel
theorem d_X12_plan_114 : decode prog_14_method_106_code 114 = .ok (.istore 4, 2) := by decide +kernel
theorem d_X12_plan_110 : decode prog_14_method_106_code 110 = .ok (.iload_n 3, 1) := by decide +kernel
theorem d_X12_plan_109 : decode prog_14_method_106_code 109 = .ok (.aload_n 0, 1) := by decide +kernel
theorem d_X12_plan_111 : decode prog_14_method_106_code 111 = .ok (.invokevirtual 479, 3) := by decide +kernel
theorem d_X12_plan_118 : decode prog_14_method_106_code 118 = .ok (.ifCond .ge 6, 3) := by decide +kernel
theorem d_X12_plan_116 : decode prog_14_method_106_code 116 = .ok (.iload 4, 2) := by decide +kernel
theorem d_X12_plan_158 : decode prog_14_method_106_code 158 = .ok (.istore 6, 2) := by decide +kernel
theorem d_X12_plan_138 : decode prog_14_method_106_code 138 = .ok (.iload_n 1, 1) := by decide +kernel
theorem d_X12_plan_132 : decode prog_14_method_106_code 132 = .ok (.iload_n 1, 1) := by decide +kernel
theorem d_X12_plan_128 : decode prog_14_method_106_code 128 = .ok (.istore 5, 2) := by decide +kernel
theorem d_X12_plan_125 : decode prog_14_method_106_code 125 = .ok (.invokevirtual 482, 3) := by decide +kernel
theorem d_X12_plan_130 : decode prog_14_method_106_code 130 = .ok (.iload 5, 2) := by decide +kernel
theorem d_X12_plan_136 : decode prog_14_method_106_code 136 = .ok (.iload 5, 2) := by decide +kernel
theorem d_X12_plan_133 : decode prog_14_method_106_code 133 = .ok (.if_icmp .lt 56, 3) := by decide +kernel
theorem d_X12_plan_154 : decode prog_14_method_106_code 154 = .ok (.iload 4, 2) := by decide +kernel
theorem d_X12_plan_151 : decode prog_14_method_106_code 151 = .ok (.iload 5, 2) := by decide +kernel
theorem d_X12_plan_139 : decode prog_14_method_106_code 139 = .ok (.if_icmp .ne 12, 3) := by decide +kernel
theorem d_X12_plan_153 : decode prog_14_method_106_code 153 = .ok (.istore_n 1, 1) := by decide +kernel
theorem d_X12_plan_157 : decode prog_14_method_106_code 157 = .ok (.iconst 0, 1) := by decide +kernel
theorem d_X12_plan_156 : decode prog_14_method_106_code 156 = .ok (.istore_n 2, 1) := by decide +kernel
theorem d_X12_plan_195 : decode prog_14_method_106_code 195 = .ok (.aload_n 0, 1) := by decide +kernel
theorem d_X12_plan_166 : decode prog_14_method_106_code 166 = .ok (.if_icmp .ge 23, 3) := by decide +kernel
theorem d_X12_plan_162 : decode prog_14_method_106_code 162 = .ok (.aload_n 0, 1) := by decide +kernel
theorem d_X12_plan_160 : decode prog_14_method_106_code 160 = .ok (.iload 6, 2) := by decide +kernel
theorem d_X12_plan_163 : decode prog_14_method_106_code 163 = .ok (.invokevirtual 347, 3) := by decide +kernel
theorem d_X12_plan_192 : decode prog_14_method_106_code 192 = .ok (.goto (-96), 3) := by decide +kernel
theorem d_X12_plan_189 : decode prog_14_method_106_code 189 = .ok (.iinc 3 1, 3) := by decide +kernel
theorem d_X12_plan_200 : decode prog_14_method_106_code 200 = .ok (.putfield 374, 3) := by decide +kernel
theorem d_X12_plan_197 : decode prog_14_method_106_code 197 = .ok (.invokevirtual 347, 3) := by decide +kernel
theorem d_X12_plan_196 : decode prog_14_method_106_code 196 = .ok (.aload_n 0, 1) := by decide +kernel
theorem d_X12_plan_204 : decode prog_14_method_106_code 204 = .ok (.ireturn, 1) := by decide +kernel
theorem d_X12_plan_203 : decode prog_14_method_106_code 203 = .ok (.iload_n 1, 1) := by decide +kernel
theorem d_X11_power_6 : decode prog_1_method_21_code 6 = .ok (.invokevirtual 264, 3) := by decide +kernel
theorem d_X11_power_4 : decode prog_1_method_21_code 4 = .ok (.iload_n 1, 1) := by decide +kernel
theorem d_X11_power_1 : decode prog_1_method_21_code 1 = .ok (.getfield 80, 3) := by decide +kernel
theorem d_X11_power_0 : decode prog_1_method_21_code 0 = .ok (.aload_n 0, 1) := by decide +kernel
theorem d_X11_power_5 : decode prog_1_method_21_code 5 = .ok (.iload_n 2, 1) := by decide +kernel
theorem d_X11_power_23 : decode prog_1_method_21_code 23 = .ok (.iconst (-1), 1) := by decide +kernel
theorem d_X11_power_9 : decode prog_1_method_21_code 9 = .ok (.ifCond .eq 14, 3) := by decide +kernel
theorem d_X11_power_24 : decode prog_1_method_21_code 24 = .ok (.ireturn, 1) := by decide +kernel
theorem d_X12_power_5 : decode prog_14_method_109_code 5 = .ok (.ifCond .eq 20, 3) := by decide +kernel
theorem d_X12_power_1 : decode prog_14_method_109_code 1 = .ok (.iload_n 1, 1) := by decide +kernel
theorem d_X12_power_0 : decode prog_14_method_109_code 0 = .ok (.aload_n 0, 1) := by decide +kernel
theorem d_X12_power_2 : decode prog_14_method_109_code 2 = .ok (.invokevirtual 410, 3) := by decide +kernel
theorem d_X12_power_26 : decode prog_14_method_109_code 26 = .ok (.ireturn, 1) := by decide +kernel
theorem d_X12_power_25 : decode prog_14_method_109_code 25 = .ok (.iconst (-1), 1) := by decide +kernel
theorem d_X11_best_4 : decode prog_1_method_22_code 4 = .ok (.iload_n 1, 1) := by decide +kernel
theorem d_X11_best_1 : decode prog_1_method_22_code 1 = .ok (.getfield 71, 3) := by decide +kernel
theorem d_X11_best_0 : decode prog_1_method_22_code 0 = .ok (.aload_n 0, 1) := by decide +kernel
theorem d_X11_best_8 : decode prog_1_method_22_code 8 = .ok (.ireturn, 1) := by decide +kernel
theorem d_X11_best_5 : decode prog_1_method_22_code 5 = .ok (.invokevirtual 270, 3) := by decide +kernel
theorem d_X12_best_5 : decode prog_14_method_91_code 5 = .ok (.ifCond .ne 5, 3) := by decide +kernel
theorem d_X12_best_1 : decode prog_14_method_91_code 1 = .ok (.iload_n 1, 1) := by decide +kernel
theorem d_X12_best_0 : decode prog_14_method_91_code 0 = .ok (.aload_n 0, 1) := by decide +kernel
theorem d_X12_best_2 : decode prog_14_method_91_code 2 = .ok (.invokevirtual 398, 3) := by decide +kernel
theorem d_X12_best_9 : decode prog_14_method_91_code 9 = .ok (.ireturn, 1) := by decide +kernel
theorem d_X12_best_8 : decode prog_14_method_91_code 8 = .ok (.iconst (-1), 1) := by decide +kernel
theorem d_X11_joint_6 : decode prog_1_method_23_code 6 = .ok (.invokevirtual 212, 3) := by decide +kernel
theorem d_X11_joint_4 : decode prog_1_method_23_code 4 = .ok (.iload_n 1, 1) := by decide +kernel
theorem d_X11_joint_1 : decode prog_1_method_23_code 1 = .ok (.getfield 71, 3) := by decide +kernel
theorem d_X11_joint_0 : decode prog_1_method_23_code 0 = .ok (.aload_n 0, 1) := by decide +kernel
theorem d_X11_joint_5 : decode prog_1_method_23_code 5 = .ok (.iload_n 2, 1) := by decide +kernel
theorem d_X11_joint_24 : decode prog_1_method_23_code 24 = .ok (.iconst (-1), 1) := by decide +kernel
theorem d_X11_joint_9 : decode prog_1_method_23_code 9 = .ok (.ifCond .eq 15, 3) := by decide +kernel
theorem d_X11_joint_25 : decode prog_1_method_23_code 25 = .ok (.ireturn, 1) := by decide +kernel
theorem d_X12_joint_3 : decode prog_14_method_98_code 3 = .ok (.invokevirtual 437, 3) := by decide +kernel
theorem d_X12_joint_1 : decode prog_14_method_98_code 1 = .ok (.iload_n 1, 1) := by decide +kernel
theorem d_X12_joint_0 : decode prog_14_method_98_code 0 = .ok (.aload_n 0, 1) := by decide +kernel
theorem d_X12_joint_2 : decode prog_14_method_98_code 2 = .ok (.iload_n 2, 1) := by decide +kernel
theorem d_X12_joint_18 : decode prog_14_method_98_code 18 = .ok (.iconst (-1), 1) := by decide +kernel
theorem d_X12_joint_6 : decode prog_14_method_98_code 6 = .ok (.ifCond .eq 12, 3) := by decide +kernel
theorem d_X12_joint_19 : decode prog_14_method_98_code 19 = .ok (.ireturn, 1) := by decide +kernel
theorem d_X11_law_12 : decode prog_1_method_24_code 12 = .ok (.iconst (-1), 1) := by decide +kernel
theorem d_X11_law_6 : decode prog_1_method_24_code 6 = .ok (.iload_n 1, 1) := by decide +kernel
theorem d_X11_law_1 : decode prog_1_method_24_code 1 = .ok (.bipush (-99), 2) := by decide +kernel
theorem d_X11_law_0 : decode prog_1_method_24_code 0 = .ok (.iload_n 1, 1) := by decide +kernel
theorem d_X11_law_3 : decode prog_1_method_24_code 3 = .ok (.if_icmp .lt 9, 3) := by decide +kernel
theorem d_X11_law_9 : decode prog_1_method_24_code 9 = .ok (.if_icmp .le 7, 3) := by decide +kernel
theorem d_X11_law_7 : decode prog_1_method_24_code 7 = .ok (.bipush 99, 2) := by decide +kernel
theorem d_X11_law_20 : decode prog_1_method_24_code 20 = .ok (.iload_n 1, 1) := by decide +kernel
theorem d_X11_law_16 : decode prog_1_method_24_code 16 = .ok (.aload_n 0, 1) := by decide +kernel
theorem d_X11_law_13 : decode prog_1_method_24_code 13 = .ok (.goto 11, 3) := by decide +kernel
theorem d_X11_law_17 : decode prog_1_method_24_code 17 = .ok (.getfield 71, 3) := by decide +kernel
theorem d_X11_law_24 : decode prog_1_method_24_code 24 = .ok (.ireturn, 1) := by decide +kernel
theorem d_X11_law_21 : decode prog_1_method_24_code 21 = .ok (.invokevirtual 276, 3) := by decide +kernel
theorem d_X12_law_16 : decode prog_14_method_100_code 16 = .ok (.istore_n 3, 1) := by decide +kernel
theorem d_X12_law_11 : decode prog_14_method_100_code 11 = .ok (.iconst (-1), 1) := by decide +kernel
theorem d_X12_law_3 : decode prog_14_method_100_code 3 = .ok (.bipush 99, 2) := by decide +kernel
theorem d_X12_law_1 : decode prog_14_method_100_code 1 = .ok (.bipush (-99), 2) := by decide +kernel
theorem d_X12_law_0 : decode prog_14_method_100_code 0 = .ok (.iload_n 1, 1) := by decide +kernel
theorem d_X12_law_8 : decode prog_14_method_100_code 8 = .ok (.ifCond .ne 5, 3) := by decide +kernel
theorem d_X12_law_5 : decode prog_14_method_100_code 5 = .ok (.invokestatic 350, 3) := by decide +kernel
theorem d_X12_law_14 : decode prog_14_method_100_code 14 = .ok (.istore_n 2, 1) := by decide +kernel
theorem d_X12_law_13 : decode prog_14_method_100_code 13 = .ok (.iconst 0, 1) := by decide +kernel
theorem d_X12_law_12 : decode prog_14_method_100_code 12 = .ok (.ireturn, 1) := by decide +kernel
theorem d_X12_law_15 : decode prog_14_method_100_code 15 = .ok (.iconst 0, 1) := by decide +kernel
theorem d_X12_law_23 : decode prog_14_method_100_code 23 = .ok (.getfield 251, 3) := by decide +kernel
theorem d_X12_law_19 : decode prog_14_method_100_code 19 = .ok (.getfield 24, 3) := by decide +kernel
theorem d_X12_law_18 : decode prog_14_method_100_code 18 = .ok (.aload_n 0, 1) := by decide +kernel
theorem d_X12_law_17 : decode prog_14_method_100_code 17 = .ok (.iload_n 3, 1) := by decide +kernel
theorem d_X12_law_22 : decode prog_14_method_100_code 22 = .ok (.aload_n 0, 1) := by decide +kernel
theorem d_X12_law_67 : decode prog_14_method_100_code 67 = .ok (.iload_n 2, 1) := by decide +kernel
theorem d_X12_law_27 : decode prog_14_method_100_code 27 = .ok (.if_icmp .ge 40, 3) := by decide +kernel
theorem d_X12_law_26 : decode prog_14_method_100_code 26 = .ok (.iaload, 1) := by decide +kernel
theorem d_X12_law_68 : decode prog_14_method_100_code 68 = .ok (.ireturn, 1) := by decide +kernel
theorem d_X11_odds_6 : decode prog_1_method_25_code 6 = .ok (.invokevirtual 279, 3) := by decide +kernel
theorem d_X11_odds_4 : decode prog_1_method_25_code 4 = .ok (.iload_n 1, 1) := by decide +kernel
theorem d_X11_odds_1 : decode prog_1_method_25_code 1 = .ok (.getfield 80, 3) := by decide +kernel
theorem d_X11_odds_0 : decode prog_1_method_25_code 0 = .ok (.aload_n 0, 1) := by decide +kernel
theorem d_X11_odds_5 : decode prog_1_method_25_code 5 = .ok (.iload_n 2, 1) := by decide +kernel
theorem d_X11_odds_23 : decode prog_1_method_25_code 23 = .ok (.iconst (-1), 1) := by decide +kernel
theorem d_X11_odds_9 : decode prog_1_method_25_code 9 = .ok (.ifCond .eq 14, 3) := by decide +kernel
theorem d_X11_odds_24 : decode prog_1_method_25_code 24 = .ok (.ireturn, 1) := by decide +kernel
theorem d_X12_odds_4 : decode prog_14_method_114_code 4 = .ok (.invokevirtual 497, 3) := by decide +kernel
theorem d_X12_odds_2 : decode prog_14_method_114_code 2 = .ok (.iload_n 2, 1) := by decide +kernel
theorem d_X12_odds_1 : decode prog_14_method_114_code 1 = .ok (.iload_n 1, 1) := by decide +kernel
theorem d_X12_odds_0 : decode prog_14_method_114_code 0 = .ok (.aload_n 0, 1) := by decide +kernel
theorem d_X12_odds_3 : decode prog_14_method_114_code 3 = .ok (.iconst 4, 1) := by decide +kernel
theorem d_X12_odds_35 : decode prog_14_method_114_code 35 = .ok (.iconst (-1), 1) := by decide +kernel
theorem d_X12_odds_7 : decode prog_14_method_114_code 7 = .ok (.ifCond .eq 28, 3) := by decide +kernel
theorem d_X12_odds_36 : decode prog_14_method_114_code 36 = .ok (.ireturn, 1) := by decide +kernel
