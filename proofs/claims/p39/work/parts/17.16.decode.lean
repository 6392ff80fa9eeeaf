theorem d_X11_member_52 : decode prog_1_method_6_code 52 = .ok (.iconst 1, 1) := by decide +kernel
theorem d_X11_member_11 : decode prog_1_method_6_code 11 = .ok (.iconst (-1), 1) := by decide +kernel
theorem d_X11_member_4 : decode prog_1_method_6_code 4 = .ok (.iload_n 1, 1) := by decide +kernel
theorem d_X11_member_1 : decode prog_1_method_6_code 1 = .ok (.getfield 19, 3) := by decide +kernel
theorem d_X11_member_0 : decode prog_1_method_6_code 0 = .ok (.aload_n 0, 1) := by decide +kernel
theorem d_X11_member_8 : decode prog_1_method_6_code 8 = .ok (.ifCond .ne 5, 3) := by decide +kernel
theorem d_X11_member_5 : decode prog_1_method_6_code 5 = .ok (.invokevirtual 141, 3) := by decide +kernel
theorem d_X11_member_14 : decode prog_1_method_6_code 14 = .ok (.tableswitch 88 0 4 #[34, 45, 56, 70, 79], 34) := by decide +kernel
theorem d_X11_member_13 : decode prog_1_method_6_code 13 = .ok (.iload_n 2, 1) := by decide +kernel
theorem d_X11_member_12 : decode prog_1_method_6_code 12 = .ok (.ireturn, 1) := by decide +kernel
theorem d_X11_member_49 : decode prog_1_method_6_code 49 = .ok (.getfield 19, 3) := by decide +kernel
theorem d_X11_member_48 : decode prog_1_method_6_code 48 = .ok (.aload_n 0, 1) := by decide +kernel
theorem d_X11_member_60 : decode prog_1_method_6_code 60 = .ok (.getfield 19, 3) := by decide +kernel
theorem d_X11_member_55 : decode prog_1_method_6_code 55 = .ok (.invokevirtual 144, 3) := by decide +kernel
theorem d_X11_member_54 : decode prog_1_method_6_code 54 = .ok (.ishl, 1) := by decide +kernel
theorem d_X11_member_53 : decode prog_1_method_6_code 53 = .ok (.iload_n 1, 1) := by decide +kernel
theorem d_X11_member_59 : decode prog_1_method_6_code 59 = .ok (.aload_n 0, 1) := by decide +kernel
theorem d_X11_member_58 : decode prog_1_method_6_code 58 = .ok (.ireturn, 1) := by decide +kernel
theorem d_X11_member_65 : decode prog_1_method_6_code 65 = .ok (.ishl, 1) := by decide +kernel
theorem d_X11_member_64 : decode prog_1_method_6_code 64 = .ok (.iload_n 1, 1) := by decide +kernel
theorem d_X11_member_63 : decode prog_1_method_6_code 63 = .ok (.iconst 1, 1) := by decide +kernel
theorem d_X11_member_66 : decode prog_1_method_6_code 66 = .ok (.invokevirtual 148, 3) := by decide +kernel
theorem d_X11_member_85 : decode prog_1_method_6_code 85 = .ok (.getfield 71, 3) := by decide +kernel
theorem d_X11_member_79 : decode prog_1_method_6_code 79 = .ok (.ishr, 1) := by decide +kernel
theorem d_X11_member_72 : decode prog_1_method_6_code 72 = .ok (.getfield 38, 3) := by decide +kernel
theorem d_X11_member_71 : decode prog_1_method_6_code 71 = .ok (.aload_n 0, 1) := by decide +kernel
theorem d_X11_member_70 : decode prog_1_method_6_code 70 = .ok (.iconst 1, 1) := by decide +kernel
theorem d_X11_member_78 : decode prog_1_method_6_code 78 = .ok (.iload_n 1, 1) := by decide +kernel
theorem d_X11_member_75 : decode prog_1_method_6_code 75 = .ok (.getfield 151, 3) := by decide +kernel
theorem d_X11_member_82 : decode prog_1_method_6_code 82 = .ok (.isub, 1) := by decide +kernel
theorem d_X11_member_81 : decode prog_1_method_6_code 81 = .ok (.iand, 1) := by decide +kernel
theorem d_X11_member_80 : decode prog_1_method_6_code 80 = .ok (.iconst 1, 1) := by decide +kernel
theorem d_X11_member_84 : decode prog_1_method_6_code 84 = .ok (.aload_n 0, 1) := by decide +kernel
theorem d_X11_member_83 : decode prog_1_method_6_code 83 = .ok (.ireturn, 1) := by decide +kernel
theorem d_X11_member_97 : decode prog_1_method_6_code 97 = .ok (.iload_n 1, 1) := by decide +kernel
theorem d_X11_member_92 : decode prog_1_method_6_code 92 = .ok (.ireturn, 1) := by decide +kernel
theorem d_X11_member_89 : decode prog_1_method_6_code 89 = .ok (.invokevirtual 154, 3) := by decide +kernel
theorem d_X11_member_88 : decode prog_1_method_6_code 88 = .ok (.iload_n 1, 1) := by decide +kernel
theorem d_X11_member_94 : decode prog_1_method_6_code 94 = .ok (.getfield 71, 3) := by decide +kernel
theorem d_X11_member_93 : decode prog_1_method_6_code 93 = .ok (.aload_n 0, 1) := by decide +kernel
theorem d_X11_member_102 : decode prog_1_method_6_code 102 = .ok (.iconst (-1), 1) := by decide +kernel
theorem d_X11_member_101 : decode prog_1_method_6_code 101 = .ok (.ireturn, 1) := by decide +kernel
theorem d_X11_member_98 : decode prog_1_method_6_code 98 = .ok (.invokevirtual 157, 3) := by decide +kernel
theorem d_X11_member_103 : decode prog_1_method_6_code 103 = .ok (.ireturn, 1) := by decide +kernel
theorem d_X1_billsHolding_21 : decode prog_3_method_7_code 21 = .ok (.iconst 1, 1) := by decide +kernel
theorem d_X1_billsHolding_6 : decode prog_3_method_7_code 6 = .ok (.getfield 9, 3) := by decide +kernel
theorem d_X1_billsHolding_3 : decode prog_3_method_7_code 3 = .ok (.istore_n 3, 1) := by decide +kernel
theorem d_X1_billsHolding_1 : decode prog_3_method_7_code 1 = .ok (.istore_n 2, 1) := by decide +kernel
theorem d_X1_billsHolding_0 : decode prog_3_method_7_code 0 = .ok (.iconst 0, 1) := by decide +kernel
theorem d_X1_billsHolding_2 : decode prog_3_method_7_code 2 = .ok (.iconst 0, 1) := by decide +kernel
theorem d_X1_billsHolding_5 : decode prog_3_method_7_code 5 = .ok (.aload_n 0, 1) := by decide +kernel
theorem d_X1_billsHolding_4 : decode prog_3_method_7_code 4 = .ok (.iload_n 3, 1) := by decide +kernel
theorem d_X1_billsHolding_16 : decode prog_3_method_7_code 16 = .ok (.aload_n 0, 1) := by decide +kernel
theorem d_X1_billsHolding_12 : decode prog_3_method_7_code 12 = .ok (.if_icmp .ge 27, 3) := by decide +kernel
theorem d_X1_billsHolding_9 : decode prog_3_method_7_code 9 = .ok (.getfield 55, 3) := by decide +kernel
theorem d_X1_billsHolding_15 : decode prog_3_method_7_code 15 = .ok (.iload_n 2, 1) := by decide +kernel
theorem d_X1_billsHolding_20 : decode prog_3_method_7_code 20 = .ok (.iload_n 3, 1) := by decide +kernel
theorem d_X1_billsHolding_17 : decode prog_3_method_7_code 17 = .ok (.getfield 15, 3) := by decide +kernel
theorem d_X1_billsHolding_30 : decode prog_3_method_7_code 30 = .ok (.ishl, 1) := by decide +kernel
theorem d_X1_billsHolding_27 : decode prog_3_method_7_code 27 = .ok (.iconst 1, 1) := by decide +kernel
theorem d_X1_billsHolding_25 : decode prog_3_method_7_code 25 = .ok (.iload_n 1, 1) := by decide +kernel
theorem d_X1_billsHolding_22 : decode prog_3_method_7_code 22 = .ok (.invokevirtual 31, 3) := by decide +kernel
theorem d_X1_billsHolding_26 : decode prog_3_method_7_code 26 = .ok (.ishr, 1) := by decide +kernel
theorem d_X1_billsHolding_29 : decode prog_3_method_7_code 29 = .ok (.iload_n 3, 1) := by decide +kernel
theorem d_X1_billsHolding_28 : decode prog_3_method_7_code 28 = .ok (.iand, 1) := by decide +kernel
theorem d_X1_billsHolding_36 : decode prog_3_method_7_code 36 = .ok (.goto (-32), 3) := by decide +kernel
theorem d_X1_billsHolding_32 : decode prog_3_method_7_code 32 = .ok (.istore_n 2, 1) := by decide +kernel
theorem d_X1_billsHolding_31 : decode prog_3_method_7_code 31 = .ok (.ior, 1) := by decide +kernel
theorem d_X1_billsHolding_33 : decode prog_3_method_7_code 33 = .ok (.iinc 3 1, 3) := by decide +kernel
theorem d_X1_billsHolding_40 : decode prog_3_method_7_code 40 = .ok (.ireturn, 1) := by decide +kernel
theorem d_X1_billsHolding_39 : decode prog_3_method_7_code 39 = .ok (.iload_n 2, 1) := by decide +kernel
theorem d_X1_billsOpenTo_19 : decode prog_3_method_6_code 19 = .ok (.invokevirtual 58, 3) := by decide +kernel
theorem d_X1_billsOpenTo_6 : decode prog_3_method_6_code 6 = .ok (.getfield 9, 3) := by decide +kernel
theorem d_X1_billsOpenTo_3 : decode prog_3_method_6_code 3 = .ok (.istore_n 3, 1) := by decide +kernel
theorem d_X1_billsOpenTo_1 : decode prog_3_method_6_code 1 = .ok (.istore_n 2, 1) := by decide +kernel
theorem d_X1_billsOpenTo_0 : decode prog_3_method_6_code 0 = .ok (.iconst 0, 1) := by decide +kernel
theorem d_X1_billsOpenTo_2 : decode prog_3_method_6_code 2 = .ok (.iconst 0, 1) := by decide +kernel
theorem d_X1_billsOpenTo_5 : decode prog_3_method_6_code 5 = .ok (.aload_n 0, 1) := by decide +kernel
theorem d_X1_billsOpenTo_4 : decode prog_3_method_6_code 4 = .ok (.iload_n 3, 1) := by decide +kernel
theorem d_X1_billsOpenTo_16 : decode prog_3_method_6_code 16 = .ok (.aload_n 0, 1) := by decide +kernel
theorem d_X1_billsOpenTo_12 : decode prog_3_method_6_code 12 = .ok (.if_icmp .ge 28, 3) := by decide +kernel
theorem d_X1_billsOpenTo_9 : decode prog_3_method_6_code 9 = .ok (.getfield 55, 3) := by decide +kernel
theorem d_X1_billsOpenTo_15 : decode prog_3_method_6_code 15 = .ok (.iload_n 2, 1) := by decide +kernel
theorem d_X1_billsOpenTo_18 : decode prog_3_method_6_code 18 = .ok (.iload_n 3, 1) := by decide +kernel
theorem d_X1_billsOpenTo_17 : decode prog_3_method_6_code 17 = .ok (.iload_n 1, 1) := by decide +kernel
theorem d_X1_billsOpenTo_32 : decode prog_3_method_6_code 32 = .ok (.ior, 1) := by decide +kernel
theorem d_X1_billsOpenTo_27 : decode prog_3_method_6_code 27 = .ok (.ishl, 1) := by decide +kernel
theorem d_X1_billsOpenTo_25 : decode prog_3_method_6_code 25 = .ok (.iconst 1, 1) := by decide +kernel
theorem d_X1_billsOpenTo_22 : decode prog_3_method_6_code 22 = .ok (.ifCond .eq 9, 3) := by decide +kernel
theorem d_X1_billsOpenTo_26 : decode prog_3_method_6_code 26 = .ok (.iload_n 3, 1) := by decide +kernel
theorem d_X1_billsOpenTo_31 : decode prog_3_method_6_code 31 = .ok (.iconst 0, 1) := by decide +kernel
theorem d_X1_billsOpenTo_28 : decode prog_3_method_6_code 28 = .ok (.goto 4, 3) := by decide +kernel
theorem d_X1_billsOpenTo_37 : decode prog_3_method_6_code 37 = .ok (.goto (-33), 3) := by decide +kernel
theorem d_X1_billsOpenTo_34 : decode prog_3_method_6_code 34 = .ok (.iinc 3 1, 3) := by decide +kernel
theorem d_X1_billsOpenTo_33 : decode prog_3_method_6_code 33 = .ok (.istore_n 2, 1) := by decide +kernel
theorem d_X1_billsOpenTo_41 : decode prog_3_method_6_code 41 = .ok (.ireturn, 1) := by decide +kernel
theorem d_X1_billsOpenTo_40 : decode prog_3_method_6_code 40 = .ok (.iload_n 2, 1) := by decide +kernel
theorem d_X12_fault_12 : decode prog_14_method_37_code 12 = .ok (.iconst 1, 1) := by decide +kernel
theorem d_X12_fault_5 : decode prog_14_method_37_code 5 = .ok (.getfield 140, 3) := by decide +kernel
theorem d_X12_fault_1 : decode prog_14_method_37_code 1 = .ok (.ifCond .ne 10, 3) := by decide +kernel
theorem d_X12_fault_0 : decode prog_14_method_37_code 0 = .ok (.iload_n 1, 1) := by decide +kernel
theorem d_X12_fault_4 : decode prog_14_method_37_code 4 = .ok (.aload_n 0, 1) := by decide +kernel
theorem d_X12_fault_11 : decode prog_14_method_37_code 11 = .ok (.iload_n 1, 1) := by decide +kernel
theorem d_X12_fault_8 : decode prog_14_method_37_code 8 = .ok (.goto 16, 3) := by decide +kernel
theorem d_X12_fault_20 : decode prog_14_method_37_code 20 = .ok (.goto 4, 3) := by decide +kernel
theorem d_X12_fault_16 : decode prog_14_method_37_code 16 = .ok (.aload_n 0, 1) := by decide +kernel
theorem d_X12_fault_13 : decode prog_14_method_37_code 13 = .ok (.if_icmp .ne 10, 3) := by decide +kernel
theorem d_X12_fault_17 : decode prog_14_method_37_code 17 = .ok (.getfield 16, 3) := by decide +kernel
theorem d_X12_fault_24 : decode prog_14_method_37_code 24 = .ok (.ireturn, 1) := by decide +kernel
theorem d_X12_fault_23 : decode prog_14_method_37_code 23 = .ok (.iconst (-1), 1) := by decide +kernel
theorem d_X11_fault_36 : decode prog_1_method_5_code 36 = .ok (.aload_n 0, 1) := by decide +kernel
theorem d_X11_fault_29 : decode prog_1_method_5_code 29 = .ok (.getfield 31, 3) := by decide +kernel
theorem d_X11_fault_1 : decode prog_1_method_5_code 1 = .ok (.lookupswitch 43 #[(0, 27), (1, 35)], 27) := by decide +kernel
theorem d_X11_fault_0 : decode prog_1_method_5_code 0 = .ok (.iload_n 1, 1) := by decide +kernel
theorem d_X11_fault_28 : decode prog_1_method_5_code 28 = .ok (.aload_n 0, 1) := by decide +kernel
theorem d_X11_fault_35 : decode prog_1_method_5_code 35 = .ok (.ireturn, 1) := by decide +kernel
theorem d_X11_fault_32 : decode prog_1_method_5_code 32 = .ok (.getfield 135, 3) := by decide +kernel
theorem d_X11_fault_43 : decode prog_1_method_5_code 43 = .ok (.ireturn, 1) := by decide +kernel
theorem d_X11_fault_40 : decode prog_1_method_5_code 40 = .ok (.getfield 138, 3) := by decide +kernel
theorem d_X11_fault_37 : decode prog_1_method_5_code 37 = .ok (.getfield 31, 3) := by decide +kernel
theorem d_X11_fault_45 : decode prog_1_method_5_code 45 = .ok (.ireturn, 1) := by decide +kernel
theorem d_X11_fault_44 : decode prog_1_method_5_code 44 = .ok (.iconst (-1), 1) := by decide +kernel
theorem d_X12_house_58 : decode prog_14_method_18_code 58 = .ok (.aload_n 0, 1) := by decide +kernel
theorem d_X12_house_29 : decode prog_14_method_18_code 29 = .ok (.getfield 13, 3) := by decide +kernel
theorem d_X12_house_12 : decode prog_14_method_18_code 12 = .ok (.getfield 248, 3) := by decide +kernel
theorem d_X12_house_6 : decode prog_14_method_18_code 6 = .ok (.iconst (-1), 1) := by decide +kernel
theorem d_X12_house_2 : decode prog_14_method_18_code 2 = .ok (.putfield 140, 3) := by decide +kernel
theorem d_X12_house_1 : decode prog_14_method_18_code 1 = .ok (.iconst 0, 1) := by decide +kernel
theorem d_X12_house_0 : decode prog_14_method_18_code 0 = .ok (.aload_n 0, 1) := by decide +kernel
theorem d_X12_house_5 : decode prog_14_method_18_code 5 = .ok (.aload_n 0, 1) := by decide +kernel
theorem d_X12_house_10 : decode prog_14_method_18_code 10 = .ok (.aload_n 0, 1) := by decide +kernel
theorem d_X12_house_7 : decode prog_14_method_18_code 7 = .ok (.putfield 16, 3) := by decide +kernel
theorem d_X12_house_11 : decode prog_14_method_18_code 11 = .ok (.aload_n 0, 1) := by decide +kernel
theorem d_X12_house_21 : decode prog_14_method_18_code 21 = .ok (.aload_n 0, 1) := by decide +kernel
theorem d_X12_house_19 : decode prog_14_method_18_code 19 = .ok (.istore_n 1, 1) := by decide +kernel
theorem d_X12_house_18 : decode prog_14_method_18_code 18 = .ok (.iconst 0, 1) := by decide +kernel
theorem d_X12_house_15 : decode prog_14_method_18_code 15 = .ok (.putfield 137, 3) := by decide +kernel
theorem d_X12_house_20 : decode prog_14_method_18_code 20 = .ok (.iload_n 1, 1) := by decide +kernel
theorem d_X12_house_25 : decode prog_14_method_18_code 25 = .ok (.if_icmp .ge 21, 3) := by decide +kernel
theorem d_X12_house_22 : decode prog_14_method_18_code 22 = .ok (.getfield 137, 3) := by decide +kernel
theorem d_X12_house_28 : decode prog_14_method_18_code 28 = .ok (.aload_n 0, 1) := by decide +kernel
theorem d_X12_house_46 : decode prog_14_method_18_code 46 = .ok (.aload_n 0, 1) := by decide +kernel
theorem d_X12_house_38 : decode prog_14_method_18_code 38 = .ok (.baload, 1) := by decide +kernel
theorem d_X12_house_34 : decode prog_14_method_18_code 34 = .ok (.getfield 7, 3) := by decide +kernel
theorem d_X12_house_33 : decode prog_14_method_18_code 33 = .ok (.aload_n 0, 1) := by decide +kernel
theorem d_X12_house_32 : decode prog_14_method_18_code 32 = .ok (.iload_n 1, 1) := by decide +kernel
theorem d_X12_house_37 : decode prog_14_method_18_code 37 = .ok (.iload_n 1, 1) := by decide +kernel
theorem d_X12_house_40 : decode prog_14_method_18_code 40 = .ok (.iinc 1 1, 3) := by decide +kernel
theorem d_X12_house_39 : decode prog_14_method_18_code 39 = .ok (.bastore, 1) := by decide +kernel
theorem d_X12_house_43 : decode prog_14_method_18_code 43 = .ok (.goto (-23), 3) := by decide +kernel
theorem d_X12_house_52 : decode prog_14_method_18_code 52 = .ok (.iconst 0, 1) := by decide +kernel
theorem d_X12_house_48 : decode prog_14_method_18_code 48 = .ok (.putfield 248, 3) := by decide +kernel
theorem d_X12_house_47 : decode prog_14_method_18_code 47 = .ok (.iconst 0, 1) := by decide +kernel
theorem d_X12_house_51 : decode prog_14_method_18_code 51 = .ok (.aload_n 0, 1) := by decide +kernel
theorem d_X12_house_56 : decode prog_14_method_18_code 56 = .ok (.aload_n 0, 1) := by decide +kernel
theorem d_X12_house_53 : decode prog_14_method_18_code 53 = .ok (.putfield 179, 3) := by decide +kernel
theorem d_X12_house_57 : decode prog_14_method_18_code 57 = .ok (.iconst 1, 1) := by decide +kernel
theorem d_X12_house_95 : decode prog_14_method_18_code 95 = .ok (.aload_n 0, 1) := by decide +kernel
theorem d_X12_house_75 : decode prog_14_method_18_code 75 = .ok (.invokevirtual 217, 3) := by decide +kernel
theorem d_X12_house_67 : decode prog_14_method_18_code 67 = .ok (.invokevirtual 131, 3) := by decide +kernel
theorem d_X12_house_63 : decode prog_14_method_18_code 63 = .ok (.putfield 242, 3) := by decide +kernel
theorem d_X12_house_62 : decode prog_14_method_18_code 62 = .ok (.isub, 1) := by decide +kernel
theorem d_X12_house_59 : decode prog_14_method_18_code 59 = .ok (.getfield 251, 3) := by decide +kernel
theorem d_X12_house_66 : decode prog_14_method_18_code 66 = .ok (.aload_n 0, 1) := by decide +kernel
theorem d_X12_house_71 : decode prog_14_method_18_code 71 = .ok (.invokevirtual 221, 3) := by decide +kernel
theorem d_X12_house_70 : decode prog_14_method_18_code 70 = .ok (.aload_n 0, 1) := by decide +kernel
theorem d_X12_house_74 : decode prog_14_method_18_code 74 = .ok (.aload_n 0, 1) := by decide +kernel
theorem d_X12_house_85 : decode prog_14_method_18_code 85 = .ok (.ifCond .eq 10, 3) := by decide +kernel
theorem d_X12_house_81 : decode prog_14_method_18_code 81 = .ok (.aload_n 0, 1) := by decide +kernel
theorem d_X12_house_78 : decode prog_14_method_18_code 78 = .ok (.ifCond .eq 17, 3) := by decide +kernel
theorem d_X12_house_82 : decode prog_14_method_18_code 82 = .ok (.getfield 189, 3) := by decide +kernel
theorem d_X12_house_89 : decode prog_14_method_18_code 89 = .ok (.invokevirtual 254, 3) := by decide +kernel
theorem d_X12_house_88 : decode prog_14_method_18_code 88 = .ok (.aload_n 0, 1) := by decide +kernel
theorem d_X12_house_92 : decode prog_14_method_18_code 92 = .ok (.goto (-18), 3) := by decide +kernel
theorem d_X12_house_112 : decode prog_14_method_18_code 112 = .ok (.aload_n 0, 1) := by decide +kernel
theorem d_X12_house_104 : decode prog_14_method_18_code 104 = .ok (.aload_n 0, 1) := by decide +kernel
theorem d_X12_house_102 : decode prog_14_method_18_code 102 = .ok (.iconst (-1), 1) := by decide +kernel
theorem d_X12_house_99 : decode prog_14_method_18_code 99 = .ok (.ifCond .ne 5, 3) := by decide +kernel
theorem d_X12_house_96 : decode prog_14_method_18_code 96 = .ok (.invokevirtual 217, 3) := by decide +kernel
theorem d_X12_house_103 : decode prog_14_method_18_code 103 = .ok (.ireturn, 1) := by decide +kernel
theorem d_X12_house_106 : decode prog_14_method_18_code 106 = .ok (.getfield 242, 3) := by decide +kernel
theorem d_X12_house_105 : decode prog_14_method_18_code 105 = .ok (.aload_n 0, 1) := by decide +kernel
theorem d_X12_house_109 : decode prog_14_method_18_code 109 = .ok (.putfield 251, 3) := by decide +kernel
theorem d_X12_house_120 : decode prog_14_method_18_code 120 = .ok (.aload_n 0, 1) := by decide +kernel
theorem d_X12_house_116 : decode prog_14_method_18_code 116 = .ok (.aload_n 0, 1) := by decide +kernel
theorem d_X12_house_113 : decode prog_14_method_18_code 113 = .ok (.invokevirtual 134, 3) := by decide +kernel
theorem d_X12_house_117 : decode prog_14_method_18_code 117 = .ok (.getfield 20, 3) := by decide +kernel
theorem d_X12_house_124 : decode prog_14_method_18_code 124 = .ok (.iaload, 1) := by decide +kernel
theorem d_X12_house_121 : decode prog_14_method_18_code 121 = .ok (.getfield 251, 3) := by decide +kernel
theorem d_X12_house_125 : decode prog_14_method_18_code 125 = .ok (.ireturn, 1) := by decide +kernel
theorem d_X12_startAnew_58 : decode prog_14_method_53_code 58 = .ok (.iinc 1 1, 3) := by decide +kernel
theorem d_X12_startAnew_29 : decode prog_14_method_53_code 29 = .ok (.getfield 251, 3) := by decide +kernel
theorem d_X12_startAnew_14 : decode prog_14_method_53_code 14 = .ok (.iastore, 1) := by decide +kernel
theorem d_X12_startAnew_5 : decode prog_14_method_53_code 5 = .ok (.if_icmp .ge 16, 3) := by decide +kernel
theorem d_X12_startAnew_2 : decode prog_14_method_53_code 2 = .ok (.iload_n 1, 1) := by decide +kernel
theorem d_X12_startAnew_1 : decode prog_14_method_53_code 1 = .ok (.istore_n 1, 1) := by decide +kernel
theorem d_X12_startAnew_0 : decode prog_14_method_53_code 0 = .ok (.iconst 0, 1) := by decide +kernel
theorem d_X12_startAnew_3 : decode prog_14_method_53_code 3 = .ok (.bipush 33, 2) := by decide +kernel
theorem d_X12_startAnew_12 : decode prog_14_method_53_code 12 = .ok (.iload_n 1, 1) := by decide +kernel
theorem d_X12_startAnew_9 : decode prog_14_method_53_code 9 = .ok (.getfield 89, 3) := by decide +kernel
theorem d_X12_startAnew_8 : decode prog_14_method_53_code 8 = .ok (.aload_n 0, 1) := by decide +kernel
theorem d_X12_startAnew_13 : decode prog_14_method_53_code 13 = .ok (.iconst 0, 1) := by decide +kernel
theorem d_X12_startAnew_23 : decode prog_14_method_53_code 23 = .ok (.iload_n 1, 1) := by decide +kernel
theorem d_X12_startAnew_21 : decode prog_14_method_53_code 21 = .ok (.iconst 0, 1) := by decide +kernel
theorem d_X12_startAnew_18 : decode prog_14_method_53_code 18 = .ok (.goto (-16), 3) := by decide +kernel
theorem d_X12_startAnew_15 : decode prog_14_method_53_code 15 = .ok (.iinc 1 1, 3) := by decide +kernel
theorem d_X12_startAnew_22 : decode prog_14_method_53_code 22 = .ok (.istore_n 1, 1) := by decide +kernel
theorem d_X12_startAnew_25 : decode prog_14_method_53_code 25 = .ok (.getfield 24, 3) := by decide +kernel
theorem d_X12_startAnew_24 : decode prog_14_method_53_code 24 = .ok (.aload_n 0, 1) := by decide +kernel
theorem d_X12_startAnew_28 : decode prog_14_method_53_code 28 = .ok (.aload_n 0, 1) := by decide +kernel
theorem d_X12_startAnew_45 : decode prog_14_method_53_code 45 = .ok (.getfield 48, 3) := by decide +kernel
theorem d_X12_startAnew_40 : decode prog_14_method_53_code 40 = .ok (.bipush 15, 2) := by decide +kernel
theorem d_X12_startAnew_36 : decode prog_14_method_53_code 36 = .ok (.aload_n 0, 1) := by decide +kernel
theorem d_X12_startAnew_33 : decode prog_14_method_53_code 33 = .ok (.if_icmp .ge 31, 3) := by decide +kernel
theorem d_X12_startAnew_32 : decode prog_14_method_53_code 32 = .ok (.iaload, 1) := by decide +kernel
theorem d_X12_startAnew_37 : decode prog_14_method_53_code 37 = .ok (.getfield 89, 3) := by decide +kernel
theorem d_X12_startAnew_43 : decode prog_14_method_53_code 43 = .ok (.iadd, 1) := by decide +kernel
theorem d_X12_startAnew_42 : decode prog_14_method_53_code 42 = .ok (.iload_n 1, 1) := by decide +kernel
theorem d_X12_startAnew_44 : decode prog_14_method_53_code 44 = .ok (.aload_n 0, 1) := by decide +kernel
theorem d_X12_startAnew_54 : decode prog_14_method_53_code 54 = .ok (.iload_n 1, 1) := by decide +kernel
theorem d_X12_startAnew_50 : decode prog_14_method_53_code 50 = .ok (.getfield 251, 3) := by decide +kernel
theorem d_X12_startAnew_49 : decode prog_14_method_53_code 49 = .ok (.aload_n 0, 1) := by decide +kernel
theorem d_X12_startAnew_48 : decode prog_14_method_53_code 48 = .ok (.iconst 5, 1) := by decide +kernel
theorem d_X12_startAnew_53 : decode prog_14_method_53_code 53 = .ok (.imul, 1) := by decide +kernel
theorem d_X12_startAnew_56 : decode prog_14_method_53_code 56 = .ok (.iaload, 1) := by decide +kernel
theorem d_X12_startAnew_55 : decode prog_14_method_53_code 55 = .ok (.iadd, 1) := by decide +kernel
theorem d_X12_startAnew_57 : decode prog_14_method_53_code 57 = .ok (.iastore, 1) := by decide +kernel
theorem d_X12_startAnew_91 : decode prog_14_method_53_code 91 = .ok (.iconst 0, 1) := by decide +kernel
theorem d_X12_startAnew_78 : decode prog_14_method_53_code 78 = .ok (.iaload, 1) := by decide +kernel
theorem d_X12_startAnew_70 : decode prog_14_method_53_code 70 = .ok (.aload_n 0, 1) := by decide +kernel
theorem d_X12_startAnew_65 : decode prog_14_method_53_code 65 = .ok (.getfield 89, 3) := by decide +kernel
theorem d_X12_startAnew_64 : decode prog_14_method_53_code 64 = .ok (.aload_n 0, 1) := by decide +kernel
theorem d_X12_startAnew_61 : decode prog_14_method_53_code 61 = .ok (.goto (-38), 3) := by decide +kernel
theorem d_X12_startAnew_68 : decode prog_14_method_53_code 68 = .ok (.bipush 32, 2) := by decide +kernel
theorem d_X12_startAnew_74 : decode prog_14_method_53_code 74 = .ok (.aload_n 0, 1) := by decide +kernel
theorem d_X12_startAnew_71 : decode prog_14_method_53_code 71 = .ok (.getfield 33, 3) := by decide +kernel
theorem d_X12_startAnew_75 : decode prog_14_method_53_code 75 = .ok (.getfield 251, 3) := by decide +kernel
theorem d_X12_startAnew_85 : decode prog_14_method_53_code 85 = .ok (.aload_n 0, 1) := by decide +kernel
theorem d_X12_startAnew_81 : decode prog_14_method_53_code 81 = .ok (.iconst 0, 1) := by decide +kernel
theorem d_X12_startAnew_80 : decode prog_14_method_53_code 80 = .ok (.aload_n 0, 1) := by decide +kernel
theorem d_X12_startAnew_79 : decode prog_14_method_53_code 79 = .ok (.iastore, 1) := by decide +kernel
theorem d_X12_startAnew_82 : decode prog_14_method_53_code 82 = .ok (.putfield 365, 3) := by decide +kernel
theorem d_X12_startAnew_87 : decode prog_14_method_53_code 87 = .ok (.putfield 368, 3) := by decide +kernel
theorem d_X12_startAnew_86 : decode prog_14_method_53_code 86 = .ok (.iconst 0, 1) := by decide +kernel
theorem d_X12_startAnew_90 : decode prog_14_method_53_code 90 = .ok (.aload_n 0, 1) := by decide +kernel
theorem d_X12_startAnew_104 : decode prog_14_method_53_code 104 = .ok (.if_icmp .ge 16, 3) := by decide +kernel
theorem d_X12_startAnew_100 : decode prog_14_method_53_code 100 = .ok (.iconst 0, 1) := by decide +kernel
theorem d_X12_startAnew_96 : decode prog_14_method_53_code 96 = .ok (.iconst 0, 1) := by decide +kernel
theorem d_X12_startAnew_95 : decode prog_14_method_53_code 95 = .ok (.aload_n 0, 1) := by decide +kernel
theorem d_X12_startAnew_92 : decode prog_14_method_53_code 92 = .ok (.putfield 371, 3) := by decide +kernel
theorem d_X12_startAnew_97 : decode prog_14_method_53_code 97 = .ok (.putfield 374, 3) := by decide +kernel
theorem d_X12_startAnew_102 : decode prog_14_method_53_code 102 = .ok (.iload_n 1, 1) := by decide +kernel
theorem d_X12_startAnew_101 : decode prog_14_method_53_code 101 = .ok (.istore_n 1, 1) := by decide +kernel
theorem d_X12_startAnew_103 : decode prog_14_method_53_code 103 = .ok (.iconst 3, 1) := by decide +kernel
theorem d_X12_startAnew_113 : decode prog_14_method_53_code 113 = .ok (.bastore, 1) := by decide +kernel
theorem d_X12_startAnew_111 : decode prog_14_method_53_code 111 = .ok (.iload_n 1, 1) := by decide +kernel
theorem d_X12_startAnew_108 : decode prog_14_method_53_code 108 = .ok (.getfield 128, 3) := by decide +kernel
theorem d_X12_startAnew_107 : decode prog_14_method_53_code 107 = .ok (.aload_n 0, 1) := by decide +kernel
theorem d_X12_startAnew_112 : decode prog_14_method_53_code 112 = .ok (.iconst 0, 1) := by decide +kernel
theorem d_X12_startAnew_117 : decode prog_14_method_53_code 117 = .ok (.goto (-15), 3) := by decide +kernel
theorem d_X12_startAnew_114 : decode prog_14_method_53_code 114 = .ok (.iinc 1 1, 3) := by decide +kernel
theorem d_X12_startAnew_120 : decode prog_14_method_53_code 120 = .ok (.return_, 1) := by decide +kernel
theorem d_X12_isGood_7 : decode prog_14_method_6_code 7 = .ok (.iconst 1, 1) := by decide +kernel
theorem d_X12_isGood_1 : decode prog_14_method_6_code 1 = .ok (.getfield 140, 3) := by decide +kernel
theorem d_X12_isGood_0 : decode prog_14_method_6_code 0 = .ok (.aload_n 0, 1) := by decide +kernel
theorem d_X12_isGood_4 : decode prog_14_method_6_code 4 = .ok (.ifCond .ne 7, 3) := by decide +kernel
theorem d_X12_isGood_11 : decode prog_14_method_6_code 11 = .ok (.iconst 0, 1) := by decide +kernel
theorem d_X12_isGood_8 : decode prog_14_method_6_code 8 = .ok (.goto 4, 3) := by decide +kernel
theorem d_X12_isGood_12 : decode prog_14_method_6_code 12 = .ok (.ireturn, 1) := by decide +kernel
theorem d_X12_readLine_83 : decode prog_14_method_20_code 83 = .ok (.lload_n 1, 1) := by decide +kernel
theorem d_X12_readLine_41 : decode prog_14_method_20_code 41 = .ok (.ifCond .ne 7, 3) := by decide +kernel
theorem d_X12_readLine_20 : decode prog_14_method_20_code 20 = .ok (.aload_n 0, 1) := by decide +kernel
theorem d_X12_readLine_9 : decode prog_14_method_20_code 9 = .ok (.iconst 3, 1) := by decide +kernel
theorem d_X12_readLine_4 : decode prog_14_method_20_code 4 = .ok (.lstore_n 1, 1) := by decide +kernel
theorem d_X12_readLine_1 : decode prog_14_method_20_code 1 = .ok (.getfield 196, 3) := by decide +kernel
theorem d_X12_readLine_0 : decode prog_14_method_20_code 0 = .ok (.aload_n 0, 1) := by decide +kernel
theorem d_X12_readLine_6 : decode prog_14_method_20_code 6 = .ok (.getfield 189, 3) := by decide +kernel
theorem d_X12_readLine_5 : decode prog_14_method_20_code 5 = .ok (.aload_n 0, 1) := by decide +kernel
theorem d_X12_readLine_14 : decode prog_14_method_20_code 14 = .ok (.invokevirtual 257, 3) := by decide +kernel
theorem d_X12_readLine_13 : decode prog_14_method_20_code 13 = .ok (.aload_n 0, 1) := by decide +kernel
theorem d_X12_readLine_10 : decode prog_14_method_20_code 10 = .ok (.if_icmp .ne 10, 3) := by decide +kernel
theorem d_X12_readLine_17 : decode prog_14_method_20_code 17 = .ok (.ifCond .eq 7, 3) := by decide +kernel
theorem d_X12_readLine_32 : decode prog_14_method_20_code 32 = .ok (.aload_n 0, 1) := by decide +kernel
theorem d_X12_readLine_25 : decode prog_14_method_20_code 25 = .ok (.invokevirtual 217, 3) := by decide +kernel
theorem d_X12_readLine_24 : decode prog_14_method_20_code 24 = .ok (.aload_n 0, 1) := by decide +kernel
theorem d_X12_readLine_21 : decode prog_14_method_20_code 21 = .ok (.invokevirtual 224, 3) := by decide +kernel
theorem d_X12_readLine_31 : decode prog_14_method_20_code 31 = .ok (.return_, 1) := by decide +kernel
theorem d_X12_readLine_28 : decode prog_14_method_20_code 28 = .ok (.ifCond .ne 4, 3) := by decide +kernel
theorem d_X12_readLine_37 : decode prog_14_method_20_code 37 = .ok (.ldc2_w 143, 3) := by decide +kernel
theorem d_X12_readLine_36 : decode prog_14_method_20_code 36 = .ok (.lload_n 1, 1) := by decide +kernel
theorem d_X12_readLine_33 : decode prog_14_method_20_code 33 = .ok (.invokevirtual 221, 3) := by decide +kernel
theorem d_X12_readLine_40 : decode prog_14_method_20_code 40 = .ok (.lcmp, 1) := by decide +kernel
theorem d_X12_readLine_64 : decode prog_14_method_20_code 64 = .ok (.lcmp, 1) := by decide +kernel
theorem d_X12_readLine_53 : decode prog_14_method_20_code 53 = .ok (.ifCond .ne 7, 3) := by decide +kernel
theorem d_X12_readLine_48 : decode prog_14_method_20_code 48 = .ok (.lload_n 1, 1) := by decide +kernel
theorem d_X12_readLine_45 : decode prog_14_method_20_code 45 = .ok (.invokevirtual 260, 3) := by decide +kernel
theorem d_X12_readLine_44 : decode prog_14_method_20_code 44 = .ok (.aload_n 0, 1) := by decide +kernel
theorem d_X12_readLine_52 : decode prog_14_method_20_code 52 = .ok (.lcmp, 1) := by decide +kernel
theorem d_X12_readLine_49 : decode prog_14_method_20_code 49 = .ok (.ldc2_w 149, 3) := by decide +kernel
theorem d_X12_readLine_60 : decode prog_14_method_20_code 60 = .ok (.lload_n 1, 1) := by decide +kernel
theorem d_X12_readLine_57 : decode prog_14_method_20_code 57 = .ok (.invokevirtual 263, 3) := by decide +kernel
theorem d_X12_readLine_56 : decode prog_14_method_20_code 56 = .ok (.aload_n 0, 1) := by decide +kernel
theorem d_X12_readLine_61 : decode prog_14_method_20_code 61 = .ok (.ldc2_w 157, 3) := by decide +kernel
theorem d_X12_readLine_76 : decode prog_14_method_20_code 76 = .ok (.iconst 1, 1) := by decide +kernel
theorem d_X12_readLine_69 : decode prog_14_method_20_code 69 = .ok (.getfield 57, 3) := by decide +kernel
theorem d_X12_readLine_68 : decode prog_14_method_20_code 68 = .ok (.aload_n 0, 1) := by decide +kernel
theorem d_X12_readLine_65 : decode prog_14_method_20_code 65 = .ok (.ifCond .ne 18, 3) := by decide +kernel
theorem d_X12_readLine_73 : decode prog_14_method_20_code 73 = .ok (.getfield 242, 3) := by decide +kernel
theorem d_X12_readLine_72 : decode prog_14_method_20_code 72 = .ok (.aload_n 0, 1) := by decide +kernel
theorem d_X12_readLine_79 : decode prog_14_method_20_code 79 = .ok (.iconst 0, 1) := by decide +kernel
theorem d_X12_readLine_78 : decode prog_14_method_20_code 78 = .ok (.aload_n 0, 1) := by decide +kernel
theorem d_X12_readLine_77 : decode prog_14_method_20_code 77 = .ok (.bastore, 1) := by decide +kernel
theorem d_X12_readLine_80 : decode prog_14_method_20_code 80 = .ok (.invokevirtual 266, 3) := by decide +kernel
theorem d_X12_readLine_122 : decode prog_14_method_20_code 122 = .ok (.ifCond .ne 30, 3) := by decide +kernel
theorem d_X12_readLine_102 : decode prog_14_method_20_code 102 = .ok (.getfield 30, 3) := by decide +kernel
theorem d_X12_readLine_95 : decode prog_14_method_20_code 95 = .ok (.aload_n 0, 1) := by decide +kernel
theorem d_X12_readLine_88 : decode prog_14_method_20_code 88 = .ok (.ifCond .ne 29, 3) := by decide +kernel
theorem d_X12_readLine_87 : decode prog_14_method_20_code 87 = .ok (.lcmp, 1) := by decide +kernel
theorem d_X12_readLine_84 : decode prog_14_method_20_code 84 = .ok (.ldc2_w 159, 3) := by decide +kernel
theorem d_X12_readLine_92 : decode prog_14_method_20_code 92 = .ok (.getfield 61, 3) := by decide +kernel
theorem d_X12_readLine_91 : decode prog_14_method_20_code 91 = .ok (.aload_n 0, 1) := by decide +kernel
theorem d_X12_readLine_100 : decode prog_14_method_20_code 100 = .ok (.bastore, 1) := by decide +kernel
theorem d_X12_readLine_99 : decode prog_14_method_20_code 99 = .ok (.iconst 1, 1) := by decide +kernel
theorem d_X12_readLine_96 : decode prog_14_method_20_code 96 = .ok (.getfield 242, 3) := by decide +kernel
theorem d_X12_readLine_101 : decode prog_14_method_20_code 101 = .ok (.aload_n 0, 1) := by decide +kernel
theorem d_X12_readLine_113 : decode prog_14_method_20_code 113 = .ok (.invokevirtual 234, 3) := by decide +kernel
theorem d_X12_readLine_109 : decode prog_14_method_20_code 109 = .ok (.aload_n 0, 1) := by decide +kernel
theorem d_X12_readLine_106 : decode prog_14_method_20_code 106 = .ok (.getfield 242, 3) := by decide +kernel
theorem d_X12_readLine_105 : decode prog_14_method_20_code 105 = .ok (.aload_n 0, 1) := by decide +kernel
theorem d_X12_readLine_111 : decode prog_14_method_20_code 111 = .ok (.bipush 100, 2) := by decide +kernel
theorem d_X12_readLine_110 : decode prog_14_method_20_code 110 = .ok (.iconst 0, 1) := by decide +kernel
theorem d_X12_readLine_118 : decode prog_14_method_20_code 118 = .ok (.ldc2_w 161, 3) := by decide +kernel
theorem d_X12_readLine_117 : decode prog_14_method_20_code 117 = .ok (.lload_n 1, 1) := by decide +kernel
theorem d_X12_readLine_116 : decode prog_14_method_20_code 116 = .ok (.iastore, 1) := by decide +kernel
theorem d_X12_readLine_121 : decode prog_14_method_20_code 121 = .ok (.lcmp, 1) := by decide +kernel
theorem d_X12_readLine_143 : decode prog_14_method_20_code 143 = .ok (.aload_n 0, 1) := by decide +kernel
theorem d_X12_readLine_134 : decode prog_14_method_20_code 134 = .ok (.bastore, 1) := by decide +kernel
theorem d_X12_readLine_129 : decode prog_14_method_20_code 129 = .ok (.aload_n 0, 1) := by decide +kernel
theorem d_X12_readLine_126 : decode prog_14_method_20_code 126 = .ok (.getfield 64, 3) := by decide +kernel
theorem d_X12_readLine_125 : decode prog_14_method_20_code 125 = .ok (.aload_n 0, 1) := by decide +kernel
theorem d_X12_readLine_133 : decode prog_14_method_20_code 133 = .ok (.iconst 1, 1) := by decide +kernel
theorem d_X12_readLine_130 : decode prog_14_method_20_code 130 = .ok (.getfield 242, 3) := by decide +kernel
theorem d_X12_readLine_139 : decode prog_14_method_20_code 139 = .ok (.aload_n 0, 1) := by decide +kernel
theorem d_X12_readLine_136 : decode prog_14_method_20_code 136 = .ok (.getfield 33, 3) := by decide +kernel
theorem d_X12_readLine_135 : decode prog_14_method_20_code 135 = .ok (.aload_n 0, 1) := by decide +kernel
theorem d_X12_readLine_140 : decode prog_14_method_20_code 140 = .ok (.getfield 242, 3) := by decide +kernel
theorem d_X12_readLine_153 : decode prog_14_method_20_code 153 = .ok (.aload_n 0, 1) := by decide +kernel
theorem d_X12_readLine_148 : decode prog_14_method_20_code 148 = .ok (.invokevirtual 234, 3) := by decide +kernel
theorem d_X12_readLine_145 : decode prog_14_method_20_code 145 = .ok (.sipush 999, 3) := by decide +kernel
theorem d_X12_readLine_144 : decode prog_14_method_20_code 144 = .ok (.iconst 0, 1) := by decide +kernel
theorem d_X12_readLine_152 : decode prog_14_method_20_code 152 = .ok (.aload_n 0, 1) := by decide +kernel
theorem d_X12_readLine_151 : decode prog_14_method_20_code 151 = .ok (.iastore, 1) := by decide +kernel
theorem d_X12_readLine_159 : decode prog_14_method_20_code 159 = .ok (.invokevirtual 230, 3) := by decide +kernel
theorem d_X12_readLine_156 : decode prog_14_method_20_code 156 = .ok (.invokevirtual 270, 3) := by decide +kernel
theorem d_X12_readLine_154 : decode prog_14_method_20_code 154 = .ok (.bipush 59, 2) := by decide +kernel
theorem d_X12_readLine_162 : decode prog_14_method_20_code 162 = .ok (.return_, 1) := by decide +kernel
theorem d_X12_must_12 : decode prog_14_method_13_code 12 = .ok (.aload_n 0, 1) := by decide +kernel
theorem d_X12_must_7 : decode prog_14_method_13_code 7 = .ok (.return_, 1) := by decide +kernel
theorem d_X12_must_1 : decode prog_14_method_13_code 1 = .ok (.invokevirtual 217, 3) := by decide +kernel
theorem d_X12_must_0 : decode prog_14_method_13_code 0 = .ok (.aload_n 0, 1) := by decide +kernel
theorem d_X12_must_4 : decode prog_14_method_13_code 4 = .ok (.ifCond .ne 4, 3) := by decide +kernel
theorem d_X12_must_9 : decode prog_14_method_13_code 9 = .ok (.ifCond .eq 10, 3) := by decide +kernel
theorem d_X12_must_8 : decode prog_14_method_13_code 8 = .ok (.iload_n 1, 1) := by decide +kernel
theorem d_X12_must_19 : decode prog_14_method_13_code 19 = .ok (.aload_n 0, 1) := by decide +kernel
theorem d_X12_must_16 : decode prog_14_method_13_code 16 = .ok (.goto 7, 3) := by decide +kernel
theorem d_X12_must_13 : decode prog_14_method_13_code 13 = .ok (.invokevirtual 221, 3) := by decide +kernel
theorem d_X12_must_23 : decode prog_14_method_13_code 23 = .ok (.return_, 1) := by decide +kernel
theorem d_X12_must_20 : decode prog_14_method_13_code 20 = .ok (.invokevirtual 224, 3) := by decide +kernel
theorem d_X12_misplaced_10 : decode prog_14_method_12_code 10 = .ok (.goto 4, 3) := by decide +kernel
theorem d_X12_misplaced_5 : decode prog_14_method_12_code 5 = .ok (.iconst 1, 1) := by decide +kernel
theorem d_X12_misplaced_1 : decode prog_14_method_12_code 1 = .ok (.aload_n 0, 1) := by decide +kernel
theorem d_X12_misplaced_0 : decode prog_14_method_12_code 0 = .ok (.aload_n 0, 1) := by decide +kernel
theorem d_X12_misplaced_2 : decode prog_14_method_12_code 2 = .ok (.getfield 189, 3) := by decide +kernel
theorem d_X12_misplaced_9 : decode prog_14_method_12_code 9 = .ok (.iconst 1, 1) := by decide +kernel
theorem d_X12_misplaced_6 : decode prog_14_method_12_code 6 = .ok (.if_icmp .ne 7, 3) := by decide +kernel
theorem d_X12_misplaced_15 : decode prog_14_method_12_code 15 = .ok (.getfield 182, 3) := by decide +kernel
theorem d_X12_misplaced_14 : decode prog_14_method_12_code 14 = .ok (.aload_n 0, 1) := by decide +kernel
theorem d_X12_misplaced_13 : decode prog_14_method_12_code 13 = .ok (.iconst 2, 1) := by decide +kernel
theorem d_X12_misplaced_21 : decode prog_14_method_12_code 21 = .ok (.return_, 1) := by decide +kernel
theorem d_X12_misplaced_18 : decode prog_14_method_12_code 18 = .ok (.invokevirtual 213, 3) := by decide +kernel
theorem d_X12_fails_9 : decode prog_14_method_5_code 9 = .ok (.iload_n 1, 1) := by decide +kernel
theorem d_X12_fails_4 : decode prog_14_method_5_code 4 = .ok (.ifCond .le 4, 3) := by decide +kernel
theorem d_X12_fails_1 : decode prog_14_method_5_code 1 = .ok (.getfield 140, 3) := by decide +kernel
theorem d_X12_fails_0 : decode prog_14_method_5_code 0 = .ok (.aload_n 0, 1) := by decide +kernel
theorem d_X12_fails_8 : decode prog_14_method_5_code 8 = .ok (.aload_n 0, 1) := by decide +kernel
theorem d_X12_fails_7 : decode prog_14_method_5_code 7 = .ok (.return_, 1) := by decide +kernel
theorem d_X12_fails_14 : decode prog_14_method_5_code 14 = .ok (.iload_n 2, 1) := by decide +kernel
theorem d_X12_fails_13 : decode prog_14_method_5_code 13 = .ok (.aload_n 0, 1) := by decide +kernel
theorem d_X12_fails_10 : decode prog_14_method_5_code 10 = .ok (.putfield 140, 3) := by decide +kernel
theorem d_X12_fails_18 : decode prog_14_method_5_code 18 = .ok (.return_, 1) := by decide +kernel
theorem d_X12_fails_15 : decode prog_14_method_5_code 15 = .ok (.putfield 16, 3) := by decide +kernel
theorem d_X12_goOn_185 : decode prog_14_method_9_code 185 = .ok (.invokevirtual 185, 3) := by decide +kernel
theorem d_X12_goOn_93 : decode prog_14_method_9_code 93 = .ok (.aload_n 0, 1) := by decide +kernel
theorem d_X12_goOn_47 : decode prog_14_method_9_code 47 = .ok (.getfield 182, 3) := by decide +kernel
theorem d_X12_goOn_21 : decode prog_14_method_9_code 21 = .ok (.getfield 182, 3) := by decide +kernel
theorem d_X12_goOn_9 : decode prog_14_method_9_code 9 = .ok (.getfield 182, 3) := by decide +kernel
theorem d_X12_goOn_2 : decode prog_14_method_9_code 2 = .ok (.getfield 179, 3) := by decide +kernel
theorem d_X12_goOn_1 : decode prog_14_method_9_code 1 = .ok (.aload_n 0, 1) := by decide +kernel
theorem d_X12_goOn_0 : decode prog_14_method_9_code 0 = .ok (.aload_n 0, 1) := by decide +kernel
theorem d_X12_goOn_8 : decode prog_14_method_9_code 8 = .ok (.aload_n 0, 1) := by decide +kernel
theorem d_X12_goOn_5 : decode prog_14_method_9_code 5 = .ok (.putfield 182, 3) := by decide +kernel
theorem d_X12_goOn_16 : decode prog_14_method_9_code 16 = .ok (.if_icmp .ge 42, 3) := by decide +kernel
theorem d_X12_goOn_13 : decode prog_14_method_9_code 13 = .ok (.getfield 137, 3) := by decide +kernel
theorem d_X12_goOn_12 : decode prog_14_method_9_code 12 = .ok (.aload_n 0, 1) := by decide +kernel
theorem d_X12_goOn_20 : decode prog_14_method_9_code 20 = .ok (.aload_n 0, 1) := by decide +kernel
theorem d_X12_goOn_19 : decode prog_14_method_9_code 19 = .ok (.aload_n 0, 1) := by decide +kernel
theorem d_X12_goOn_34 : decode prog_14_method_9_code 34 = .ok (.getfield 182, 3) := by decide +kernel
theorem d_X12_goOn_29 : decode prog_14_method_9_code 29 = .ok (.if_icmp .eq 16, 3) := by decide +kernel
theorem d_X12_goOn_27 : decode prog_14_method_9_code 27 = .ok (.bipush 32, 2) := by decide +kernel
theorem d_X12_goOn_24 : decode prog_14_method_9_code 24 = .ok (.invokevirtual 185, 3) := by decide +kernel
theorem d_X12_goOn_33 : decode prog_14_method_9_code 33 = .ok (.aload_n 0, 1) := by decide +kernel
theorem d_X12_goOn_32 : decode prog_14_method_9_code 32 = .ok (.aload_n 0, 1) := by decide +kernel
theorem d_X12_goOn_42 : decode prog_14_method_9_code 42 = .ok (.if_icmp .ne 16, 3) := by decide +kernel
theorem d_X12_goOn_40 : decode prog_14_method_9_code 40 = .ok (.bipush 10, 2) := by decide +kernel
theorem d_X12_goOn_37 : decode prog_14_method_9_code 37 = .ok (.invokevirtual 185, 3) := by decide +kernel
theorem d_X12_goOn_46 : decode prog_14_method_9_code 46 = .ok (.dup, 1) := by decide +kernel
theorem d_X12_goOn_45 : decode prog_14_method_9_code 45 = .ok (.aload_n 0, 1) := by decide +kernel
theorem d_X12_goOn_69 : decode prog_14_method_9_code 69 = .ok (.getfield 182, 3) := by decide +kernel
theorem d_X12_goOn_59 : decode prog_14_method_9_code 59 = .ok (.aload_n 0, 1) := by decide +kernel
theorem d_X12_goOn_52 : decode prog_14_method_9_code 52 = .ok (.putfield 182, 3) := by decide +kernel
theorem d_X12_goOn_51 : decode prog_14_method_9_code 51 = .ok (.iadd, 1) := by decide +kernel
theorem d_X12_goOn_50 : decode prog_14_method_9_code 50 = .ok (.iconst 1, 1) := by decide +kernel
theorem d_X12_goOn_58 : decode prog_14_method_9_code 58 = .ok (.aload_n 0, 1) := by decide +kernel
theorem d_X12_goOn_55 : decode prog_14_method_9_code 55 = .ok (.goto (-47), 3) := by decide +kernel
theorem d_X12_goOn_66 : decode prog_14_method_9_code 66 = .ok (.istore_n 1, 1) := by decide +kernel
theorem d_X12_goOn_63 : decode prog_14_method_9_code 63 = .ok (.invokevirtual 185, 3) := by decide +kernel
theorem d_X12_goOn_60 : decode prog_14_method_9_code 60 = .ok (.getfield 182, 3) := by decide +kernel
theorem d_X12_goOn_68 : decode prog_14_method_9_code 68 = .ok (.aload_n 0, 1) := by decide +kernel
theorem d_X12_goOn_67 : decode prog_14_method_9_code 67 = .ok (.aload_n 0, 1) := by decide +kernel
theorem d_X12_goOn_81 : decode prog_14_method_9_code 81 = .ok (.aload_n 0, 1) := by decide +kernel
theorem d_X12_goOn_74 : decode prog_14_method_9_code 74 = .ok (.putfield 179, 3) := by decide +kernel
theorem d_X12_goOn_73 : decode prog_14_method_9_code 73 = .ok (.iadd, 1) := by decide +kernel
theorem d_X12_goOn_72 : decode prog_14_method_9_code 72 = .ok (.iconst 1, 1) := by decide +kernel
theorem d_X12_goOn_78 : decode prog_14_method_9_code 78 = .ok (.getfield 182, 3) := by decide +kernel
theorem d_X12_goOn_77 : decode prog_14_method_9_code 77 = .ok (.aload_n 0, 1) := by decide +kernel
theorem d_X12_goOn_88 : decode prog_14_method_9_code 88 = .ok (.aload_n 0, 1) := by decide +kernel
theorem d_X12_goOn_85 : decode prog_14_method_9_code 85 = .ok (.if_icmp .lt 27, 3) := by decide +kernel
theorem d_X12_goOn_82 : decode prog_14_method_9_code 82 = .ok (.getfield 137, 3) := by decide +kernel
theorem d_X12_goOn_90 : decode prog_14_method_9_code 90 = .ok (.putfield 189, 3) := by decide +kernel
theorem d_X12_goOn_89 : decode prog_14_method_9_code 89 = .ok (.iconst 0, 1) := by decide +kernel
theorem d_X12_goOn_143 : decode prog_14_method_9_code 143 = .ok (.goto (-24), 3) := by decide +kernel
theorem d_X12_goOn_119 : decode prog_14_method_9_code 119 = .ok (.aload_n 0, 1) := by decide +kernel
theorem d_X12_goOn_103 : decode prog_14_method_9_code 103 = .ok (.getfield 137, 3) := by decide +kernel
theorem d_X12_goOn_98 : decode prog_14_method_9_code 98 = .ok (.putfield 182, 3) := by decide +kernel
theorem d_X12_goOn_95 : decode prog_14_method_9_code 95 = .ok (.getfield 137, 3) := by decide +kernel
theorem d_X12_goOn_94 : decode prog_14_method_9_code 94 = .ok (.aload_n 0, 1) := by decide +kernel
theorem d_X12_goOn_102 : decode prog_14_method_9_code 102 = .ok (.aload_n 0, 1) := by decide +kernel
theorem d_X12_goOn_101 : decode prog_14_method_9_code 101 = .ok (.aload_n 0, 1) := by decide +kernel
theorem d_X12_goOn_112 : decode prog_14_method_9_code 112 = .ok (.iload_n 1, 1) := by decide +kernel
theorem d_X12_goOn_109 : decode prog_14_method_9_code 109 = .ok (.goto 268, 3) := by decide +kernel
