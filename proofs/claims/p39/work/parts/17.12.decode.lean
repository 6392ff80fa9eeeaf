theorem d_X12_passedByChoice_57 : decode prog_14_method_105_code 57 = .ok (.getfield 98, 3) := by decide +kernel
theorem d_X12_passedByChoice_56 : decode prog_14_method_105_code 56 = .ok (.aload_n 0, 1) := by decide +kernel
theorem d_X12_passedByChoice_63 : decode prog_14_method_105_code 63 = .ok (.imul, 1) := by decide +kernel
theorem d_X12_passedByChoice_62 : decode prog_14_method_105_code 62 = .ok (.iload_n 2, 1) := by decide +kernel
theorem d_X12_passedByChoice_75 : decode prog_14_method_105_code 75 = .ok (.iadd, 1) := by decide +kernel
theorem d_X12_passedByChoice_70 : decode prog_14_method_105_code 70 = .ok (.iconst 1, 1) := by decide +kernel
theorem d_X12_passedByChoice_66 : decode prog_14_method_105_code 66 = .ok (.baload, 1) := by decide +kernel
theorem d_X12_passedByChoice_65 : decode prog_14_method_105_code 65 = .ok (.iadd, 1) := by decide +kernel
theorem d_X12_passedByChoice_67 : decode prog_14_method_105_code 67 = .ok (.ifCond .eq 7, 3) := by decide +kernel
theorem d_X12_passedByChoice_74 : decode prog_14_method_105_code 74 = .ok (.iconst 0, 1) := by decide +kernel
theorem d_X12_passedByChoice_71 : decode prog_14_method_105_code 71 = .ok (.goto 4, 3) := by decide +kernel
theorem d_X12_passedByChoice_80 : decode prog_14_method_105_code 80 = .ok (.goto (-76), 3) := by decide +kernel
theorem d_X12_passedByChoice_77 : decode prog_14_method_105_code 77 = .ok (.iinc 2 1, 3) := by decide +kernel
theorem d_X12_passedByChoice_76 : decode prog_14_method_105_code 76 = .ok (.istore_n 1, 1) := by decide +kernel
theorem d_X12_passedByChoice_84 : decode prog_14_method_105_code 84 = .ok (.ireturn, 1) := by decide +kernel
theorem d_X12_passedByChoice_83 : decode prog_14_method_105_code 83 = .ok (.iload_n 1, 1) := by decide +kernel
theorem d_X12_layChoice_41 : decode prog_14_method_104_code 41 = .ok (.iaload, 1) := by decide +kernel
theorem d_X12_layChoice_21 : decode prog_14_method_104_code 21 = .ok (.iload 4, 2) := by decide +kernel
theorem d_X12_layChoice_8 : decode prog_14_method_104_code 8 = .ok (.iconst 1, 1) := by decide +kernel
theorem d_X12_layChoice_3 : decode prog_14_method_104_code 3 = .ok (.istore_n 3, 1) := by decide +kernel
theorem d_X12_layChoice_1 : decode prog_14_method_104_code 1 = .ok (.istore_n 2, 1) := by decide +kernel
theorem d_X12_layChoice_0 : decode prog_14_method_104_code 0 = .ok (.iload_n 1, 1) := by decide +kernel
theorem d_X12_layChoice_2 : decode prog_14_method_104_code 2 = .ok (.iconst 0, 1) := by decide +kernel
theorem d_X12_layChoice_5 : decode prog_14_method_104_code 5 = .ok (.invokevirtual 347, 3) := by decide +kernel
theorem d_X12_layChoice_4 : decode prog_14_method_104_code 4 = .ok (.aload_n 0, 1) := by decide +kernel
theorem d_X12_layChoice_14 : decode prog_14_method_104_code 14 = .ok (.ifCond .lt 73, 3) := by decide +kernel
theorem d_X12_layChoice_10 : decode prog_14_method_104_code 10 = .ok (.istore 4, 2) := by decide +kernel
theorem d_X12_layChoice_9 : decode prog_14_method_104_code 9 = .ok (.isub, 1) := by decide +kernel
theorem d_X12_layChoice_12 : decode prog_14_method_104_code 12 = .ok (.iload 4, 2) := by decide +kernel
theorem d_X12_layChoice_18 : decode prog_14_method_104_code 18 = .ok (.getfield 104, 3) := by decide +kernel
theorem d_X12_layChoice_17 : decode prog_14_method_104_code 17 = .ok (.aload_n 0, 1) := by decide +kernel
theorem d_X12_layChoice_30 : decode prog_14_method_104_code 30 = .ok (.iload_n 2, 1) := by decide +kernel
theorem d_X12_layChoice_27 : decode prog_14_method_104_code 27 = .ok (.iconst 1, 1) := by decide +kernel
theorem d_X12_layChoice_24 : decode prog_14_method_104_code 24 = .ok (.bipush 6, 2) := by decide +kernel
theorem d_X12_layChoice_23 : decode prog_14_method_104_code 23 = .ok (.iload_n 2, 1) := by decide +kernel
theorem d_X12_layChoice_26 : decode prog_14_method_104_code 26 = .ok (.irem, 1) := by decide +kernel
theorem d_X12_layChoice_29 : decode prog_14_method_104_code 29 = .ok (.iastore, 1) := by decide +kernel
theorem d_X12_layChoice_28 : decode prog_14_method_104_code 28 = .ok (.isub, 1) := by decide +kernel
theorem d_X12_layChoice_35 : decode prog_14_method_104_code 35 = .ok (.aload_n 0, 1) := by decide +kernel
theorem d_X12_layChoice_33 : decode prog_14_method_104_code 33 = .ok (.idiv, 1) := by decide +kernel
theorem d_X12_layChoice_31 : decode prog_14_method_104_code 31 = .ok (.bipush 6, 2) := by decide +kernel
theorem d_X12_layChoice_34 : decode prog_14_method_104_code 34 = .ok (.istore_n 2, 1) := by decide +kernel
theorem d_X12_layChoice_39 : decode prog_14_method_104_code 39 = .ok (.iload 4, 2) := by decide +kernel
theorem d_X12_layChoice_36 : decode prog_14_method_104_code 36 = .ok (.getfield 104, 3) := by decide +kernel
theorem d_X12_layChoice_65 : decode prog_14_method_104_code 65 = .ok (.getfield 104, 3) := by decide +kernel
theorem d_X12_layChoice_54 : decode prog_14_method_104_code 54 = .ok (.iaload, 1) := by decide +kernel
theorem d_X12_layChoice_48 : decode prog_14_method_104_code 48 = .ok (.aload_n 0, 1) := by decide +kernel
theorem d_X12_layChoice_45 : decode prog_14_method_104_code 45 = .ok (.aload_n 0, 1) := by decide +kernel
theorem d_X12_layChoice_42 : decode prog_14_method_104_code 42 = .ok (.ifCond .lt 21, 3) := by decide +kernel
theorem d_X12_layChoice_46 : decode prog_14_method_104_code 46 = .ok (.iload 4, 2) := by decide +kernel
theorem d_X12_layChoice_52 : decode prog_14_method_104_code 52 = .ok (.iload 4, 2) := by decide +kernel
theorem d_X12_layChoice_49 : decode prog_14_method_104_code 49 = .ok (.getfield 104, 3) := by decide +kernel
theorem d_X12_layChoice_62 : decode prog_14_method_104_code 62 = .ok (.ireturn, 1) := by decide +kernel
theorem d_X12_layChoice_58 : decode prog_14_method_104_code 58 = .ok (.ifCond .ne 5, 3) := by decide +kernel
theorem d_X12_layChoice_55 : decode prog_14_method_104_code 55 = .ok (.invokevirtual 413, 3) := by decide +kernel
theorem d_X12_layChoice_61 : decode prog_14_method_104_code 61 = .ok (.iconst (-1), 1) := by decide +kernel
theorem d_X12_layChoice_64 : decode prog_14_method_104_code 64 = .ok (.aload_n 0, 1) := by decide +kernel
theorem d_X12_layChoice_63 : decode prog_14_method_104_code 63 = .ok (.iload_n 3, 1) := by decide +kernel
theorem d_X12_layChoice_79 : decode prog_14_method_104_code 79 = .ok (.iadd, 1) := by decide +kernel
theorem d_X12_layChoice_74 : decode prog_14_method_104_code 74 = .ok (.iconst 1, 1) := by decide +kernel
theorem d_X12_layChoice_70 : decode prog_14_method_104_code 70 = .ok (.iaload, 1) := by decide +kernel
theorem d_X12_layChoice_68 : decode prog_14_method_104_code 68 = .ok (.iload 4, 2) := by decide +kernel
theorem d_X12_layChoice_71 : decode prog_14_method_104_code 71 = .ok (.ifCond .lt 7, 3) := by decide +kernel
theorem d_X12_layChoice_78 : decode prog_14_method_104_code 78 = .ok (.iconst 0, 1) := by decide +kernel
theorem d_X12_layChoice_75 : decode prog_14_method_104_code 75 = .ok (.goto 4, 3) := by decide +kernel
theorem d_X12_layChoice_84 : decode prog_14_method_104_code 84 = .ok (.goto (-72), 3) := by decide +kernel
theorem d_X12_layChoice_81 : decode prog_14_method_104_code 81 = .ok (.iinc 4 (-1), 3) := by decide +kernel
theorem d_X12_layChoice_80 : decode prog_14_method_104_code 80 = .ok (.istore_n 3, 1) := by decide +kernel
theorem d_X12_layChoice_88 : decode prog_14_method_104_code 88 = .ok (.ireturn, 1) := by decide +kernel
theorem d_X12_layChoice_87 : decode prog_14_method_104_code 87 = .ok (.iload_n 3, 1) := by decide +kernel
theorem d_X11_plan_4 : decode prog_1_method_20_code 4 = .ok (.invokevirtual 261, 3) := by decide +kernel
theorem d_X11_plan_1 : decode prog_1_method_20_code 1 = .ok (.getfield 87, 3) := by decide +kernel
theorem d_X11_plan_0 : decode prog_1_method_20_code 0 = .ok (.aload_n 0, 1) := by decide +kernel
theorem d_X11_plan_7 : decode prog_1_method_20_code 7 = .ok (.ireturn, 1) := by decide +kernel
theorem d_X3_choosePlan_61 : decode prog_5_method_5_code 61 = .ok (.aload_n 0, 1) := by decide +kernel
theorem d_X3_choosePlan_31 : decode prog_5_method_5_code 31 = .ok (.aload_n 0, 1) := by decide +kernel
theorem d_X3_choosePlan_15 : decode prog_5_method_5_code 15 = .ok (.iload_n 1, 1) := by decide +kernel
theorem d_X3_choosePlan_8 : decode prog_5_method_5_code 8 = .ok (.aload_n 0, 1) := by decide +kernel
theorem d_X3_choosePlan_4 : decode prog_5_method_5_code 4 = .ok (.iconst 0, 1) := by decide +kernel
theorem d_X3_choosePlan_1 : decode prog_5_method_5_code 1 = .ok (.getfield 18, 3) := by decide +kernel
theorem d_X3_choosePlan_0 : decode prog_5_method_5_code 0 = .ok (.aload_n 0, 1) := by decide +kernel
theorem d_X3_choosePlan_5 : decode prog_5_method_5_code 5 = .ok (.invokestatic 66, 3) := by decide +kernel
theorem d_X3_choosePlan_13 : decode prog_5_method_5_code 13 = .ok (.iconst 0, 1) := by decide +kernel
theorem d_X3_choosePlan_10 : decode prog_5_method_5_code 10 = .ok (.putfield 72, 3) := by decide +kernel
theorem d_X3_choosePlan_9 : decode prog_5_method_5_code 9 = .ok (.iconst 0, 1) := by decide +kernel
theorem d_X3_choosePlan_14 : decode prog_5_method_5_code 14 = .ok (.istore_n 1, 1) := by decide +kernel
theorem d_X3_choosePlan_24 : decode prog_5_method_5_code 24 = .ok (.iload_n 1, 1) := by decide +kernel
theorem d_X3_choosePlan_20 : decode prog_5_method_5_code 20 = .ok (.aload_n 0, 1) := by decide +kernel
theorem d_X3_choosePlan_17 : decode prog_5_method_5_code 17 = .ok (.if_icmp .ge 98, 3) := by decide +kernel
theorem d_X3_choosePlan_16 : decode prog_5_method_5_code 16 = .ok (.iconst 5, 1) := by decide +kernel
theorem d_X3_choosePlan_21 : decode prog_5_method_5_code 21 = .ok (.getfield 21, 3) := by decide +kernel
theorem d_X3_choosePlan_27 : decode prog_5_method_5_code 27 = .ok (.invokevirtual 75, 3) := by decide +kernel
theorem d_X3_choosePlan_26 : decode prog_5_method_5_code 26 = .ok (.iload_n 1, 1) := by decide +kernel
theorem d_X3_choosePlan_25 : decode prog_5_method_5_code 25 = .ok (.aload_n 0, 1) := by decide +kernel
theorem d_X3_choosePlan_30 : decode prog_5_method_5_code 30 = .ok (.lastore, 1) := by decide +kernel
theorem d_X3_choosePlan_47 : decode prog_5_method_5_code 47 = .ok (.laload, 1) := by decide +kernel
theorem d_X3_choosePlan_38 : decode prog_5_method_5_code 38 = .ok (.lcmp, 1) := by decide +kernel
theorem d_X3_choosePlan_36 : decode prog_5_method_5_code 36 = .ok (.laload, 1) := by decide +kernel
theorem d_X3_choosePlan_35 : decode prog_5_method_5_code 35 = .ok (.iload_n 1, 1) := by decide +kernel
theorem d_X3_choosePlan_32 : decode prog_5_method_5_code 32 = .ok (.getfield 21, 3) := by decide +kernel
theorem d_X3_choosePlan_37 : decode prog_5_method_5_code 37 = .ok (.lconst 0, 1) := by decide +kernel
theorem d_X3_choosePlan_43 : decode prog_5_method_5_code 43 = .ok (.getfield 21, 3) := by decide +kernel
theorem d_X3_choosePlan_42 : decode prog_5_method_5_code 42 = .ok (.aload_n 0, 1) := by decide +kernel
theorem d_X3_choosePlan_39 : decode prog_5_method_5_code 39 = .ok (.ifCond .eq 20, 3) := by decide +kernel
theorem d_X3_choosePlan_46 : decode prog_5_method_5_code 46 = .ok (.iload_n 1, 1) := by decide +kernel
theorem d_X3_choosePlan_52 : decode prog_5_method_5_code 52 = .ok (.ifCond .ne 7, 3) := by decide +kernel
theorem d_X3_choosePlan_50 : decode prog_5_method_5_code 50 = .ok (.lconst 0, 1) := by decide +kernel
theorem d_X3_choosePlan_49 : decode prog_5_method_5_code 49 = .ok (.land, 1) := by decide +kernel
theorem d_X3_choosePlan_48 : decode prog_5_method_5_code 48 = .ok (.lconst 1, 1) := by decide +kernel
theorem d_X3_choosePlan_51 : decode prog_5_method_5_code 51 = .ok (.lcmp, 1) := by decide +kernel
theorem d_X3_choosePlan_59 : decode prog_5_method_5_code 59 = .ok (.iconst 0, 1) := by decide +kernel
theorem d_X3_choosePlan_56 : decode prog_5_method_5_code 56 = .ok (.goto 4, 3) := by decide +kernel
theorem d_X3_choosePlan_55 : decode prog_5_method_5_code 55 = .ok (.iconst 1, 1) := by decide +kernel
theorem d_X3_choosePlan_60 : decode prog_5_method_5_code 60 = .ok (.istore_n 2, 1) := by decide +kernel
theorem d_X3_choosePlan_95 : decode prog_5_method_5_code 95 = .ok (.lconst 0, 1) := by decide +kernel
theorem d_X3_choosePlan_79 : decode prog_5_method_5_code 79 = .ok (.goto 4, 3) := by decide +kernel
theorem d_X3_choosePlan_70 : decode prog_5_method_5_code 70 = .ok (.aload_n 0, 1) := by decide +kernel
theorem d_X3_choosePlan_66 : decode prog_5_method_5_code 66 = .ok (.iload_n 2, 1) := by decide +kernel
theorem d_X3_choosePlan_65 : decode prog_5_method_5_code 65 = .ok (.iload_n 1, 1) := by decide +kernel
theorem d_X3_choosePlan_62 : decode prog_5_method_5_code 62 = .ok (.getfield 25, 3) := by decide +kernel
theorem d_X3_choosePlan_67 : decode prog_5_method_5_code 67 = .ok (.ifCond .eq 15, 3) := by decide +kernel
theorem d_X3_choosePlan_75 : decode prog_5_method_5_code 75 = .ok (.invokevirtual 79, 3) := by decide +kernel
theorem d_X3_choosePlan_74 : decode prog_5_method_5_code 74 = .ok (.iload_n 1, 1) := by decide +kernel
theorem d_X3_choosePlan_71 : decode prog_5_method_5_code 71 = .ok (.getfield 49, 3) := by decide +kernel
theorem d_X3_choosePlan_78 : decode prog_5_method_5_code 78 = .ok (.i2l, 1) := by decide +kernel
theorem d_X3_choosePlan_86 : decode prog_5_method_5_code 86 = .ok (.getfield 72, 3) := by decide +kernel
theorem d_X3_choosePlan_84 : decode prog_5_method_5_code 84 = .ok (.aload_n 0, 1) := by decide +kernel
theorem d_X3_choosePlan_83 : decode prog_5_method_5_code 83 = .ok (.lastore, 1) := by decide +kernel
theorem d_X3_choosePlan_82 : decode prog_5_method_5_code 82 = .ok (.lconst 0, 1) := by decide +kernel
theorem d_X3_choosePlan_85 : decode prog_5_method_5_code 85 = .ok (.dup, 1) := by decide +kernel
theorem d_X3_choosePlan_93 : decode prog_5_method_5_code 93 = .ok (.iload_n 1, 1) := by decide +kernel
theorem d_X3_choosePlan_90 : decode prog_5_method_5_code 90 = .ok (.getfield 21, 3) := by decide +kernel
theorem d_X3_choosePlan_89 : decode prog_5_method_5_code 89 = .ok (.aload_n 0, 1) := by decide +kernel
theorem d_X3_choosePlan_94 : decode prog_5_method_5_code 94 = .ok (.laload, 1) := by decide +kernel
theorem d_X3_choosePlan_115 : decode prog_5_method_5_code 115 = .ok (.aload_n 0, 1) := by decide +kernel
theorem d_X3_choosePlan_104 : decode prog_5_method_5_code 104 = .ok (.iconst 0, 1) := by decide +kernel
theorem d_X3_choosePlan_100 : decode prog_5_method_5_code 100 = .ok (.iconst 1, 1) := by decide +kernel
theorem d_X3_choosePlan_97 : decode prog_5_method_5_code 97 = .ok (.ifCond .eq 7, 3) := by decide +kernel
theorem d_X3_choosePlan_96 : decode prog_5_method_5_code 96 = .ok (.lcmp, 1) := by decide +kernel
theorem d_X3_choosePlan_101 : decode prog_5_method_5_code 101 = .ok (.goto 4, 3) := by decide +kernel
theorem d_X3_choosePlan_109 : decode prog_5_method_5_code 109 = .ok (.iinc 1 1, 3) := by decide +kernel
theorem d_X3_choosePlan_106 : decode prog_5_method_5_code 106 = .ok (.putfield 72, 3) := by decide +kernel
theorem d_X3_choosePlan_105 : decode prog_5_method_5_code 105 = .ok (.iadd, 1) := by decide +kernel
theorem d_X3_choosePlan_112 : decode prog_5_method_5_code 112 = .ok (.goto (-97), 3) := by decide +kernel
theorem d_X3_choosePlan_122 : decode prog_5_method_5_code 122 = .ok (.iconst 0, 1) := by decide +kernel
theorem d_X3_choosePlan_120 : decode prog_5_method_5_code 120 = .ok (.aload_n 0, 1) := by decide +kernel
theorem d_X3_choosePlan_117 : decode prog_5_method_5_code 117 = .ok (.putfield 85, 3) := by decide +kernel
theorem d_X3_choosePlan_116 : decode prog_5_method_5_code 116 = .ok (.iconst (-1), 1) := by decide +kernel
theorem d_X3_choosePlan_121 : decode prog_5_method_5_code 121 = .ok (.iconst 0, 1) := by decide +kernel
theorem d_X3_choosePlan_127 : decode prog_5_method_5_code 127 = .ok (.getfield 85, 3) := by decide +kernel
theorem d_X3_choosePlan_126 : decode prog_5_method_5_code 126 = .ok (.aload_n 0, 1) := by decide +kernel
theorem d_X3_choosePlan_123 : decode prog_5_method_5_code 123 = .ok (.invokevirtual 88, 3) := by decide +kernel
theorem d_X3_choosePlan_130 : decode prog_5_method_5_code 130 = .ok (.ireturn, 1) := by decide +kernel
theorem d_X3_extendPlan_72 : decode prog_5_method_7_code 72 = .ok (.lshr, 1) := by decide +kernel
theorem d_X3_extendPlan_42 : decode prog_5_method_7_code 42 = .ok (.return_, 1) := by decide +kernel
theorem d_X3_extendPlan_20 : decode prog_5_method_7_code 20 = .ok (.iload_n 1, 1) := by decide +kernel
theorem d_X3_extendPlan_11 : decode prog_5_method_7_code 11 = .ok (.iload_n 2, 1) := by decide +kernel
theorem d_X3_extendPlan_4 : decode prog_5_method_7_code 4 = .ok (.aload_n 0, 1) := by decide +kernel
theorem d_X3_extendPlan_1 : decode prog_5_method_7_code 1 = .ok (.getfield 85, 3) := by decide +kernel
theorem d_X3_extendPlan_0 : decode prog_5_method_7_code 0 = .ok (.aload_n 0, 1) := by decide +kernel
theorem d_X3_extendPlan_8 : decode prog_5_method_7_code 8 = .ok (.if_icmp .ne 12, 3) := by decide +kernel
theorem d_X3_extendPlan_5 : decode prog_5_method_7_code 5 = .ok (.getfield 72, 3) := by decide +kernel
theorem d_X3_extendPlan_16 : decode prog_5_method_7_code 16 = .ok (.if_icmp .lt 4, 3) := by decide +kernel
theorem d_X3_extendPlan_13 : decode prog_5_method_7_code 13 = .ok (.getfield 105, 3) := by decide +kernel
theorem d_X3_extendPlan_12 : decode prog_5_method_7_code 12 = .ok (.aload_n 0, 1) := by decide +kernel
theorem d_X3_extendPlan_19 : decode prog_5_method_7_code 19 = .ok (.return_, 1) := by decide +kernel
theorem d_X3_extendPlan_32 : decode prog_5_method_7_code 32 = .ok (.bipush 6, 2) := by decide +kernel
theorem d_X3_extendPlan_25 : decode prog_5_method_7_code 25 = .ok (.getfield 108, 3) := by decide +kernel
theorem d_X3_extendPlan_22 : decode prog_5_method_7_code 22 = .ok (.getfield 37, 3) := by decide +kernel
theorem d_X3_extendPlan_21 : decode prog_5_method_7_code 21 = .ok (.aload_n 0, 1) := by decide +kernel
theorem d_X3_extendPlan_31 : decode prog_5_method_7_code 31 = .ok (.iload_n 1, 1) := by decide +kernel
theorem d_X3_extendPlan_28 : decode prog_5_method_7_code 28 = .ok (.if_icmp .ge 9, 3) := by decide +kernel
theorem d_X3_extendPlan_38 : decode prog_5_method_7_code 38 = .ok (.iload_n 2, 1) := by decide +kernel
theorem d_X3_extendPlan_37 : decode prog_5_method_7_code 37 = .ok (.aload_n 0, 1) := by decide +kernel
theorem d_X3_extendPlan_34 : decode prog_5_method_7_code 34 = .ok (.if_icmp .lt 9, 3) := by decide +kernel
theorem d_X3_extendPlan_39 : decode prog_5_method_7_code 39 = .ok (.invokevirtual 111, 3) := by decide +kernel
theorem d_X3_extendPlan_55 : decode prog_5_method_7_code 55 = .ok (.invokevirtual 88, 3) := by decide +kernel
theorem d_X3_extendPlan_50 : decode prog_5_method_7_code 50 = .ok (.aload_n 0, 1) := by decide +kernel
theorem d_X3_extendPlan_47 : decode prog_5_method_7_code 47 = .ok (.iload_n 1, 1) := by decide +kernel
theorem d_X3_extendPlan_44 : decode prog_5_method_7_code 44 = .ok (.getfield 15, 3) := by decide +kernel
theorem d_X3_extendPlan_43 : decode prog_5_method_7_code 43 = .ok (.aload_n 0, 1) := by decide +kernel
theorem d_X3_extendPlan_49 : decode prog_5_method_7_code 49 = .ok (.iastore, 1) := by decide +kernel
theorem d_X3_extendPlan_48 : decode prog_5_method_7_code 48 = .ok (.iconst (-1), 1) := by decide +kernel
theorem d_X3_extendPlan_53 : decode prog_5_method_7_code 53 = .ok (.iadd, 1) := by decide +kernel
theorem d_X3_extendPlan_52 : decode prog_5_method_7_code 52 = .ok (.iconst 1, 1) := by decide +kernel
theorem d_X3_extendPlan_51 : decode prog_5_method_7_code 51 = .ok (.iload_n 1, 1) := by decide +kernel
theorem d_X3_extendPlan_54 : decode prog_5_method_7_code 54 = .ok (.iload_n 2, 1) := by decide +kernel
theorem d_X3_extendPlan_65 : decode prog_5_method_7_code 65 = .ok (.aload_n 0, 1) := by decide +kernel
theorem d_X3_extendPlan_60 : decode prog_5_method_7_code 60 = .ok (.iload_n 3, 1) := by decide +kernel
theorem d_X3_extendPlan_59 : decode prog_5_method_7_code 59 = .ok (.istore_n 3, 1) := by decide +kernel
theorem d_X3_extendPlan_58 : decode prog_5_method_7_code 58 = .ok (.iconst 0, 1) := by decide +kernel
theorem d_X3_extendPlan_62 : decode prog_5_method_7_code 62 = .ok (.if_icmp .ge 67, 3) := by decide +kernel
theorem d_X3_extendPlan_61 : decode prog_5_method_7_code 61 = .ok (.iconst 5, 1) := by decide +kernel
theorem d_X3_extendPlan_70 : decode prog_5_method_7_code 70 = .ok (.laload, 1) := by decide +kernel
theorem d_X3_extendPlan_69 : decode prog_5_method_7_code 69 = .ok (.iload_n 3, 1) := by decide +kernel
theorem d_X3_extendPlan_66 : decode prog_5_method_7_code 66 = .ok (.getfield 25, 3) := by decide +kernel
theorem d_X3_extendPlan_71 : decode prog_5_method_7_code 71 = .ok (.iload_n 1, 1) := by decide +kernel
theorem d_X3_extendPlan_100 : decode prog_5_method_7_code 100 = .ok (.iload_n 1, 1) := by decide +kernel
theorem d_X3_extendPlan_87 : decode prog_5_method_7_code 87 = .ok (.aload_n 0, 1) := by decide +kernel
theorem d_X3_extendPlan_80 : decode prog_5_method_7_code 80 = .ok (.aload_n 0, 1) := by decide +kernel
theorem d_X3_extendPlan_75 : decode prog_5_method_7_code 75 = .ok (.lconst 0, 1) := by decide +kernel
theorem d_X3_extendPlan_74 : decode prog_5_method_7_code 74 = .ok (.land, 1) := by decide +kernel
theorem d_X3_extendPlan_73 : decode prog_5_method_7_code 73 = .ok (.lconst 1, 1) := by decide +kernel
theorem d_X3_extendPlan_77 : decode prog_5_method_7_code 77 = .ok (.ifCond .eq 46, 3) := by decide +kernel
theorem d_X3_extendPlan_76 : decode prog_5_method_7_code 76 = .ok (.lcmp, 1) := by decide +kernel
theorem d_X3_extendPlan_85 : decode prog_5_method_7_code 85 = .ok (.iload_n 3, 1) := by decide +kernel
theorem d_X3_extendPlan_84 : decode prog_5_method_7_code 84 = .ok (.iload_n 1, 1) := by decide +kernel
theorem d_X3_extendPlan_81 : decode prog_5_method_7_code 81 = .ok (.getfield 15, 3) := by decide +kernel
theorem d_X3_extendPlan_86 : decode prog_5_method_7_code 86 = .ok (.iastore, 1) := by decide +kernel
theorem d_X3_extendPlan_95 : decode prog_5_method_7_code 95 = .ok (.iload_n 1, 1) := by decide +kernel
theorem d_X3_extendPlan_92 : decode prog_5_method_7_code 92 = .ok (.dup2, 1) := by decide +kernel
theorem d_X3_extendPlan_91 : decode prog_5_method_7_code 91 = .ok (.iload_n 3, 1) := by decide +kernel
theorem d_X3_extendPlan_88 : decode prog_5_method_7_code 88 = .ok (.getfield 18, 3) := by decide +kernel
theorem d_X3_extendPlan_94 : decode prog_5_method_7_code 94 = .ok (.iconst 1, 1) := by decide +kernel
theorem d_X3_extendPlan_93 : decode prog_5_method_7_code 93 = .ok (.iaload, 1) := by decide +kernel
theorem d_X3_extendPlan_98 : decode prog_5_method_7_code 98 = .ok (.iastore, 1) := by decide +kernel
theorem d_X3_extendPlan_97 : decode prog_5_method_7_code 97 = .ok (.ior, 1) := by decide +kernel
theorem d_X3_extendPlan_96 : decode prog_5_method_7_code 96 = .ok (.ishl, 1) := by decide +kernel
theorem d_X3_extendPlan_99 : decode prog_5_method_7_code 99 = .ok (.aload_n 0, 1) := by decide +kernel
theorem d_X3_extendPlan_115 : decode prog_5_method_7_code 115 = .ok (.iaload, 1) := by decide +kernel
theorem d_X3_extendPlan_106 : decode prog_5_method_7_code 106 = .ok (.invokevirtual 88, 3) := by decide +kernel
theorem d_X3_extendPlan_103 : decode prog_5_method_7_code 103 = .ok (.iload_n 2, 1) := by decide +kernel
theorem d_X3_extendPlan_102 : decode prog_5_method_7_code 102 = .ok (.iadd, 1) := by decide +kernel
theorem d_X3_extendPlan_101 : decode prog_5_method_7_code 101 = .ok (.iconst 1, 1) := by decide +kernel
theorem d_X3_extendPlan_105 : decode prog_5_method_7_code 105 = .ok (.iadd, 1) := by decide +kernel
theorem d_X3_extendPlan_104 : decode prog_5_method_7_code 104 = .ok (.iconst 1, 1) := by decide +kernel
theorem d_X3_extendPlan_113 : decode prog_5_method_7_code 113 = .ok (.iload_n 3, 1) := by decide +kernel
theorem d_X3_extendPlan_110 : decode prog_5_method_7_code 110 = .ok (.getfield 18, 3) := by decide +kernel
theorem d_X3_extendPlan_109 : decode prog_5_method_7_code 109 = .ok (.aload_n 0, 1) := by decide +kernel
theorem d_X3_extendPlan_114 : decode prog_5_method_7_code 114 = .ok (.dup2, 1) := by decide +kernel
theorem d_X3_extendPlan_121 : decode prog_5_method_7_code 121 = .ok (.iand, 1) := by decide +kernel
theorem d_X3_extendPlan_118 : decode prog_5_method_7_code 118 = .ok (.ishl, 1) := by decide +kernel
theorem d_X3_extendPlan_117 : decode prog_5_method_7_code 117 = .ok (.iload_n 1, 1) := by decide +kernel
theorem d_X3_extendPlan_116 : decode prog_5_method_7_code 116 = .ok (.iconst 1, 1) := by decide +kernel
theorem d_X3_extendPlan_120 : decode prog_5_method_7_code 120 = .ok (.ixor, 1) := by decide +kernel
theorem d_X3_extendPlan_119 : decode prog_5_method_7_code 119 = .ok (.iconst (-1), 1) := by decide +kernel
theorem d_X3_extendPlan_126 : decode prog_5_method_7_code 126 = .ok (.goto (-66), 3) := by decide +kernel
theorem d_X3_extendPlan_123 : decode prog_5_method_7_code 123 = .ok (.iinc 3 1, 3) := by decide +kernel
theorem d_X3_extendPlan_122 : decode prog_5_method_7_code 122 = .ok (.iastore, 1) := by decide +kernel
theorem d_X3_extendPlan_129 : decode prog_5_method_7_code 129 = .ok (.return_, 1) := by decide +kernel
theorem d_X3_weighPlan_23 : decode prog_5_method_8_code 23 = .ok (.getfield 105, 3) := by decide +kernel
theorem d_X3_weighPlan_10 : decode prog_5_method_8_code 10 = .ok (.if_icmp .gt 19, 3) := by decide +kernel
theorem d_X3_weighPlan_5 : decode prog_5_method_8_code 5 = .ok (.iload_n 2, 1) := by decide +kernel
theorem d_X3_weighPlan_1 : decode prog_5_method_8_code 1 = .ok (.invokevirtual 115, 3) := by decide +kernel
theorem d_X3_weighPlan_0 : decode prog_5_method_8_code 0 = .ok (.aload_n 0, 1) := by decide +kernel
theorem d_X3_weighPlan_4 : decode prog_5_method_8_code 4 = .ok (.istore_n 2, 1) := by decide +kernel
theorem d_X3_weighPlan_7 : decode prog_5_method_8_code 7 = .ok (.getfield 85, 3) := by decide +kernel
theorem d_X3_weighPlan_6 : decode prog_5_method_8_code 6 = .ok (.aload_n 0, 1) := by decide +kernel
theorem d_X3_weighPlan_18 : decode prog_5_method_8_code 18 = .ok (.if_icmp .ne 32, 3) := by decide +kernel
theorem d_X3_weighPlan_14 : decode prog_5_method_8_code 14 = .ok (.aload_n 0, 1) := by decide +kernel
theorem d_X3_weighPlan_13 : decode prog_5_method_8_code 13 = .ok (.iload_n 2, 1) := by decide +kernel
theorem d_X3_weighPlan_15 : decode prog_5_method_8_code 15 = .ok (.getfield 85, 3) := by decide +kernel
theorem d_X3_weighPlan_22 : decode prog_5_method_8_code 22 = .ok (.aload_n 0, 1) := by decide +kernel
theorem d_X3_weighPlan_21 : decode prog_5_method_8_code 21 = .ok (.iload_n 1, 1) := by decide +kernel
theorem d_X3_weighPlan_36 : decode prog_5_method_8_code 36 = .ok (.putfield 105, 3) := by decide +kernel
theorem d_X3_weighPlan_31 : decode prog_5_method_8_code 31 = .ok (.putfield 85, 3) := by decide +kernel
theorem d_X3_weighPlan_29 : decode prog_5_method_8_code 29 = .ok (.aload_n 0, 1) := by decide +kernel
theorem d_X3_weighPlan_26 : decode prog_5_method_8_code 26 = .ok (.if_icmp .ge 24, 3) := by decide +kernel
theorem d_X3_weighPlan_30 : decode prog_5_method_8_code 30 = .ok (.iload_n 2, 1) := by decide +kernel
theorem d_X3_weighPlan_35 : decode prog_5_method_8_code 35 = .ok (.iload_n 1, 1) := by decide +kernel
theorem d_X3_weighPlan_34 : decode prog_5_method_8_code 34 = .ok (.aload_n 0, 1) := by decide +kernel
theorem d_X3_weighPlan_44 : decode prog_5_method_8_code 44 = .ok (.getfield 108, 3) := by decide +kernel
theorem d_X3_weighPlan_40 : decode prog_5_method_8_code 40 = .ok (.aload_n 0, 1) := by decide +kernel
theorem d_X3_weighPlan_39 : decode prog_5_method_8_code 39 = .ok (.aload_n 0, 1) := by decide +kernel
theorem d_X3_weighPlan_41 : decode prog_5_method_8_code 41 = .ok (.getfield 37, 3) := by decide +kernel
theorem d_X3_weighPlan_50 : decode prog_5_method_8_code 50 = .ok (.return_, 1) := by decide +kernel
theorem d_X3_weighPlan_47 : decode prog_5_method_8_code 47 = .ok (.invokevirtual 119, 3) := by decide +kernel
theorem d_X3_forcingSets_40 : decode prog_5_method_6_code 40 = .ok (.ifCond .ne 32, 3) := by decide +kernel
theorem d_X3_forcingSets_19 : decode prog_5_method_6_code 19 = .ok (.if_icmp .ge 59, 3) := by decide +kernel
theorem d_X3_forcingSets_7 : decode prog_5_method_6_code 7 = .ok (.invokevirtual 79, 3) := by decide +kernel
theorem d_X3_forcingSets_2 : decode prog_5_method_6_code 2 = .ok (.aload_n 0, 1) := by decide +kernel
theorem d_X3_forcingSets_1 : decode prog_5_method_6_code 1 = .ok (.lstore_n 2, 1) := by decide +kernel
theorem d_X3_forcingSets_0 : decode prog_5_method_6_code 0 = .ok (.lconst 0, 1) := by decide +kernel
theorem d_X3_forcingSets_6 : decode prog_5_method_6_code 6 = .ok (.iload_n 1, 1) := by decide +kernel
theorem d_X3_forcingSets_3 : decode prog_5_method_6_code 3 = .ok (.getfield 49, 3) := by decide +kernel
theorem d_X3_forcingSets_13 : decode prog_5_method_6_code 13 = .ok (.istore 5, 2) := by decide +kernel
theorem d_X3_forcingSets_12 : decode prog_5_method_6_code 12 = .ok (.iconst 0, 1) := by decide +kernel
theorem d_X3_forcingSets_10 : decode prog_5_method_6_code 10 = .ok (.istore 4, 2) := by decide +kernel
theorem d_X3_forcingSets_17 : decode prog_5_method_6_code 17 = .ok (.bipush 64, 2) := by decide +kernel
theorem d_X3_forcingSets_15 : decode prog_5_method_6_code 15 = .ok (.iload 5, 2) := by decide +kernel
theorem d_X3_forcingSets_33 : decode prog_5_method_6_code 33 = .ok (.iload 5, 2) := by decide +kernel
theorem d_X3_forcingSets_26 : decode prog_5_method_6_code 26 = .ok (.iload_n 1, 1) := by decide +kernel
theorem d_X3_forcingSets_23 : decode prog_5_method_6_code 23 = .ok (.getfield 49, 3) := by decide +kernel
theorem d_X3_forcingSets_22 : decode prog_5_method_6_code 22 = .ok (.aload_n 0, 1) := by decide +kernel
theorem d_X3_forcingSets_30 : decode prog_5_method_6_code 30 = .ok (.ifCond .eq 48, 3) := by decide +kernel
theorem d_X3_forcingSets_27 : decode prog_5_method_6_code 27 = .ok (.invokevirtual 92, 3) := by decide +kernel
theorem d_X3_forcingSets_38 : decode prog_5_method_6_code 38 = .ok (.ixor, 1) := by decide +kernel
theorem d_X3_forcingSets_37 : decode prog_5_method_6_code 37 = .ok (.iconst (-1), 1) := by decide +kernel
theorem d_X3_forcingSets_35 : decode prog_5_method_6_code 35 = .ok (.iload 4, 2) := by decide +kernel
theorem d_X3_forcingSets_39 : decode prog_5_method_6_code 39 = .ok (.iand, 1) := by decide +kernel
theorem d_X3_forcingSets_62 : decode prog_5_method_6_code 62 = .ok (.if_icmp .lt 10, 3) := by decide +kernel
theorem d_X3_forcingSets_51 : decode prog_5_method_6_code 51 = .ok (.invokevirtual 96, 3) := by decide +kernel
theorem d_X3_forcingSets_47 : decode prog_5_method_6_code 47 = .ok (.iload_n 1, 1) := by decide +kernel
theorem d_X3_forcingSets_44 : decode prog_5_method_6_code 44 = .ok (.getfield 49, 3) := by decide +kernel
theorem d_X3_forcingSets_43 : decode prog_5_method_6_code 43 = .ok (.aload_n 0, 1) := by decide +kernel
theorem d_X3_forcingSets_50 : decode prog_5_method_6_code 50 = .ok (.iconst 0, 1) := by decide +kernel
theorem d_X3_forcingSets_48 : decode prog_5_method_6_code 48 = .ok (.iload 5, 2) := by decide +kernel
theorem d_X3_forcingSets_58 : decode prog_5_method_6_code 58 = .ok (.iload_n 1, 1) := by decide +kernel
theorem d_X3_forcingSets_55 : decode prog_5_method_6_code 55 = .ok (.getfield 37, 3) := by decide +kernel
theorem d_X3_forcingSets_54 : decode prog_5_method_6_code 54 = .ok (.aload_n 0, 1) := by decide +kernel
theorem d_X3_forcingSets_59 : decode prog_5_method_6_code 59 = .ok (.invokevirtual 100, 3) := by decide +kernel
theorem d_X3_forcingSets_71 : decode prog_5_method_6_code 71 = .ok (.lstore_n 2, 1) := by decide +kernel
theorem d_X3_forcingSets_67 : decode prog_5_method_6_code 67 = .ok (.iload 5, 2) := by decide +kernel
theorem d_X3_forcingSets_66 : decode prog_5_method_6_code 66 = .ok (.lconst 1, 1) := by decide +kernel
theorem d_X3_forcingSets_65 : decode prog_5_method_6_code 65 = .ok (.lload_n 2, 1) := by decide +kernel
theorem d_X3_forcingSets_70 : decode prog_5_method_6_code 70 = .ok (.lor, 1) := by decide +kernel
theorem d_X3_forcingSets_69 : decode prog_5_method_6_code 69 = .ok (.lshl, 1) := by decide +kernel
theorem d_X3_forcingSets_78 : decode prog_5_method_6_code 78 = .ok (.lload_n 2, 1) := by decide +kernel
theorem d_X3_forcingSets_75 : decode prog_5_method_6_code 75 = .ok (.goto (-60), 3) := by decide +kernel
theorem d_X3_forcingSets_72 : decode prog_5_method_6_code 72 = .ok (.iinc 5 1, 3) := by decide +kernel
theorem d_X3_forcingSets_79 : decode prog_5_method_6_code 79 = .ok (.lreturn, 1) := by decide +kernel
theorem d_X12_latest_53 : decode prog_14_method_89_code 53 = .ok (.aload_n 0, 1) := by decide +kernel
theorem d_X12_latest_25 : decode prog_14_method_89_code 25 = .ok (.invokestatic 357, 3) := by decide +kernel
theorem d_X12_latest_13 : decode prog_14_method_89_code 13 = .ok (.ifCond .eq 18, 3) := by decide +kernel
theorem d_X12_latest_5 : decode prog_14_method_89_code 5 = .ok (.ifCond .eq 26, 3) := by decide +kernel
theorem d_X12_latest_1 : decode prog_14_method_89_code 1 = .ok (.iload_n 1, 1) := by decide +kernel
theorem d_X12_latest_0 : decode prog_14_method_89_code 0 = .ok (.aload_n 0, 1) := by decide +kernel
theorem d_X12_latest_2 : decode prog_14_method_89_code 2 = .ok (.invokevirtual 410, 3) := by decide +kernel
theorem d_X12_latest_9 : decode prog_14_method_89_code 9 = .ok (.iload_n 2, 1) := by decide +kernel
theorem d_X12_latest_8 : decode prog_14_method_89_code 8 = .ok (.aload_n 0, 1) := by decide +kernel
theorem d_X12_latest_10 : decode prog_14_method_89_code 10 = .ok (.invokevirtual 398, 3) := by decide +kernel
theorem d_X12_latest_21 : decode prog_14_method_89_code 21 = .ok (.iload_n 2, 1) := by decide +kernel
theorem d_X12_latest_17 : decode prog_14_method_89_code 17 = .ok (.getfield 89, 3) := by decide +kernel
theorem d_X12_latest_16 : decode prog_14_method_89_code 16 = .ok (.aload_n 0, 1) := by decide +kernel
theorem d_X12_latest_20 : decode prog_14_method_89_code 20 = .ok (.iconst 5, 1) := by decide +kernel
theorem d_X12_latest_23 : decode prog_14_method_89_code 23 = .ok (.iaload, 1) := by decide +kernel
theorem d_X12_latest_22 : decode prog_14_method_89_code 22 = .ok (.iadd, 1) := by decide +kernel
theorem d_X12_latest_24 : decode prog_14_method_89_code 24 = .ok (.iload_n 1, 1) := by decide +kernel
theorem d_X12_latest_40 : decode prog_14_method_89_code 40 = .ok (.iload_n 1, 1) := by decide +kernel
theorem d_X12_latest_33 : decode prog_14_method_89_code 33 = .ok (.aload_n 0, 1) := by decide +kernel
theorem d_X12_latest_31 : decode prog_14_method_89_code 31 = .ok (.iconst (-1), 1) := by decide +kernel
theorem d_X12_latest_28 : decode prog_14_method_89_code 28 = .ok (.ifCond .eq 5, 3) := by decide +kernel
theorem d_X12_latest_32 : decode prog_14_method_89_code 32 = .ok (.ireturn, 1) := by decide +kernel
theorem d_X12_latest_37 : decode prog_14_method_89_code 37 = .ok (.bipush 30, 2) := by decide +kernel
theorem d_X12_latest_34 : decode prog_14_method_89_code 34 = .ok (.getfield 89, 3) := by decide +kernel
theorem d_X12_latest_39 : decode prog_14_method_89_code 39 = .ok (.iaload, 1) := by decide +kernel
theorem d_X12_latest_48 : decode prog_14_method_89_code 48 = .ok (.goto 4, 3) := by decide +kernel
theorem d_X12_latest_44 : decode prog_14_method_89_code 44 = .ok (.ifCond .eq 7, 3) := by decide +kernel
theorem d_X12_latest_41 : decode prog_14_method_89_code 41 = .ok (.invokestatic 357, 3) := by decide +kernel
theorem d_X12_latest_47 : decode prog_14_method_89_code 47 = .ok (.iconst 1, 1) := by decide +kernel
theorem d_X12_latest_52 : decode prog_14_method_89_code 52 = .ok (.istore_n 3, 1) := by decide +kernel
theorem d_X12_latest_51 : decode prog_14_method_89_code 51 = .ok (.iconst 0, 1) := by decide +kernel
theorem d_X12_latest_78 : decode prog_14_method_89_code 78 = .ok (.iconst 1, 1) := by decide +kernel
theorem d_X12_latest_66 : decode prog_14_method_89_code 66 = .ok (.iconst 1, 1) := by decide +kernel
theorem d_X12_latest_59 : decode prog_14_method_89_code 59 = .ok (.getfield 89, 3) := by decide +kernel
theorem d_X12_latest_55 : decode prog_14_method_89_code 55 = .ok (.invokevirtual 386, 3) := by decide +kernel
theorem d_X12_latest_54 : decode prog_14_method_89_code 54 = .ok (.iload_n 2, 1) := by decide +kernel
theorem d_X12_latest_58 : decode prog_14_method_89_code 58 = .ok (.aload_n 0, 1) := by decide +kernel
theorem d_X12_latest_64 : decode prog_14_method_89_code 64 = .ok (.iaload, 1) := by decide +kernel
theorem d_X12_latest_62 : decode prog_14_method_89_code 62 = .ok (.bipush 31, 2) := by decide +kernel
theorem d_X12_latest_65 : decode prog_14_method_89_code 65 = .ok (.isub, 1) := by decide +kernel
theorem d_X12_latest_72 : decode prog_14_method_89_code 72 = .ok (.iload_n 3, 1) := by decide +kernel
theorem d_X12_latest_68 : decode prog_14_method_89_code 68 = .ok (.istore 4, 2) := by decide +kernel
theorem d_X12_latest_67 : decode prog_14_method_89_code 67 = .ok (.isub, 1) := by decide +kernel
theorem d_X12_latest_70 : decode prog_14_method_89_code 70 = .ok (.iload 4, 2) := by decide +kernel
theorem d_X12_latest_76 : decode prog_14_method_89_code 76 = .ok (.aload_n 0, 1) := by decide +kernel
theorem d_X12_latest_73 : decode prog_14_method_89_code 73 = .ok (.if_icmp .lt 30, 3) := by decide +kernel
theorem d_X12_latest_77 : decode prog_14_method_89_code 77 = .ok (.iload_n 2, 1) := by decide +kernel
theorem d_X12_latest_91 : decode prog_14_method_89_code 91 = .ok (.if_icmp .lt 6, 3) := by decide +kernel
theorem d_X12_latest_83 : decode prog_14_method_89_code 83 = .ok (.invokevirtual 455, 3) := by decide +kernel
theorem d_X12_latest_80 : decode prog_14_method_89_code 80 = .ok (.ishl, 1) := by decide +kernel
theorem d_X12_latest_79 : decode prog_14_method_89_code 79 = .ok (.iload_n 1, 1) := by decide +kernel
theorem d_X12_latest_81 : decode prog_14_method_89_code 81 = .ok (.iload 4, 2) := by decide +kernel
theorem d_X12_latest_87 : decode prog_14_method_89_code 87 = .ok (.iload_n 2, 1) := by decide +kernel
theorem d_X12_latest_86 : decode prog_14_method_89_code 86 = .ok (.aload_n 0, 1) := by decide +kernel
theorem d_X12_latest_88 : decode prog_14_method_89_code 88 = .ok (.invokevirtual 404, 3) := by decide +kernel
theorem d_X12_latest_100 : decode prog_14_method_89_code 100 = .ok (.goto (-30), 3) := by decide +kernel
theorem d_X12_latest_96 : decode prog_14_method_89_code 96 = .ok (.ireturn, 1) := by decide +kernel
theorem d_X12_latest_94 : decode prog_14_method_89_code 94 = .ok (.iload 4, 2) := by decide +kernel
theorem d_X12_latest_97 : decode prog_14_method_89_code 97 = .ok (.iinc 4 (-1), 3) := by decide +kernel
theorem d_X12_latest_104 : decode prog_14_method_89_code 104 = .ok (.ireturn, 1) := by decide +kernel
theorem d_X12_latest_103 : decode prog_14_method_89_code 103 = .ok (.iconst (-1), 1) := by decide +kernel
theorem d_X11_latest_5 : decode prog_1_method_19_code 5 = .ok (.iload_n 2, 1) := by decide +kernel
theorem d_X11_latest_1 : decode prog_1_method_19_code 1 = .ok (.getfield 71, 3) := by decide +kernel
theorem d_X11_latest_0 : decode prog_1_method_19_code 0 = .ok (.aload_n 0, 1) := by decide +kernel
theorem d_X11_latest_4 : decode prog_1_method_19_code 4 = .ok (.iload_n 1, 1) := by decide +kernel
theorem d_X11_latest_9 : decode prog_1_method_19_code 9 = .ok (.ireturn, 1) := by decide +kernel
theorem d_X11_latest_6 : decode prog_1_method_19_code 6 = .ok (.invokevirtual 258, 3) := by decide +kernel
theorem d_X1_latestVote_55 : decode prog_3_method_19_code 55 = .ok (.ishr, 1) := by decide +kernel
theorem d_X1_latestVote_23 : decode prog_3_method_19_code 23 = .ok (.getfield 9, 3) := by decide +kernel
theorem d_X1_latestVote_11 : decode prog_3_method_19_code 11 = .ok (.iconst 1, 1) := by decide +kernel
theorem d_X1_latestVote_5 : decode prog_3_method_19_code 5 = .ok (.iconst 1, 1) := by decide +kernel
theorem d_X1_latestVote_1 : decode prog_3_method_19_code 1 = .ok (.getfield 15, 3) := by decide +kernel
theorem d_X1_latestVote_0 : decode prog_3_method_19_code 0 = .ok (.aload_n 0, 1) := by decide +kernel
theorem d_X1_latestVote_4 : decode prog_3_method_19_code 4 = .ok (.iload_n 2, 1) := by decide +kernel
theorem d_X1_latestVote_9 : decode prog_3_method_19_code 9 = .ok (.iload_n 1, 1) := by decide +kernel
theorem d_X1_latestVote_6 : decode prog_3_method_19_code 6 = .ok (.invokevirtual 31, 3) := by decide +kernel
theorem d_X1_latestVote_10 : decode prog_3_method_19_code 10 = .ok (.ishr, 1) := by decide +kernel
theorem d_X1_latestVote_17 : decode prog_3_method_19_code 17 = .ok (.goto 4, 3) := by decide +kernel
theorem d_X1_latestVote_13 : decode prog_3_method_19_code 13 = .ok (.ifCond .eq 7, 3) := by decide +kernel
theorem d_X1_latestVote_12 : decode prog_3_method_19_code 12 = .ok (.iand, 1) := by decide +kernel
theorem d_X1_latestVote_16 : decode prog_3_method_19_code 16 = .ok (.iconst 1, 1) := by decide +kernel
theorem d_X1_latestVote_21 : decode prog_3_method_19_code 21 = .ok (.istore_n 3, 1) := by decide +kernel
theorem d_X1_latestVote_20 : decode prog_3_method_19_code 20 = .ok (.iconst 0, 1) := by decide +kernel
theorem d_X1_latestVote_22 : decode prog_3_method_19_code 22 = .ok (.aload_n 0, 1) := by decide +kernel
theorem d_X1_latestVote_41 : decode prog_3_method_19_code 41 = .ok (.iload_n 3, 1) := by decide +kernel
theorem d_X1_latestVote_33 : decode prog_3_method_19_code 33 = .ok (.aload_n 0, 1) := by decide +kernel
theorem d_X1_latestVote_27 : decode prog_3_method_19_code 27 = .ok (.invokevirtual 35, 3) := by decide +kernel
theorem d_X1_latestVote_26 : decode prog_3_method_19_code 26 = .ok (.iload_n 1, 1) := by decide +kernel
theorem d_X1_latestVote_30 : decode prog_3_method_19_code 30 = .ok (.ifCond .eq 15, 3) := by decide +kernel
theorem d_X1_latestVote_35 : decode prog_3_method_19_code 35 = .ok (.invokevirtual 46, 3) := by decide +kernel
theorem d_X1_latestVote_34 : decode prog_3_method_19_code 34 = .ok (.iload_n 2, 1) := by decide +kernel
theorem d_X1_latestVote_38 : decode prog_3_method_19_code 38 = .ok (.ifCond .eq 7, 3) := by decide +kernel
theorem d_X1_latestVote_47 : decode prog_3_method_19_code 47 = .ok (.aload_n 0, 1) := by decide +kernel
theorem d_X1_latestVote_45 : decode prog_3_method_19_code 45 = .ok (.iconst (-1), 1) := by decide +kernel
theorem d_X1_latestVote_42 : decode prog_3_method_19_code 42 = .ok (.ifCond .eq 5, 3) := by decide +kernel
theorem d_X1_latestVote_46 : decode prog_3_method_19_code 46 = .ok (.ireturn, 1) := by decide +kernel
theorem d_X1_latestVote_51 : decode prog_3_method_19_code 51 = .ok (.getfield 49, 3) := by decide +kernel
theorem d_X1_latestVote_48 : decode prog_3_method_19_code 48 = .ok (.getfield 15, 3) := by decide +kernel
theorem d_X1_latestVote_54 : decode prog_3_method_19_code 54 = .ok (.iload_n 1, 1) := by decide +kernel
theorem d_X1_latestVote_79 : decode prog_3_method_19_code 79 = .ok (.iload_n 1, 1) := by decide +kernel
theorem d_X1_latestVote_66 : decode prog_3_method_19_code 66 = .ok (.isub, 1) := by decide +kernel
theorem d_X1_latestVote_60 : decode prog_3_method_19_code 60 = .ok (.aload_n 0, 1) := by decide +kernel
theorem d_X1_latestVote_57 : decode prog_3_method_19_code 57 = .ok (.iand, 1) := by decide +kernel
theorem d_X1_latestVote_56 : decode prog_3_method_19_code 56 = .ok (.iconst 1, 1) := by decide +kernel
theorem d_X1_latestVote_58 : decode prog_3_method_19_code 58 = .ok (.istore 4, 2) := by decide +kernel
theorem d_X1_latestVote_62 : decode prog_3_method_19_code 62 = .ok (.invokevirtual 85, 3) := by decide +kernel
theorem d_X1_latestVote_61 : decode prog_3_method_19_code 61 = .ok (.iload_n 2, 1) := by decide +kernel
theorem d_X1_latestVote_65 : decode prog_3_method_19_code 65 = .ok (.iconst 1, 1) := by decide +kernel
theorem d_X1_latestVote_73 : decode prog_3_method_19_code 73 = .ok (.if_icmp .lt 33, 3) := by decide +kernel
theorem d_X1_latestVote_69 : decode prog_3_method_19_code 69 = .ok (.iload 5, 2) := by decide +kernel
theorem d_X1_latestVote_67 : decode prog_3_method_19_code 67 = .ok (.istore 5, 2) := by decide +kernel
theorem d_X1_latestVote_71 : decode prog_3_method_19_code 71 = .ok (.iload 4, 2) := by decide +kernel
theorem d_X1_latestVote_77 : decode prog_3_method_19_code 77 = .ok (.iload_n 2, 1) := by decide +kernel
theorem d_X1_latestVote_76 : decode prog_3_method_19_code 76 = .ok (.aload_n 0, 1) := by decide +kernel
theorem d_X1_latestVote_78 : decode prog_3_method_19_code 78 = .ok (.iconst 1, 1) := by decide +kernel
theorem d_X1_latestVote_94 : decode prog_3_method_19_code 94 = .ok (.if_icmp .lt 6, 3) := by decide +kernel
theorem d_X1_latestVote_86 : decode prog_3_method_19_code 86 = .ok (.aload_n 0, 1) := by decide +kernel
theorem d_X1_latestVote_81 : decode prog_3_method_19_code 81 = .ok (.iload 5, 2) := by decide +kernel
theorem d_X1_latestVote_80 : decode prog_3_method_19_code 80 = .ok (.ishl, 1) := by decide +kernel
theorem d_X1_latestVote_83 : decode prog_3_method_19_code 83 = .ok (.invokevirtual 97, 3) := by decide +kernel
theorem d_X1_latestVote_90 : decode prog_3_method_19_code 90 = .ok (.iload_n 2, 1) := by decide +kernel
theorem d_X1_latestVote_87 : decode prog_3_method_19_code 87 = .ok (.getfield 9, 3) := by decide +kernel
theorem d_X1_latestVote_91 : decode prog_3_method_19_code 91 = .ok (.invokevirtual 101, 3) := by decide +kernel
theorem d_X1_latestVote_103 : decode prog_3_method_19_code 103 = .ok (.goto (-34), 3) := by decide +kernel
theorem d_X1_latestVote_99 : decode prog_3_method_19_code 99 = .ok (.ireturn, 1) := by decide +kernel
theorem d_X1_latestVote_97 : decode prog_3_method_19_code 97 = .ok (.iload 5, 2) := by decide +kernel
theorem d_X1_latestVote_100 : decode prog_3_method_19_code 100 = .ok (.iinc 5 (-1), 3) := by decide +kernel
theorem d_X1_latestVote_107 : decode prog_3_method_19_code 107 = .ok (.ireturn, 1) := by decide +kernel
theorem d_X1_latestVote_106 : decode prog_3_method_19_code 106 = .ok (.iconst (-1), 1) := by decide +kernel
theorem d_X12_muster_68 : decode prog_14_method_87_code 68 = .ok (.if_icmp .gt 56, 3) := by decide +kernel
theorem d_X12_muster_30 : decode prog_14_method_87_code 30 = .ok (.invokevirtual 347, 3) := by decide +kernel
theorem d_X12_muster_17 : decode prog_14_method_87_code 17 = .ok (.iconst (-1), 1) := by decide +kernel
theorem d_X12_muster_8 : decode prog_14_method_87_code 8 = .ok (.iload_n 2, 1) := by decide +kernel
theorem d_X12_muster_2 : decode prog_14_method_87_code 2 = .ok (.invokevirtual 398, 3) := by decide +kernel
theorem d_X12_muster_1 : decode prog_14_method_87_code 1 = .ok (.iload_n 1, 1) := by decide +kernel
theorem d_X12_muster_0 : decode prog_14_method_87_code 0 = .ok (.aload_n 0, 1) := by decide +kernel
theorem d_X12_muster_5 : decode prog_14_method_87_code 5 = .ok (.ifCond .eq 12, 3) := by decide +kernel
theorem d_X12_muster_11 : decode prog_14_method_87_code 11 = .ok (.invokestatic 350, 3) := by decide +kernel
theorem d_X12_muster_10 : decode prog_14_method_87_code 10 = .ok (.iconst 1, 1) := by decide +kernel
