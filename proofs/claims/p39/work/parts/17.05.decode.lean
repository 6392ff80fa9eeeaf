theorem d_X12_isBill_3 : decode prog_14_method_45_code 3 = .ok (.getfield 24, 3) := by decide +kernel
theorem d_X12_isBill_12 : decode prog_14_method_45_code 12 = .ok (.isub, 1) := by decide +kernel
theorem d_X12_isBill_11 : decode prog_14_method_45_code 11 = .ok (.iconst 1, 1) := by decide +kernel
theorem d_X12_isBill_10 : decode prog_14_method_45_code 10 = .ok (.iaload, 1) := by decide +kernel
theorem d_X12_isBill_16 : decode prog_14_method_45_code 16 = .ok (.ireturn, 1) := by decide +kernel
theorem d_X12_isBill_13 : decode prog_14_method_45_code 13 = .ok (.invokestatic 350, 3) := by decide +kernel
theorem d_X11_brittle_4 : decode prog_1_method_34_code 4 = .ok (.invokevirtual 310, 3) := by decide +kernel
theorem d_X11_brittle_1 : decode prog_1_method_34_code 1 = .ok (.getfield 71, 3) := by decide +kernel
theorem d_X11_brittle_0 : decode prog_1_method_34_code 0 = .ok (.aload_n 0, 1) := by decide +kernel
theorem d_X11_brittle_7 : decode prog_1_method_34_code 7 = .ok (.ireturn, 1) := by decide +kernel
theorem d_X1_brittleBills_26 : decode prog_3_method_27_code 26 = .ok (.invokevirtual 118, 3) := by decide +kernel
theorem d_X1_brittleBills_12 : decode prog_3_method_27_code 12 = .ok (.if_icmp .ge 40, 3) := by decide +kernel
theorem d_X1_brittleBills_4 : decode prog_3_method_27_code 4 = .ok (.iload_n 2, 1) := by decide +kernel
theorem d_X1_brittleBills_2 : decode prog_3_method_27_code 2 = .ok (.iconst 0, 1) := by decide +kernel
theorem d_X1_brittleBills_1 : decode prog_3_method_27_code 1 = .ok (.istore_n 1, 1) := by decide +kernel
theorem d_X1_brittleBills_0 : decode prog_3_method_27_code 0 = .ok (.iconst 0, 1) := by decide +kernel
theorem d_X1_brittleBills_3 : decode prog_3_method_27_code 3 = .ok (.istore_n 2, 1) := by decide +kernel
theorem d_X1_brittleBills_6 : decode prog_3_method_27_code 6 = .ok (.getfield 9, 3) := by decide +kernel
theorem d_X1_brittleBills_5 : decode prog_3_method_27_code 5 = .ok (.aload_n 0, 1) := by decide +kernel
theorem d_X1_brittleBills_9 : decode prog_3_method_27_code 9 = .ok (.getfield 55, 3) := by decide +kernel
theorem d_X1_brittleBills_20 : decode prog_3_method_27_code 20 = .ok (.ifCond .eq 26, 3) := by decide +kernel
theorem d_X1_brittleBills_16 : decode prog_3_method_27_code 16 = .ok (.iload_n 2, 1) := by decide +kernel
theorem d_X1_brittleBills_15 : decode prog_3_method_27_code 15 = .ok (.aload_n 0, 1) := by decide +kernel
theorem d_X1_brittleBills_17 : decode prog_3_method_27_code 17 = .ok (.invokevirtual 104, 3) := by decide +kernel
theorem d_X1_brittleBills_24 : decode prog_3_method_27_code 24 = .ok (.iload_n 2, 1) := by decide +kernel
theorem d_X1_brittleBills_23 : decode prog_3_method_27_code 23 = .ok (.aload_n 0, 1) := by decide +kernel
theorem d_X1_brittleBills_25 : decode prog_3_method_27_code 25 = .ok (.iconst 1, 1) := by decide +kernel
theorem d_X1_brittleBills_42 : decode prog_3_method_27_code 42 = .ok (.iload_n 2, 1) := by decide +kernel
theorem d_X1_brittleBills_34 : decode prog_3_method_27_code 34 = .ok (.invokevirtual 101, 3) := by decide +kernel
theorem d_X1_brittleBills_30 : decode prog_3_method_27_code 30 = .ok (.getfield 9, 3) := by decide +kernel
theorem d_X1_brittleBills_29 : decode prog_3_method_27_code 29 = .ok (.aload_n 0, 1) := by decide +kernel
theorem d_X1_brittleBills_33 : decode prog_3_method_27_code 33 = .ok (.iload_n 2, 1) := by decide +kernel
theorem d_X1_brittleBills_40 : decode prog_3_method_27_code 40 = .ok (.iload_n 1, 1) := by decide +kernel
theorem d_X1_brittleBills_37 : decode prog_3_method_27_code 37 = .ok (.if_icmp .ge 9, 3) := by decide +kernel
theorem d_X1_brittleBills_41 : decode prog_3_method_27_code 41 = .ok (.iconst 1, 1) := by decide +kernel
theorem d_X1_brittleBills_46 : decode prog_3_method_27_code 46 = .ok (.iinc 2 1, 3) := by decide +kernel
theorem d_X1_brittleBills_44 : decode prog_3_method_27_code 44 = .ok (.ior, 1) := by decide +kernel
theorem d_X1_brittleBills_43 : decode prog_3_method_27_code 43 = .ok (.ishl, 1) := by decide +kernel
theorem d_X1_brittleBills_45 : decode prog_3_method_27_code 45 = .ok (.istore_n 1, 1) := by decide +kernel
theorem d_X1_brittleBills_52 : decode prog_3_method_27_code 52 = .ok (.iload_n 1, 1) := by decide +kernel
theorem d_X1_brittleBills_49 : decode prog_3_method_27_code 49 = .ok (.goto (-45), 3) := by decide +kernel
theorem d_X1_brittleBills_53 : decode prog_3_method_27_code 53 = .ok (.ireturn, 1) := by decide +kernel
theorem d_X5_needsOf_9 : decode prog_7_method_9_code 9 = .ok (.getfield 18, 3) := by decide +kernel
theorem d_X5_needsOf_2 : decode prog_7_method_9_code 2 = .ok (.invokevirtual 64, 3) := by decide +kernel
theorem d_X5_needsOf_1 : decode prog_7_method_9_code 1 = .ok (.iload_n 1, 1) := by decide +kernel
theorem d_X5_needsOf_0 : decode prog_7_method_9_code 0 = .ok (.aload_n 0, 1) := by decide +kernel
theorem d_X5_needsOf_8 : decode prog_7_method_9_code 8 = .ok (.aload_n 0, 1) := by decide +kernel
theorem d_X5_needsOf_5 : decode prog_7_method_9_code 5 = .ok (.ifCond .eq 12, 3) := by decide +kernel
theorem d_X5_needsOf_14 : decode prog_7_method_9_code 14 = .ok (.goto 4, 3) := by decide +kernel
theorem d_X5_needsOf_13 : decode prog_7_method_9_code 13 = .ok (.iaload, 1) := by decide +kernel
theorem d_X5_needsOf_12 : decode prog_7_method_9_code 12 = .ok (.iload_n 1, 1) := by decide +kernel
theorem d_X5_needsOf_18 : decode prog_7_method_9_code 18 = .ok (.ireturn, 1) := by decide +kernel
theorem d_X5_needsOf_17 : decode prog_7_method_9_code 17 = .ok (.iconst 0, 1) := by decide +kernel
theorem d_X5_hasBill_12 : decode prog_7_method_5_code 12 = .ok (.iload_n 1, 1) := by decide +kernel
theorem d_X5_hasBill_5 : decode prog_7_method_5_code 5 = .ok (.aload_n 0, 1) := by decide +kernel
theorem d_X5_hasBill_1 : decode prog_7_method_5_code 1 = .ok (.ifCond .lt 20, 3) := by decide +kernel
theorem d_X5_hasBill_0 : decode prog_7_method_5_code 0 = .ok (.iload_n 1, 1) := by decide +kernel
theorem d_X5_hasBill_4 : decode prog_7_method_5_code 4 = .ok (.iload_n 1, 1) := by decide +kernel
theorem d_X5_hasBill_9 : decode prog_7_method_5_code 9 = .ok (.if_icmp .ge 12, 3) := by decide +kernel
theorem d_X5_hasBill_6 : decode prog_7_method_5_code 6 = .ok (.getfield 41, 3) := by decide +kernel
theorem d_X5_hasBill_18 : decode prog_7_method_5_code 18 = .ok (.goto 4, 3) := by decide +kernel
theorem d_X5_hasBill_14 : decode prog_7_method_5_code 14 = .ok (.if_icmp .ge 7, 3) := by decide +kernel
theorem d_X5_hasBill_13 : decode prog_7_method_5_code 13 = .ok (.iconst 5, 1) := by decide +kernel
theorem d_X5_hasBill_17 : decode prog_7_method_5_code 17 = .ok (.iconst 1, 1) := by decide +kernel
theorem d_X5_hasBill_22 : decode prog_7_method_5_code 22 = .ok (.ireturn, 1) := by decide +kernel
theorem d_X5_hasBill_21 : decode prog_7_method_5_code 21 = .ok (.iconst 0, 1) := by decide +kernel
theorem d_X1_volumeByShaking_21 : decode prog_3_method_12_code 21 = .ok (.iadd, 1) := by decide +kernel
theorem d_X1_volumeByShaking_9 : decode prog_3_method_12_code 9 = .ok (.invokevirtual 68, 3) := by decide +kernel
theorem d_X1_volumeByShaking_4 : decode prog_3_method_12_code 4 = .ok (.aload_n 0, 1) := by decide +kernel
theorem d_X1_volumeByShaking_1 : decode prog_3_method_12_code 1 = .ok (.getfield 19, 3) := by decide +kernel
theorem d_X1_volumeByShaking_0 : decode prog_3_method_12_code 0 = .ok (.aload_n 0, 1) := by decide +kernel
theorem d_X1_volumeByShaking_8 : decode prog_3_method_12_code 8 = .ok (.iload_n 1, 1) := by decide +kernel
theorem d_X1_volumeByShaking_5 : decode prog_3_method_12_code 5 = .ok (.getfield 15, 3) := by decide +kernel
theorem d_X1_volumeByShaking_16 : decode prog_3_method_12_code 16 = .ok (.dup, 1) := by decide +kernel
theorem d_X1_volumeByShaking_13 : decode prog_3_method_12_code 13 = .ok (.getfield 19, 3) := by decide +kernel
theorem d_X1_volumeByShaking_12 : decode prog_3_method_12_code 12 = .ok (.aload_n 0, 1) := by decide +kernel
theorem d_X1_volumeByShaking_20 : decode prog_3_method_12_code 20 = .ok (.iload_n 2, 1) := by decide +kernel
theorem d_X1_volumeByShaking_17 : decode prog_3_method_12_code 17 = .ok (.getfield 91, 3) := by decide +kernel
theorem d_X1_volumeByShaking_31 : decode prog_3_method_12_code 31 = .ok (.invokevirtual 85, 3) := by decide +kernel
theorem d_X1_volumeByShaking_26 : decode prog_3_method_12_code 26 = .ok (.getfield 19, 3) := by decide +kernel
theorem d_X1_volumeByShaking_25 : decode prog_3_method_12_code 25 = .ok (.aload_n 0, 1) := by decide +kernel
theorem d_X1_volumeByShaking_22 : decode prog_3_method_12_code 22 = .ok (.putfield 91, 3) := by decide +kernel
theorem d_X1_volumeByShaking_30 : decode prog_3_method_12_code 30 = .ok (.iload_n 1, 1) := by decide +kernel
theorem d_X1_volumeByShaking_29 : decode prog_3_method_12_code 29 = .ok (.aload_n 0, 1) := by decide +kernel
theorem d_X1_volumeByShaking_38 : decode prog_3_method_12_code 38 = .ok (.getfield 19, 3) := by decide +kernel
theorem d_X1_volumeByShaking_37 : decode prog_3_method_12_code 37 = .ok (.aload_n 0, 1) := by decide +kernel
theorem d_X1_volumeByShaking_34 : decode prog_3_method_12_code 34 = .ok (.invokevirtual 78, 3) := by decide +kernel
theorem d_X1_volumeByShaking_44 : decode prog_3_method_12_code 44 = .ok (.ireturn, 1) := by decide +kernel
theorem d_X1_volumeByShaking_41 : decode prog_3_method_12_code 41 = .ok (.getfield 88, 3) := by decide +kernel
theorem d_X1_daysLeft_8 : decode prog_3_method_9_code 8 = .ok (.aload_n 0, 1) := by decide +kernel
theorem d_X1_daysLeft_4 : decode prog_3_method_9_code 4 = .ok (.iload_n 1, 1) := by decide +kernel
theorem d_X1_daysLeft_1 : decode prog_3_method_9_code 1 = .ok (.getfield 9, 3) := by decide +kernel
theorem d_X1_daysLeft_0 : decode prog_3_method_9_code 0 = .ok (.aload_n 0, 1) := by decide +kernel
theorem d_X1_daysLeft_5 : decode prog_3_method_9_code 5 = .ok (.invokevirtual 62, 3) := by decide +kernel
theorem d_X1_daysLeft_15 : decode prog_3_method_9_code 15 = .ok (.isub, 1) := by decide +kernel
theorem d_X1_daysLeft_12 : decode prog_3_method_9_code 12 = .ok (.getfield 65, 3) := by decide +kernel
theorem d_X1_daysLeft_9 : decode prog_3_method_9_code 9 = .ok (.getfield 15, 3) := by decide +kernel
theorem d_X1_daysLeft_16 : decode prog_3_method_9_code 16 = .ok (.ireturn, 1) := by decide +kernel
theorem d_X5_opensOf_9 : decode prog_7_method_10_code 9 = .ok (.getfield 21, 3) := by decide +kernel
theorem d_X5_opensOf_2 : decode prog_7_method_10_code 2 = .ok (.invokevirtual 64, 3) := by decide +kernel
theorem d_X5_opensOf_1 : decode prog_7_method_10_code 1 = .ok (.iload_n 1, 1) := by decide +kernel
theorem d_X5_opensOf_0 : decode prog_7_method_10_code 0 = .ok (.aload_n 0, 1) := by decide +kernel
theorem d_X5_opensOf_8 : decode prog_7_method_10_code 8 = .ok (.aload_n 0, 1) := by decide +kernel
theorem d_X5_opensOf_5 : decode prog_7_method_10_code 5 = .ok (.ifCond .eq 12, 3) := by decide +kernel
theorem d_X5_opensOf_14 : decode prog_7_method_10_code 14 = .ok (.goto 4, 3) := by decide +kernel
theorem d_X5_opensOf_13 : decode prog_7_method_10_code 13 = .ok (.iaload, 1) := by decide +kernel
theorem d_X5_opensOf_12 : decode prog_7_method_10_code 12 = .ok (.iload_n 1, 1) := by decide +kernel
theorem d_X5_opensOf_18 : decode prog_7_method_10_code 18 = .ok (.ireturn, 1) := by decide +kernel
theorem d_X5_opensOf_17 : decode prog_7_method_10_code 17 = .ok (.iconst 0, 1) := by decide +kernel
theorem d_X10_take_27 : decode prog_12_method_2_code 27 = .ok (.putfield 28, 3) := by decide +kernel
theorem d_X10_take_12 : decode prog_12_method_2_code 12 = .ok (.iload_n 2, 1) := by decide +kernel
theorem d_X10_take_4 : decode prog_12_method_2_code 4 = .ok (.invokevirtual 17, 3) := by decide +kernel
theorem d_X10_take_2 : decode prog_12_method_2_code 2 = .ok (.iload_n 2, 1) := by decide +kernel
theorem d_X10_take_1 : decode prog_12_method_2_code 1 = .ok (.aload_n 1, 1) := by decide +kernel
theorem d_X10_take_0 : decode prog_12_method_2_code 0 = .ok (.aload_n 0, 1) := by decide +kernel
theorem d_X10_take_3 : decode prog_12_method_2_code 3 = .ok (.iconst 0, 1) := by decide +kernel
theorem d_X10_take_10 : decode prog_12_method_2_code 10 = .ok (.aload_n 0, 1) := by decide +kernel
theorem d_X10_take_7 : decode prog_12_method_2_code 7 = .ok (.putfield 21, 3) := by decide +kernel
theorem d_X10_take_11 : decode prog_12_method_2_code 11 = .ok (.aload_n 1, 1) := by decide +kernel
theorem d_X10_take_21 : decode prog_12_method_2_code 21 = .ok (.aload_n 1, 1) := by decide +kernel
theorem d_X10_take_17 : decode prog_12_method_2_code 17 = .ok (.putfield 25, 3) := by decide +kernel
theorem d_X10_take_14 : decode prog_12_method_2_code 14 = .ok (.invokevirtual 17, 3) := by decide +kernel
theorem d_X10_take_13 : decode prog_12_method_2_code 13 = .ok (.iconst 1, 1) := by decide +kernel
theorem d_X10_take_20 : decode prog_12_method_2_code 20 = .ok (.aload_n 0, 1) := by decide +kernel
theorem d_X10_take_23 : decode prog_12_method_2_code 23 = .ok (.iconst 2, 1) := by decide +kernel
theorem d_X10_take_22 : decode prog_12_method_2_code 22 = .ok (.iload_n 2, 1) := by decide +kernel
theorem d_X10_take_24 : decode prog_12_method_2_code 24 = .ok (.invokevirtual 17, 3) := by decide +kernel
theorem d_X10_take_42 : decode prog_12_method_2_code 42 = .ok (.iload_n 2, 1) := by decide +kernel
theorem d_X10_take_34 : decode prog_12_method_2_code 34 = .ok (.invokevirtual 17, 3) := by decide +kernel
theorem d_X10_take_32 : decode prog_12_method_2_code 32 = .ok (.iload_n 2, 1) := by decide +kernel
theorem d_X10_take_31 : decode prog_12_method_2_code 31 = .ok (.aload_n 1, 1) := by decide +kernel
theorem d_X10_take_30 : decode prog_12_method_2_code 30 = .ok (.aload_n 0, 1) := by decide +kernel
theorem d_X10_take_33 : decode prog_12_method_2_code 33 = .ok (.iconst 3, 1) := by decide +kernel
theorem d_X10_take_40 : decode prog_12_method_2_code 40 = .ok (.aload_n 0, 1) := by decide +kernel
theorem d_X10_take_37 : decode prog_12_method_2_code 37 = .ok (.putfield 31, 3) := by decide +kernel
theorem d_X10_take_41 : decode prog_12_method_2_code 41 = .ok (.aload_n 1, 1) := by decide +kernel
theorem d_X10_take_51 : decode prog_12_method_2_code 51 = .ok (.aload_n 1, 1) := by decide +kernel
theorem d_X10_take_47 : decode prog_12_method_2_code 47 = .ok (.putfield 34, 3) := by decide +kernel
theorem d_X10_take_44 : decode prog_12_method_2_code 44 = .ok (.invokevirtual 17, 3) := by decide +kernel
theorem d_X10_take_43 : decode prog_12_method_2_code 43 = .ok (.iconst 4, 1) := by decide +kernel
theorem d_X10_take_50 : decode prog_12_method_2_code 50 = .ok (.aload_n 0, 1) := by decide +kernel
theorem d_X10_take_55 : decode prog_12_method_2_code 55 = .ok (.putfield 40, 3) := by decide +kernel
theorem d_X10_take_52 : decode prog_12_method_2_code 52 = .ok (.getfield 37, 3) := by decide +kernel
theorem d_X10_take_58 : decode prog_12_method_2_code 58 = .ok (.return_, 1) := by decide +kernel
theorem d_X1_wouldPass_15 : decode prog_3_method_14_code 15 = .ok (.aload_n 0, 1) := by decide +kernel
theorem d_X1_wouldPass_8 : decode prog_3_method_14_code 8 = .ok (.aload_n 0, 1) := by decide +kernel
theorem d_X1_wouldPass_2 : decode prog_3_method_14_code 2 = .ok (.invokevirtual 46, 3) := by decide +kernel
theorem d_X1_wouldPass_1 : decode prog_3_method_14_code 1 = .ok (.iload_n 1, 1) := by decide +kernel
theorem d_X1_wouldPass_0 : decode prog_3_method_14_code 0 = .ok (.aload_n 0, 1) := by decide +kernel
theorem d_X1_wouldPass_5 : decode prog_3_method_14_code 5 = .ok (.ifCond .eq 25, 3) := by decide +kernel
theorem d_X1_wouldPass_11 : decode prog_3_method_14_code 11 = .ok (.iconst 0, 1) := by decide +kernel
theorem d_X1_wouldPass_10 : decode prog_3_method_14_code 10 = .ok (.iconst 0, 1) := by decide +kernel
theorem d_X1_wouldPass_9 : decode prog_3_method_14_code 9 = .ok (.iload_n 1, 1) := by decide +kernel
theorem d_X1_wouldPass_12 : decode prog_3_method_14_code 12 = .ok (.invokevirtual 97, 3) := by decide +kernel
theorem d_X1_wouldPass_26 : decode prog_3_method_14_code 26 = .ok (.iconst 1, 1) := by decide +kernel
theorem d_X1_wouldPass_20 : decode prog_3_method_14_code 20 = .ok (.invokevirtual 101, 3) := by decide +kernel
theorem d_X1_wouldPass_19 : decode prog_3_method_14_code 19 = .ok (.iload_n 1, 1) := by decide +kernel
theorem d_X1_wouldPass_16 : decode prog_3_method_14_code 16 = .ok (.getfield 9, 3) := by decide +kernel
theorem d_X1_wouldPass_23 : decode prog_3_method_14_code 23 = .ok (.if_icmp .lt 7, 3) := by decide +kernel
theorem d_X1_wouldPass_30 : decode prog_3_method_14_code 30 = .ok (.iconst 0, 1) := by decide +kernel
theorem d_X1_wouldPass_27 : decode prog_3_method_14_code 27 = .ok (.goto 4, 3) := by decide +kernel
theorem d_X1_wouldPass_31 : decode prog_3_method_14_code 31 = .ok (.ireturn, 1) := by decide +kernel
theorem d_X1_volumeByBreathing_25 : decode prog_3_method_11_code 25 = .ok (.invokevirtual 82, 3) := by decide +kernel
theorem d_X1_volumeByBreathing_12 : decode prog_3_method_11_code 12 = .ok (.aload_n 0, 1) := by decide +kernel
theorem d_X1_volumeByBreathing_5 : decode prog_3_method_11_code 5 = .ok (.getfield 15, 3) := by decide +kernel
theorem d_X1_volumeByBreathing_1 : decode prog_3_method_11_code 1 = .ok (.getfield 19, 3) := by decide +kernel
theorem d_X1_volumeByBreathing_0 : decode prog_3_method_11_code 0 = .ok (.aload_n 0, 1) := by decide +kernel
theorem d_X1_volumeByBreathing_4 : decode prog_3_method_11_code 4 = .ok (.aload_n 0, 1) := by decide +kernel
theorem d_X1_volumeByBreathing_9 : decode prog_3_method_11_code 9 = .ok (.invokevirtual 68, 3) := by decide +kernel
theorem d_X1_volumeByBreathing_8 : decode prog_3_method_11_code 8 = .ok (.iload_n 1, 1) := by decide +kernel
theorem d_X1_volumeByBreathing_20 : decode prog_3_method_11_code 20 = .ok (.aload_n 0, 1) := by decide +kernel
theorem d_X1_volumeByBreathing_16 : decode prog_3_method_11_code 16 = .ok (.iload_n 3, 1) := by decide +kernel
theorem d_X1_volumeByBreathing_13 : decode prog_3_method_11_code 13 = .ok (.getfield 19, 3) := by decide +kernel
theorem d_X1_volumeByBreathing_17 : decode prog_3_method_11_code 17 = .ok (.invokevirtual 78, 3) := by decide +kernel
theorem d_X1_volumeByBreathing_24 : decode prog_3_method_11_code 24 = .ok (.iload_n 2, 1) := by decide +kernel
theorem d_X1_volumeByBreathing_21 : decode prog_3_method_11_code 21 = .ok (.getfield 19, 3) := by decide +kernel
theorem d_X1_volumeByBreathing_38 : decode prog_3_method_11_code 38 = .ok (.isub, 1) := by decide +kernel
theorem d_X1_volumeByBreathing_33 : decode prog_3_method_11_code 33 = .ok (.iload_n 1, 1) := by decide +kernel
theorem d_X1_volumeByBreathing_29 : decode prog_3_method_11_code 29 = .ok (.getfield 19, 3) := by decide +kernel
theorem d_X1_volumeByBreathing_28 : decode prog_3_method_11_code 28 = .ok (.aload_n 0, 1) := by decide +kernel
theorem d_X1_volumeByBreathing_32 : decode prog_3_method_11_code 32 = .ok (.aload_n 0, 1) := by decide +kernel
theorem d_X1_volumeByBreathing_37 : decode prog_3_method_11_code 37 = .ok (.iload_n 3, 1) := by decide +kernel
theorem d_X1_volumeByBreathing_34 : decode prog_3_method_11_code 34 = .ok (.invokevirtual 85, 3) := by decide +kernel
theorem d_X1_volumeByBreathing_43 : decode prog_3_method_11_code 43 = .ok (.getfield 19, 3) := by decide +kernel
theorem d_X1_volumeByBreathing_42 : decode prog_3_method_11_code 42 = .ok (.aload_n 0, 1) := by decide +kernel
theorem d_X1_volumeByBreathing_39 : decode prog_3_method_11_code 39 = .ok (.invokevirtual 78, 3) := by decide +kernel
theorem d_X1_volumeByBreathing_49 : decode prog_3_method_11_code 49 = .ok (.ireturn, 1) := by decide +kernel
theorem d_X1_volumeByBreathing_46 : decode prog_3_method_11_code 46 = .ok (.getfield 88, 3) := by decide +kernel
theorem d_X1_isKept_15 : decode prog_3_method_2_code 15 = .ok (.iload_n 1, 1) := by decide +kernel
theorem d_X1_isKept_5 : decode prog_3_method_2_code 5 = .ok (.invokevirtual 23, 3) := by decide +kernel
theorem d_X1_isKept_1 : decode prog_3_method_2_code 1 = .ok (.getfield 9, 3) := by decide +kernel
theorem d_X1_isKept_0 : decode prog_3_method_2_code 0 = .ok (.aload_n 0, 1) := by decide +kernel
theorem d_X1_isKept_4 : decode prog_3_method_2_code 4 = .ok (.iload_n 1, 1) := by decide +kernel
theorem d_X1_isKept_11 : decode prog_3_method_2_code 11 = .ok (.aload_n 0, 1) := by decide +kernel
theorem d_X1_isKept_8 : decode prog_3_method_2_code 8 = .ok (.ifCond .eq 19, 3) := by decide +kernel
theorem d_X1_isKept_12 : decode prog_3_method_2_code 12 = .ok (.getfield 15, 3) := by decide +kernel
theorem d_X1_isKept_23 : decode prog_3_method_2_code 23 = .ok (.iconst 1, 1) := by decide +kernel
theorem d_X1_isKept_17 : decode prog_3_method_2_code 17 = .ok (.invokevirtual 31, 3) := by decide +kernel
theorem d_X1_isKept_16 : decode prog_3_method_2_code 16 = .ok (.iconst 5, 1) := by decide +kernel
theorem d_X1_isKept_20 : decode prog_3_method_2_code 20 = .ok (.ifCond .ne 7, 3) := by decide +kernel
theorem d_X1_isKept_27 : decode prog_3_method_2_code 27 = .ok (.iconst 0, 1) := by decide +kernel
theorem d_X1_isKept_24 : decode prog_3_method_2_code 24 = .ok (.goto 4, 3) := by decide +kernel
theorem d_X1_isKept_28 : decode prog_3_method_2_code 28 = .ok (.ireturn, 1) := by decide +kernel
theorem d_X12_matches_38 : decode prog_14_method_99_code 38 = .ok (.ifCond .eq 36, 3) := by decide +kernel
theorem d_X12_matches_18 : decode prog_14_method_99_code 18 = .ok (.istore_n 3, 1) := by decide +kernel
theorem d_X12_matches_6 : decode prog_14_method_99_code 6 = .ok (.getfield 24, 3) := by decide +kernel
theorem d_X12_matches_3 : decode prog_14_method_99_code 3 = .ok (.istore_n 2, 1) := by decide +kernel
theorem d_X12_matches_1 : decode prog_14_method_99_code 1 = .ok (.istore_n 1, 1) := by decide +kernel
theorem d_X12_matches_0 : decode prog_14_method_99_code 0 = .ok (.iconst 0, 1) := by decide +kernel
theorem d_X12_matches_2 : decode prog_14_method_99_code 2 = .ok (.iconst 0, 1) := by decide +kernel
theorem d_X12_matches_5 : decode prog_14_method_99_code 5 = .ok (.aload_n 0, 1) := by decide +kernel
theorem d_X12_matches_4 : decode prog_14_method_99_code 4 = .ok (.iload_n 2, 1) := by decide +kernel
theorem d_X12_matches_13 : decode prog_14_method_99_code 13 = .ok (.iaload, 1) := by decide +kernel
theorem d_X12_matches_10 : decode prog_14_method_99_code 10 = .ok (.getfield 251, 3) := by decide +kernel
theorem d_X12_matches_9 : decode prog_14_method_99_code 9 = .ok (.aload_n 0, 1) := by decide +kernel
theorem d_X12_matches_17 : decode prog_14_method_99_code 17 = .ok (.iconst 0, 1) := by decide +kernel
theorem d_X12_matches_14 : decode prog_14_method_99_code 14 = .ok (.if_icmp .ge 72, 3) := by decide +kernel
theorem d_X12_matches_28 : decode prog_14_method_99_code 28 = .ok (.iaload, 1) := by decide +kernel
theorem d_X12_matches_21 : decode prog_14_method_99_code 21 = .ok (.getfield 24, 3) := by decide +kernel
theorem d_X12_matches_20 : decode prog_14_method_99_code 20 = .ok (.aload_n 0, 1) := by decide +kernel
theorem d_X12_matches_19 : decode prog_14_method_99_code 19 = .ok (.iload_n 3, 1) := by decide +kernel
theorem d_X12_matches_25 : decode prog_14_method_99_code 25 = .ok (.getfield 251, 3) := by decide +kernel
theorem d_X12_matches_24 : decode prog_14_method_99_code 24 = .ok (.aload_n 0, 1) := by decide +kernel
theorem d_X12_matches_33 : decode prog_14_method_99_code 33 = .ok (.iload_n 2, 1) := by decide +kernel
theorem d_X12_matches_32 : decode prog_14_method_99_code 32 = .ok (.aload_n 0, 1) := by decide +kernel
theorem d_X12_matches_29 : decode prog_14_method_99_code 29 = .ok (.if_icmp .ge 51, 3) := by decide +kernel
theorem d_X12_matches_35 : decode prog_14_method_99_code 35 = .ok (.invokevirtual 437, 3) := by decide +kernel
theorem d_X12_matches_34 : decode prog_14_method_99_code 34 = .ok (.iload_n 3, 1) := by decide +kernel
theorem d_X12_matches_60 : decode prog_14_method_99_code 60 = .ok (.invokevirtual 470, 3) := by decide +kernel
theorem d_X12_matches_50 : decode prog_14_method_99_code 50 = .ok (.iload_n 3, 1) := by decide +kernel
theorem d_X12_matches_43 : decode prog_14_method_99_code 43 = .ok (.invokevirtual 425, 3) := by decide +kernel
theorem d_X12_matches_42 : decode prog_14_method_99_code 42 = .ok (.iload_n 2, 1) := by decide +kernel
theorem d_X12_matches_41 : decode prog_14_method_99_code 41 = .ok (.aload_n 0, 1) := by decide +kernel
theorem d_X12_matches_49 : decode prog_14_method_99_code 49 = .ok (.aload_n 0, 1) := by decide +kernel
theorem d_X12_matches_46 : decode prog_14_method_99_code 46 = .ok (.ifCond .ne 28, 3) := by decide +kernel
theorem d_X12_matches_57 : decode prog_14_method_99_code 57 = .ok (.aload_n 0, 1) := by decide +kernel
theorem d_X12_matches_54 : decode prog_14_method_99_code 54 = .ok (.ifCond .ne 20, 3) := by decide +kernel
theorem d_X12_matches_51 : decode prog_14_method_99_code 51 = .ok (.invokevirtual 425, 3) := by decide +kernel
theorem d_X12_matches_59 : decode prog_14_method_99_code 59 = .ok (.iload_n 3, 1) := by decide +kernel
theorem d_X12_matches_58 : decode prog_14_method_99_code 58 = .ok (.iload_n 2, 1) := by decide +kernel
theorem d_X12_matches_74 : decode prog_14_method_99_code 74 = .ok (.iinc 3 1, 3) := by decide +kernel
theorem d_X12_matches_65 : decode prog_14_method_99_code 65 = .ok (.invokevirtual 404, 3) := by decide +kernel
theorem d_X12_matches_64 : decode prog_14_method_99_code 64 = .ok (.iload_n 2, 1) := by decide +kernel
theorem d_X12_matches_63 : decode prog_14_method_99_code 63 = .ok (.aload_n 0, 1) := by decide +kernel
theorem d_X12_matches_71 : decode prog_14_method_99_code 71 = .ok (.iinc 1 1, 3) := by decide +kernel
theorem d_X12_matches_68 : decode prog_14_method_99_code 68 = .ok (.if_icmp .lt 6, 3) := by decide +kernel
theorem d_X12_matches_83 : decode prog_14_method_99_code 83 = .ok (.goto (-79), 3) := by decide +kernel
theorem d_X12_matches_80 : decode prog_14_method_99_code 80 = .ok (.iinc 2 1, 3) := by decide +kernel
theorem d_X12_matches_77 : decode prog_14_method_99_code 77 = .ok (.goto (-58), 3) := by decide +kernel
theorem d_X12_matches_87 : decode prog_14_method_99_code 87 = .ok (.ireturn, 1) := by decide +kernel
theorem d_X12_matches_86 : decode prog_14_method_99_code 86 = .ok (.iload_n 1, 1) := by decide +kernel
theorem d_X12_joined_11 : decode prog_14_method_97_code 11 = .ok (.iload_n 1, 1) := by decide +kernel
theorem d_X12_joined_5 : decode prog_14_method_97_code 5 = .ok (.iload_n 1, 1) := by decide +kernel
theorem d_X12_joined_1 : decode prog_14_method_97_code 1 = .ok (.invokevirtual 464, 3) := by decide +kernel
theorem d_X12_joined_0 : decode prog_14_method_97_code 0 = .ok (.aload_n 0, 1) := by decide +kernel
theorem d_X12_joined_4 : decode prog_14_method_97_code 4 = .ok (.aload_n 0, 1) := by decide +kernel
theorem d_X12_joined_7 : decode prog_14_method_97_code 7 = .ok (.invokevirtual 440, 3) := by decide +kernel
theorem d_X12_joined_6 : decode prog_14_method_97_code 6 = .ok (.iload_n 2, 1) := by decide +kernel
theorem d_X12_joined_10 : decode prog_14_method_97_code 10 = .ok (.aload_n 0, 1) := by decide +kernel
theorem d_X12_joined_17 : decode prog_14_method_97_code 17 = .ok (.invokevirtual 467, 3) := by decide +kernel
theorem d_X12_joined_15 : decode prog_14_method_97_code 15 = .ok (.istore_n 3, 1) := by decide +kernel
theorem d_X12_joined_12 : decode prog_14_method_97_code 12 = .ok (.invokevirtual 401, 3) := by decide +kernel
theorem d_X12_joined_16 : decode prog_14_method_97_code 16 = .ok (.aload_n 0, 1) := by decide +kernel
theorem d_X12_joined_21 : decode prog_14_method_97_code 21 = .ok (.ireturn, 1) := by decide +kernel
theorem d_X12_joined_20 : decode prog_14_method_97_code 20 = .ok (.iload_n 3, 1) := by decide +kernel
theorem d_X12_bringBack_13 : decode prog_14_method_96_code 13 = .ok (.aload_n 0, 1) := by decide +kernel
theorem d_X12_bringBack_5 : decode prog_14_method_96_code 5 = .ok (.if_icmp .ge 21, 3) := by decide +kernel
theorem d_X12_bringBack_2 : decode prog_14_method_96_code 2 = .ok (.iload_n 1, 1) := by decide +kernel
theorem d_X12_bringBack_1 : decode prog_14_method_96_code 1 = .ok (.istore_n 1, 1) := by decide +kernel
theorem d_X12_bringBack_0 : decode prog_14_method_96_code 0 = .ok (.iconst 0, 1) := by decide +kernel
theorem d_X12_bringBack_3 : decode prog_14_method_96_code 3 = .ok (.bipush 33, 2) := by decide +kernel
theorem d_X12_bringBack_9 : decode prog_14_method_96_code 9 = .ok (.getfield 89, 3) := by decide +kernel
theorem d_X12_bringBack_8 : decode prog_14_method_96_code 8 = .ok (.aload_n 0, 1) := by decide +kernel
theorem d_X12_bringBack_12 : decode prog_14_method_96_code 12 = .ok (.iload_n 1, 1) := by decide +kernel
theorem d_X12_bringBack_19 : decode prog_14_method_96_code 19 = .ok (.iastore, 1) := by decide +kernel
theorem d_X12_bringBack_17 : decode prog_14_method_96_code 17 = .ok (.iload_n 1, 1) := by decide +kernel
theorem d_X12_bringBack_14 : decode prog_14_method_96_code 14 = .ok (.getfield 95, 3) := by decide +kernel
theorem d_X12_bringBack_18 : decode prog_14_method_96_code 18 = .ok (.iaload, 1) := by decide +kernel
theorem d_X12_bringBack_23 : decode prog_14_method_96_code 23 = .ok (.goto (-21), 3) := by decide +kernel
theorem d_X12_bringBack_20 : decode prog_14_method_96_code 20 = .ok (.iinc 1 1, 3) := by decide +kernel
theorem d_X12_bringBack_26 : decode prog_14_method_96_code 26 = .ok (.return_, 1) := by decide +kernel
theorem d_X12_joinBoth_80 : decode prog_14_method_79_code 80 = .ok (.getfield 89, 3) := by decide +kernel
theorem d_X12_joinBoth_39 : decode prog_14_method_79_code 39 = .ok (.iaload, 1) := by decide +kernel
theorem d_X12_joinBoth_19 : decode prog_14_method_79_code 19 = .ok (.getfield 89, 3) := by decide +kernel
theorem d_X12_joinBoth_10 : decode prog_14_method_79_code 10 = .ok (.aload_n 0, 1) := by decide +kernel
theorem d_X12_joinBoth_5 : decode prog_14_method_79_code 5 = .ok (.iload_n 1, 1) := by decide +kernel
theorem d_X12_joinBoth_1 : decode prog_14_method_79_code 1 = .ok (.getfield 89, 3) := by decide +kernel
theorem d_X12_joinBoth_0 : decode prog_14_method_79_code 0 = .ok (.aload_n 0, 1) := by decide +kernel
theorem d_X12_joinBoth_4 : decode prog_14_method_79_code 4 = .ok (.iconst 0, 1) := by decide +kernel
theorem d_X12_joinBoth_7 : decode prog_14_method_79_code 7 = .ok (.sipush 999, 3) := by decide +kernel
theorem d_X12_joinBoth_6 : decode prog_14_method_79_code 6 = .ok (.iadd, 1) := by decide +kernel
theorem d_X12_joinBoth_16 : decode prog_14_method_79_code 16 = .ok (.iadd, 1) := by decide +kernel
theorem d_X12_joinBoth_14 : decode prog_14_method_79_code 14 = .ok (.iconst 0, 1) := by decide +kernel
theorem d_X12_joinBoth_11 : decode prog_14_method_79_code 11 = .ok (.getfield 89, 3) := by decide +kernel
theorem d_X12_joinBoth_15 : decode prog_14_method_79_code 15 = .ok (.iload_n 1, 1) := by decide +kernel
theorem d_X12_joinBoth_18 : decode prog_14_method_79_code 18 = .ok (.aload_n 0, 1) := by decide +kernel
theorem d_X12_joinBoth_17 : decode prog_14_method_79_code 17 = .ok (.iaload, 1) := by decide +kernel
theorem d_X12_joinBoth_30 : decode prog_14_method_79_code 30 = .ok (.iastore, 1) := by decide +kernel
theorem d_X12_joinBoth_25 : decode prog_14_method_79_code 25 = .ok (.iaload, 1) := by decide +kernel
theorem d_X12_joinBoth_23 : decode prog_14_method_79_code 23 = .ok (.iload_n 2, 1) := by decide +kernel
theorem d_X12_joinBoth_22 : decode prog_14_method_79_code 22 = .ok (.iconst 0, 1) := by decide +kernel
theorem d_X12_joinBoth_24 : decode prog_14_method_79_code 24 = .ok (.iadd, 1) := by decide +kernel
theorem d_X12_joinBoth_27 : decode prog_14_method_79_code 27 = .ok (.invokestatic 377, 3) := by decide +kernel
theorem d_X12_joinBoth_26 : decode prog_14_method_79_code 26 = .ok (.iadd, 1) := by decide +kernel
theorem d_X12_joinBoth_36 : decode prog_14_method_79_code 36 = .ok (.iload_n 1, 1) := by decide +kernel
theorem d_X12_joinBoth_32 : decode prog_14_method_79_code 32 = .ok (.getfield 89, 3) := by decide +kernel
theorem d_X12_joinBoth_31 : decode prog_14_method_79_code 31 = .ok (.aload_n 0, 1) := by decide +kernel
theorem d_X12_joinBoth_35 : decode prog_14_method_79_code 35 = .ok (.iconst 5, 1) := by decide +kernel
theorem d_X12_joinBoth_38 : decode prog_14_method_79_code 38 = .ok (.dup2, 1) := by decide +kernel
theorem d_X12_joinBoth_37 : decode prog_14_method_79_code 37 = .ok (.iadd, 1) := by decide +kernel
theorem d_X12_joinBoth_58 : decode prog_14_method_79_code 58 = .ok (.iaload, 1) := by decide +kernel
theorem d_X12_joinBoth_48 : decode prog_14_method_79_code 48 = .ok (.ior, 1) := by decide +kernel
theorem d_X12_joinBoth_45 : decode prog_14_method_79_code 45 = .ok (.iload_n 2, 1) := by decide +kernel
theorem d_X12_joinBoth_41 : decode prog_14_method_79_code 41 = .ok (.getfield 89, 3) := by decide +kernel
theorem d_X12_joinBoth_40 : decode prog_14_method_79_code 40 = .ok (.aload_n 0, 1) := by decide +kernel
theorem d_X12_joinBoth_44 : decode prog_14_method_79_code 44 = .ok (.iconst 5, 1) := by decide +kernel
theorem d_X12_joinBoth_47 : decode prog_14_method_79_code 47 = .ok (.iaload, 1) := by decide +kernel
theorem d_X12_joinBoth_46 : decode prog_14_method_79_code 46 = .ok (.iadd, 1) := by decide +kernel
theorem d_X12_joinBoth_54 : decode prog_14_method_79_code 54 = .ok (.bipush 10, 2) := by decide +kernel
theorem d_X12_joinBoth_50 : decode prog_14_method_79_code 50 = .ok (.aload_n 0, 1) := by decide +kernel
theorem d_X12_joinBoth_49 : decode prog_14_method_79_code 49 = .ok (.iastore, 1) := by decide +kernel
theorem d_X12_joinBoth_51 : decode prog_14_method_79_code 51 = .ok (.getfield 89, 3) := by decide +kernel
theorem d_X12_joinBoth_57 : decode prog_14_method_79_code 57 = .ok (.iadd, 1) := by decide +kernel
theorem d_X12_joinBoth_56 : decode prog_14_method_79_code 56 = .ok (.iload_n 2, 1) := by decide +kernel
theorem d_X12_joinBoth_68 : decode prog_14_method_79_code 68 = .ok (.if_icmp .le 21, 3) := by decide +kernel
theorem d_X12_joinBoth_65 : decode prog_14_method_79_code 65 = .ok (.iload_n 1, 1) := by decide +kernel
theorem d_X12_joinBoth_60 : decode prog_14_method_79_code 60 = .ok (.getfield 89, 3) := by decide +kernel
theorem d_X12_joinBoth_59 : decode prog_14_method_79_code 59 = .ok (.aload_n 0, 1) := by decide +kernel
theorem d_X12_joinBoth_63 : decode prog_14_method_79_code 63 = .ok (.bipush 10, 2) := by decide +kernel
theorem d_X12_joinBoth_67 : decode prog_14_method_79_code 67 = .ok (.iaload, 1) := by decide +kernel
theorem d_X12_joinBoth_66 : decode prog_14_method_79_code 66 = .ok (.iadd, 1) := by decide +kernel
theorem d_X12_joinBoth_77 : decode prog_14_method_79_code 77 = .ok (.iload_n 1, 1) := by decide +kernel
theorem d_X12_joinBoth_72 : decode prog_14_method_79_code 72 = .ok (.getfield 89, 3) := by decide +kernel
theorem d_X12_joinBoth_71 : decode prog_14_method_79_code 71 = .ok (.aload_n 0, 1) := by decide +kernel
theorem d_X12_joinBoth_75 : decode prog_14_method_79_code 75 = .ok (.bipush 10, 2) := by decide +kernel
theorem d_X12_joinBoth_79 : decode prog_14_method_79_code 79 = .ok (.aload_n 0, 1) := by decide +kernel
theorem d_X12_joinBoth_78 : decode prog_14_method_79_code 78 = .ok (.iadd, 1) := by decide +kernel
theorem d_X12_joinBoth_123 : decode prog_14_method_79_code 123 = .ok (.getfield 89, 3) := by decide +kernel
theorem d_X12_joinBoth_103 : decode prog_14_method_79_code 103 = .ok (.bipush 20, 2) := by decide +kernel
theorem d_X12_joinBoth_90 : decode prog_14_method_79_code 90 = .ok (.getfield 89, 3) := by decide +kernel
theorem d_X12_joinBoth_87 : decode prog_14_method_79_code 87 = .ok (.iaload, 1) := by decide +kernel
theorem d_X12_joinBoth_85 : decode prog_14_method_79_code 85 = .ok (.iload_n 2, 1) := by decide +kernel
theorem d_X12_joinBoth_83 : decode prog_14_method_79_code 83 = .ok (.bipush 10, 2) := by decide +kernel
theorem d_X12_joinBoth_86 : decode prog_14_method_79_code 86 = .ok (.iadd, 1) := by decide +kernel
theorem d_X12_joinBoth_89 : decode prog_14_method_79_code 89 = .ok (.aload_n 0, 1) := by decide +kernel
theorem d_X12_joinBoth_88 : decode prog_14_method_79_code 88 = .ok (.iastore, 1) := by decide +kernel
theorem d_X12_joinBoth_97 : decode prog_14_method_79_code 97 = .ok (.bipush 99, 2) := by decide +kernel
theorem d_X12_joinBoth_95 : decode prog_14_method_79_code 95 = .ok (.iload_n 1, 1) := by decide +kernel
theorem d_X12_joinBoth_93 : decode prog_14_method_79_code 93 = .ok (.bipush 20, 2) := by decide +kernel
theorem d_X12_joinBoth_96 : decode prog_14_method_79_code 96 = .ok (.iadd, 1) := by decide +kernel
theorem d_X12_joinBoth_100 : decode prog_14_method_79_code 100 = .ok (.getfield 89, 3) := by decide +kernel
theorem d_X12_joinBoth_99 : decode prog_14_method_79_code 99 = .ok (.aload_n 0, 1) := by decide +kernel
theorem d_X12_joinBoth_114 : decode prog_14_method_79_code 114 = .ok (.iload_n 2, 1) := by decide +kernel
theorem d_X12_joinBoth_108 : decode prog_14_method_79_code 108 = .ok (.aload_n 0, 1) := by decide +kernel
theorem d_X12_joinBoth_106 : decode prog_14_method_79_code 106 = .ok (.iadd, 1) := by decide +kernel
theorem d_X12_joinBoth_105 : decode prog_14_method_79_code 105 = .ok (.iload_n 1, 1) := by decide +kernel
theorem d_X12_joinBoth_107 : decode prog_14_method_79_code 107 = .ok (.iaload, 1) := by decide +kernel
theorem d_X12_joinBoth_112 : decode prog_14_method_79_code 112 = .ok (.bipush 20, 2) := by decide +kernel
theorem d_X12_joinBoth_109 : decode prog_14_method_79_code 109 = .ok (.getfield 89, 3) := by decide +kernel
theorem d_X12_joinBoth_118 : decode prog_14_method_79_code 118 = .ok (.invokestatic 377, 3) := by decide +kernel
theorem d_X12_joinBoth_116 : decode prog_14_method_79_code 116 = .ok (.iaload, 1) := by decide +kernel
theorem d_X12_joinBoth_115 : decode prog_14_method_79_code 115 = .ok (.iadd, 1) := by decide +kernel
theorem d_X12_joinBoth_117 : decode prog_14_method_79_code 117 = .ok (.iadd, 1) := by decide +kernel
theorem d_X12_joinBoth_122 : decode prog_14_method_79_code 122 = .ok (.aload_n 0, 1) := by decide +kernel
theorem d_X12_joinBoth_121 : decode prog_14_method_79_code 121 = .ok (.iastore, 1) := by decide +kernel
theorem d_X12_joinBoth_141 : decode prog_14_method_79_code 141 = .ok (.getfield 89, 3) := by decide +kernel
theorem d_X12_joinBoth_132 : decode prog_14_method_79_code 132 = .ok (.getfield 89, 3) := by decide +kernel
theorem d_X12_joinBoth_129 : decode prog_14_method_79_code 129 = .ok (.iconst 0, 1) := by decide +kernel
theorem d_X12_joinBoth_127 : decode prog_14_method_79_code 127 = .ok (.iload_n 2, 1) := by decide +kernel
theorem d_X12_joinBoth_126 : decode prog_14_method_79_code 126 = .ok (.iconst 0, 1) := by decide +kernel
theorem d_X12_joinBoth_128 : decode prog_14_method_79_code 128 = .ok (.iadd, 1) := by decide +kernel
theorem d_X12_joinBoth_131 : decode prog_14_method_79_code 131 = .ok (.aload_n 0, 1) := by decide +kernel
theorem d_X12_joinBoth_130 : decode prog_14_method_79_code 130 = .ok (.iastore, 1) := by decide +kernel
theorem d_X12_joinBoth_138 : decode prog_14_method_79_code 138 = .ok (.iconst 0, 1) := by decide +kernel
theorem d_X12_joinBoth_136 : decode prog_14_method_79_code 136 = .ok (.iload_n 2, 1) := by decide +kernel
theorem d_X12_joinBoth_135 : decode prog_14_method_79_code 135 = .ok (.iconst 5, 1) := by decide +kernel
theorem d_X12_joinBoth_137 : decode prog_14_method_79_code 137 = .ok (.iadd, 1) := by decide +kernel
theorem d_X12_joinBoth_140 : decode prog_14_method_79_code 140 = .ok (.aload_n 0, 1) := by decide +kernel
theorem d_X12_joinBoth_139 : decode prog_14_method_79_code 139 = .ok (.iastore, 1) := by decide +kernel
theorem d_X12_joinBoth_151 : decode prog_14_method_79_code 151 = .ok (.getfield 89, 3) := by decide +kernel
theorem d_X12_joinBoth_148 : decode prog_14_method_79_code 148 = .ok (.iconst 0, 1) := by decide +kernel
theorem d_X12_joinBoth_146 : decode prog_14_method_79_code 146 = .ok (.iload_n 2, 1) := by decide +kernel
theorem d_X12_joinBoth_144 : decode prog_14_method_79_code 144 = .ok (.bipush 10, 2) := by decide +kernel
theorem d_X12_joinBoth_147 : decode prog_14_method_79_code 147 = .ok (.iadd, 1) := by decide +kernel
theorem d_X12_joinBoth_150 : decode prog_14_method_79_code 150 = .ok (.aload_n 0, 1) := by decide +kernel
theorem d_X12_joinBoth_149 : decode prog_14_method_79_code 149 = .ok (.iastore, 1) := by decide +kernel
theorem d_X12_joinBoth_158 : decode prog_14_method_79_code 158 = .ok (.iconst 0, 1) := by decide +kernel
theorem d_X12_joinBoth_156 : decode prog_14_method_79_code 156 = .ok (.iload_n 2, 1) := by decide +kernel
theorem d_X12_joinBoth_154 : decode prog_14_method_79_code 154 = .ok (.bipush 20, 2) := by decide +kernel
theorem d_X12_joinBoth_157 : decode prog_14_method_79_code 157 = .ok (.iadd, 1) := by decide +kernel
theorem d_X12_joinBoth_160 : decode prog_14_method_79_code 160 = .ok (.return_, 1) := by decide +kernel
theorem d_X12_joinBoth_159 : decode prog_14_method_79_code 159 = .ok (.iastore, 1) := by decide +kernel
theorem d_X12_keepNow_13 : decode prog_14_method_95_code 13 = .ok (.aload_n 0, 1) := by decide +kernel
theorem d_X12_keepNow_5 : decode prog_14_method_95_code 5 = .ok (.if_icmp .ge 21, 3) := by decide +kernel
theorem d_X12_keepNow_2 : decode prog_14_method_95_code 2 = .ok (.iload_n 1, 1) := by decide +kernel
theorem d_X12_keepNow_1 : decode prog_14_method_95_code 1 = .ok (.istore_n 1, 1) := by decide +kernel
theorem d_X12_keepNow_0 : decode prog_14_method_95_code 0 = .ok (.iconst 0, 1) := by decide +kernel
theorem d_X12_keepNow_3 : decode prog_14_method_95_code 3 = .ok (.bipush 33, 2) := by decide +kernel
theorem d_X12_keepNow_9 : decode prog_14_method_95_code 9 = .ok (.getfield 95, 3) := by decide +kernel
theorem d_X12_keepNow_8 : decode prog_14_method_95_code 8 = .ok (.aload_n 0, 1) := by decide +kernel
theorem d_X12_keepNow_12 : decode prog_14_method_95_code 12 = .ok (.iload_n 1, 1) := by decide +kernel
theorem d_X12_keepNow_19 : decode prog_14_method_95_code 19 = .ok (.iastore, 1) := by decide +kernel
theorem d_X12_keepNow_17 : decode prog_14_method_95_code 17 = .ok (.iload_n 1, 1) := by decide +kernel
theorem d_X12_keepNow_14 : decode prog_14_method_95_code 14 = .ok (.getfield 89, 3) := by decide +kernel
theorem d_X12_keepNow_18 : decode prog_14_method_95_code 18 = .ok (.iaload, 1) := by decide +kernel
theorem d_X12_keepNow_23 : decode prog_14_method_95_code 23 = .ok (.goto (-21), 3) := by decide +kernel
theorem d_X12_keepNow_20 : decode prog_14_method_95_code 20 = .ok (.iinc 1 1, 3) := by decide +kernel
theorem d_X12_keepNow_26 : decode prog_14_method_95_code 26 = .ok (.return_, 1) := by decide +kernel
theorem d_X12_canJoin_17 : decode prog_14_method_78_code 17 = .ok (.iload_n 2, 1) := by decide +kernel
theorem d_X12_canJoin_8 : decode prog_14_method_78_code 8 = .ok (.aload_n 0, 1) := by decide +kernel
theorem d_X12_canJoin_2 : decode prog_14_method_78_code 2 = .ok (.invokevirtual 398, 3) := by decide +kernel
theorem d_X12_canJoin_1 : decode prog_14_method_78_code 1 = .ok (.iload_n 1, 1) := by decide +kernel
theorem d_X12_canJoin_0 : decode prog_14_method_78_code 0 = .ok (.aload_n 0, 1) := by decide +kernel
theorem d_X12_canJoin_5 : decode prog_14_method_78_code 5 = .ok (.ifCond .eq 28, 3) := by decide +kernel
theorem d_X12_canJoin_13 : decode prog_14_method_78_code 13 = .ok (.ifCond .eq 20, 3) := by decide +kernel
theorem d_X12_canJoin_10 : decode prog_14_method_78_code 10 = .ok (.invokevirtual 398, 3) := by decide +kernel
theorem d_X12_canJoin_9 : decode prog_14_method_78_code 9 = .ok (.iload_n 2, 1) := by decide +kernel
theorem d_X12_canJoin_16 : decode prog_14_method_78_code 16 = .ok (.iload_n 1, 1) := by decide +kernel
theorem d_X12_canJoin_26 : decode prog_14_method_78_code 26 = .ok (.ifCond .ne 7, 3) := by decide +kernel
theorem d_X12_canJoin_22 : decode prog_14_method_78_code 22 = .ok (.iload_n 2, 1) := by decide +kernel
theorem d_X12_canJoin_21 : decode prog_14_method_78_code 21 = .ok (.aload_n 0, 1) := by decide +kernel
theorem d_X12_canJoin_18 : decode prog_14_method_78_code 18 = .ok (.if_icmp .eq 15, 3) := by decide +kernel
theorem d_X12_canJoin_23 : decode prog_14_method_78_code 23 = .ok (.invokevirtual 431, 3) := by decide +kernel
theorem d_X12_canJoin_33 : decode prog_14_method_78_code 33 = .ok (.iconst 0, 1) := by decide +kernel
theorem d_X12_canJoin_30 : decode prog_14_method_78_code 30 = .ok (.goto 4, 3) := by decide +kernel
theorem d_X12_canJoin_29 : decode prog_14_method_78_code 29 = .ok (.iconst 1, 1) := by decide +kernel
theorem d_X12_canJoin_34 : decode prog_14_method_78_code 34 = .ok (.ireturn, 1) := by decide +kernel
theorem d_X12_isEmpty_7 : decode prog_14_method_47_code 7 = .ok (.iaload, 1) := by decide +kernel
theorem d_X12_isEmpty_4 : decode prog_14_method_47_code 4 = .ok (.iconst 5, 1) := by decide +kernel
theorem d_X12_isEmpty_1 : decode prog_14_method_47_code 1 = .ok (.getfield 89, 3) := by decide +kernel
theorem d_X12_isEmpty_0 : decode prog_14_method_47_code 0 = .ok (.aload_n 0, 1) := by decide +kernel
theorem d_X12_isEmpty_6 : decode prog_14_method_47_code 6 = .ok (.iadd, 1) := by decide +kernel
theorem d_X12_isEmpty_5 : decode prog_14_method_47_code 5 = .ok (.iload_n 1, 1) := by decide +kernel
theorem d_X12_isEmpty_12 : decode prog_14_method_47_code 12 = .ok (.goto 4, 3) := by decide +kernel
theorem d_X12_isEmpty_11 : decode prog_14_method_47_code 11 = .ok (.iconst 1, 1) := by decide +kernel
theorem d_X12_isEmpty_8 : decode prog_14_method_47_code 8 = .ok (.ifCond .ne 7, 3) := by decide +kernel
theorem d_X12_isEmpty_16 : decode prog_14_method_47_code 16 = .ok (.ireturn, 1) := by decide +kernel
theorem d_X12_isEmpty_15 : decode prog_14_method_47_code 15 = .ok (.iconst 0, 1) := by decide +kernel
theorem d_X11_matches_4 : decode prog_1_method_33_code 4 = .ok (.invokevirtual 307, 3) := by decide +kernel
theorem d_X11_matches_1 : decode prog_1_method_33_code 1 = .ok (.getfield 71, 3) := by decide +kernel
theorem d_X11_matches_0 : decode prog_1_method_33_code 0 = .ok (.aload_n 0, 1) := by decide +kernel
theorem d_X11_matches_7 : decode prog_1_method_33_code 7 = .ok (.ireturn, 1) := by decide +kernel
theorem d_X1_countMatches_38 : decode prog_3_method_26_code 38 = .ok (.iload_n 2, 1) := by decide +kernel
theorem d_X1_countMatches_17 : decode prog_3_method_26_code 17 = .ok (.iload_n 3, 1) := by decide +kernel
theorem d_X1_countMatches_5 : decode prog_3_method_26_code 5 = .ok (.aload_n 0, 1) := by decide +kernel
theorem d_X1_countMatches_2 : decode prog_3_method_26_code 2 = .ok (.iconst 0, 1) := by decide +kernel
theorem d_X1_countMatches_1 : decode prog_3_method_26_code 1 = .ok (.istore_n 1, 1) := by decide +kernel
theorem d_X1_countMatches_0 : decode prog_3_method_26_code 0 = .ok (.iconst 0, 1) := by decide +kernel
theorem d_X1_countMatches_4 : decode prog_3_method_26_code 4 = .ok (.iload_n 2, 1) := by decide +kernel
theorem d_X1_countMatches_3 : decode prog_3_method_26_code 3 = .ok (.istore_n 2, 1) := by decide +kernel
