theorem dX13_keeps_48 : decode cX13_keeps 48 = .ok (.iconst 1, 1) := by decide +kernel
theorem dX13_keeps_49 : decode cX13_keeps 49 = .ok (.isub, 1) := by decide +kernel
theorem dX13_keeps_50 : decode cX13_keeps 50 = .ok (.putfield 289, 3) := by decide +kernel
theorem dX13_keeps_53 : decode cX13_keeps 53 = .ok (.aload_n 0, 1) := by decide +kernel
theorem dX13_keeps_54 : decode cX13_keeps 54 = .ok (.iconst 0, 1) := by decide +kernel
theorem dX13_keeps_55 : decode cX13_keeps 55 = .ok (.bipush 60, 2) := by decide +kernel
theorem dX13_keeps_57 : decode cX13_keeps 57 = .ok (.iconst 5, 1) := by decide +kernel
theorem dX13_keeps_58 : decode cX13_keeps 58 = .ok (.aload_n 0, 1) := by decide +kernel
theorem dX13_keeps_59 : decode cX13_keeps 59 = .ok (.getfield 289, 3) := by decide +kernel
theorem dX13_keeps_62 : decode cX13_keeps 62 = .ok (.iadd, 1) := by decide +kernel
theorem dX13_keeps_63 : decode cX13_keeps 63 = .ok (.imul, 1) := by decide +kernel
theorem dX13_keeps_64 : decode cX13_keeps 64 = .ok (.bipush 19, 2) := by decide +kernel
theorem dX13_keeps_66 : decode cX13_keeps 66 = .ok (.invokevirtual 292, 3) := by decide +kernel
theorem dX13_keeps_69 : decode cX13_keeps 69 = .ok (.aload_n 0, 1) := by decide +kernel
theorem dX13_keeps_70 : decode cX13_keeps 70 = .ok (.dup, 1) := by decide +kernel
theorem dX13_keeps_71 : decode cX13_keeps 71 = .ok (.getfield 289, 3) := by decide +kernel
theorem dX13_keeps_74 : decode cX13_keeps 74 = .ok (.iconst 1, 1) := by decide +kernel
theorem dX13_keeps_75 : decode cX13_keeps 75 = .ok (.iadd, 1) := by decide +kernel
theorem dX13_keeps_76 : decode cX13_keeps 76 = .ok (.putfield 289, 3) := by decide +kernel
theorem dX13_keeps_79 : decode cX13_keeps 79 = .ok (.return_, 1) := by decide +kernel
theorem dX13_rivers_0 : decode cX13_rivers 0 = .ok (.aload_n 0, 1) := by decide +kernel
theorem dX13_rivers_1 : decode cX13_rivers 1 = .ok (.getfield 99, 3) := by decide +kernel
theorem dX13_rivers_4 : decode cX13_rivers 4 = .ok (.iconst 0, 1) := by decide +kernel
theorem dX13_rivers_5 : decode cX13_rivers 5 = .ok (.iaload, 1) := by decide +kernel
theorem dX13_rivers_6 : decode cX13_rivers 6 = .ok (.ireturn, 1) := by decide +kernel
theorem dX13_isRiver_0 : decode cX13_isRiver 0 = .ok (.iload_n 1, 1) := by decide +kernel
theorem dX13_isRiver_1 : decode cX13_isRiver 1 = .ok (.ifCond .lt 15, 3) := by decide +kernel
theorem dX13_isRiver_4 : decode cX13_isRiver 4 = .ok (.iload_n 1, 1) := by decide +kernel
theorem dX13_isRiver_5 : decode cX13_isRiver 5 = .ok (.aload_n 0, 1) := by decide +kernel
theorem dX13_isRiver_6 : decode cX13_isRiver 6 = .ok (.invokevirtual 296, 3) := by decide +kernel
theorem dX13_isRiver_9 : decode cX13_isRiver 9 = .ok (.if_icmp .ge 7, 3) := by decide +kernel
theorem dX13_isRiver_12 : decode cX13_isRiver 12 = .ok (.iconst 1, 1) := by decide +kernel
theorem dX13_isRiver_13 : decode cX13_isRiver 13 = .ok (.goto 4, 3) := by decide +kernel
theorem dX13_isRiver_16 : decode cX13_isRiver 16 = .ok (.iconst 0, 1) := by decide +kernel
theorem dX13_isRiver_17 : decode cX13_isRiver 17 = .ok (.ireturn, 1) := by decide +kernel
theorem dX13_riverOf_0 : decode cX13_riverOf 0 = .ok (.aload_n 0, 1) := by decide +kernel
theorem dX13_riverOf_1 : decode cX13_riverOf 1 = .ok (.getfield 99, 3) := by decide +kernel
theorem dX13_riverOf_4 : decode cX13_riverOf 4 = .ok (.bipush 7, 2) := by decide +kernel
theorem dX13_riverOf_6 : decode cX13_riverOf 6 = .ok (.bipush 14, 2) := by decide +kernel
theorem dX13_riverOf_8 : decode cX13_riverOf 8 = .ok (.iload_n 1, 1) := by decide +kernel
theorem dX13_riverOf_9 : decode cX13_riverOf 9 = .ok (.imul, 1) := by decide +kernel
theorem dX13_riverOf_10 : decode cX13_riverOf 10 = .ok (.iadd, 1) := by decide +kernel
theorem dX13_riverOf_11 : decode cX13_riverOf 11 = .ok (.iload_n 2, 1) := by decide +kernel
theorem dX13_riverOf_12 : decode cX13_riverOf 12 = .ok (.iadd, 1) := by decide +kernel
theorem dX13_riverOf_13 : decode cX13_riverOf 13 = .ok (.iaload, 1) := by decide +kernel
theorem dX13_riverOf_14 : decode cX13_riverOf 14 = .ok (.ireturn, 1) := by decide +kernel
theorem dX13_kindOf_0 : decode cX13_kindOf 0 = .ok (.aload_n 0, 1) := by decide +kernel
theorem dX13_kindOf_1 : decode cX13_kindOf 1 = .ok (.iload_n 1, 1) := by decide +kernel
theorem dX13_kindOf_2 : decode cX13_kindOf 2 = .ok (.iconst 0, 1) := by decide +kernel
theorem dX13_kindOf_3 : decode cX13_kindOf 3 = .ok (.invokevirtual 300, 3) := by decide +kernel
theorem dX13_kindOf_6 : decode cX13_kindOf 6 = .ok (.ireturn, 1) := by decide +kernel
theorem dX13_springOf_0 : decode cX13_springOf 0 = .ok (.aload_n 0, 1) := by decide +kernel
theorem dX13_springOf_1 : decode cX13_springOf 1 = .ok (.iload_n 1, 1) := by decide +kernel
theorem dX13_springOf_2 : decode cX13_springOf 2 = .ok (.iconst 1, 1) := by decide +kernel
theorem dX13_springOf_3 : decode cX13_springOf 3 = .ok (.invokevirtual 300, 3) := by decide +kernel
theorem dX13_springOf_6 : decode cX13_springOf 6 = .ok (.ireturn, 1) := by decide +kernel
theorem dX13_mouthOf_0 : decode cX13_mouthOf 0 = .ok (.aload_n 0, 1) := by decide +kernel
theorem dX13_mouthOf_1 : decode cX13_mouthOf 1 = .ok (.iload_n 1, 1) := by decide +kernel
theorem dX13_mouthOf_2 : decode cX13_mouthOf 2 = .ok (.iconst 2, 1) := by decide +kernel
theorem dX13_mouthOf_3 : decode cX13_mouthOf 3 = .ok (.invokevirtual 300, 3) := by decide +kernel
theorem dX13_mouthOf_6 : decode cX13_mouthOf 6 = .ok (.ireturn, 1) := by decide +kernel
theorem dX13_husbandOf_0 : decode cX13_husbandOf 0 = .ok (.aload_n 0, 1) := by decide +kernel
theorem dX13_husbandOf_1 : decode cX13_husbandOf 1 = .ok (.getfield 126, 3) := by decide +kernel
theorem dX13_husbandOf_4 : decode cX13_husbandOf 4 = .ok (.iload_n 1, 1) := by decide +kernel
theorem dX13_husbandOf_5 : decode cX13_husbandOf 5 = .ok (.iconst 1, 1) := by decide +kernel
theorem dX13_husbandOf_6 : decode cX13_husbandOf 6 = .ok (.iadd, 1) := by decide +kernel
theorem dX13_husbandOf_7 : decode cX13_husbandOf 7 = .ok (.iload_n 2, 1) := by decide +kernel
theorem dX13_husbandOf_8 : decode cX13_husbandOf 8 = .ok (.iadd, 1) := by decide +kernel
theorem dX13_husbandOf_9 : decode cX13_husbandOf 9 = .ok (.iaload, 1) := by decide +kernel
theorem dX13_husbandOf_10 : decode cX13_husbandOf 10 = .ok (.ireturn, 1) := by decide +kernel
theorem dX13_winter_0 : decode cX13_winter 0 = .ok (.aload_n 0, 1) := by decide +kernel
theorem dX13_winter_1 : decode cX13_winter 1 = .ok (.getfield 126, 3) := by decide +kernel
theorem dX13_winter_4 : decode cX13_winter 4 = .ok (.iload_n 1, 1) := by decide +kernel
theorem dX13_winter_5 : decode cX13_winter 5 = .ok (.iconst 0, 1) := by decide +kernel
theorem dX13_winter_6 : decode cX13_winter 6 = .ok (.iadd, 1) := by decide +kernel
theorem dX13_winter_7 : decode cX13_winter 7 = .ok (.iaload, 1) := by decide +kernel
theorem dX13_winter_8 : decode cX13_winter 8 = .ok (.iconst 4, 1) := by decide +kernel
theorem dX13_winter_9 : decode cX13_winter 9 = .ok (.irem, 1) := by decide +kernel
theorem dX13_winter_10 : decode cX13_winter 10 = .ok (.ireturn, 1) := by decide +kernel
theorem dX13_wivesOf_0 : decode cX13_wivesOf 0 = .ok (.iconst 0, 1) := by decide +kernel
theorem dX13_wivesOf_1 : decode cX13_wivesOf 1 = .ok (.istore_n 3, 1) := by decide +kernel
theorem dX13_wivesOf_2 : decode cX13_wivesOf 2 = .ok (.iconst 0, 1) := by decide +kernel
theorem dX13_wivesOf_3 : decode cX13_wivesOf 3 = .ok (.istore 4, 2) := by decide +kernel
theorem dX13_wivesOf_5 : decode cX13_wivesOf 5 = .ok (.iload 4, 2) := by decide +kernel
theorem dX13_wivesOf_7 : decode cX13_wivesOf 7 = .ok (.aload_n 0, 1) := by decide +kernel
theorem dX13_wivesOf_8 : decode cX13_wivesOf 8 = .ok (.invokevirtual 296, 3) := by decide +kernel
theorem dX13_wivesOf_11 : decode cX13_wivesOf 11 = .ok (.if_icmp .ge 31, 3) := by decide +kernel
theorem dX13_wivesOf_14 : decode cX13_wivesOf 14 = .ok (.iload_n 3, 1) := by decide +kernel
theorem dX13_wivesOf_15 : decode cX13_wivesOf 15 = .ok (.aload_n 0, 1) := by decide +kernel
theorem dX13_wivesOf_16 : decode cX13_wivesOf 16 = .ok (.iload_n 1, 1) := by decide +kernel
theorem dX13_wivesOf_17 : decode cX13_wivesOf 17 = .ok (.iload 4, 2) := by decide +kernel
theorem dX13_wivesOf_19 : decode cX13_wivesOf 19 = .ok (.invokevirtual 303, 3) := by decide +kernel
theorem dX13_wivesOf_22 : decode cX13_wivesOf 22 = .ok (.iload_n 2, 1) := by decide +kernel
theorem dX13_wivesOf_23 : decode cX13_wivesOf 23 = .ok (.if_icmp .ne 10, 3) := by decide +kernel
theorem dX13_wivesOf_26 : decode cX13_wivesOf 26 = .ok (.iconst 1, 1) := by decide +kernel
theorem dX13_wivesOf_27 : decode cX13_wivesOf 27 = .ok (.iload 4, 2) := by decide +kernel
theorem dX13_wivesOf_29 : decode cX13_wivesOf 29 = .ok (.ishl, 1) := by decide +kernel
theorem dX13_wivesOf_30 : decode cX13_wivesOf 30 = .ok (.goto 4, 3) := by decide +kernel
theorem dX13_wivesOf_33 : decode cX13_wivesOf 33 = .ok (.iconst 0, 1) := by decide +kernel
theorem dX13_wivesOf_34 : decode cX13_wivesOf 34 = .ok (.ior, 1) := by decide +kernel
theorem dX13_wivesOf_35 : decode cX13_wivesOf 35 = .ok (.istore_n 3, 1) := by decide +kernel
theorem dX13_wivesOf_36 : decode cX13_wivesOf 36 = .ok (.iinc 4 1, 3) := by decide +kernel
theorem dX13_wivesOf_39 : decode cX13_wivesOf 39 = .ok (.goto (-34), 3) := by decide +kernel
theorem dX13_wivesOf_42 : decode cX13_wivesOf 42 = .ok (.iload_n 3, 1) := by decide +kernel
theorem dX13_wivesOf_43 : decode cX13_wivesOf 43 = .ok (.ireturn, 1) := by decide +kernel
theorem dX13_bits_0 : decode cX13_bits 0 = .ok (.iconst 0, 1) := by decide +kernel
theorem dX13_bits_1 : decode cX13_bits 1 = .ok (.istore_n 1, 1) := by decide +kernel
theorem dX13_bits_2 : decode cX13_bits 2 = .ok (.iconst 0, 1) := by decide +kernel
theorem dX13_bits_3 : decode cX13_bits 3 = .ok (.istore_n 2, 1) := by decide +kernel
theorem dX13_bits_4 : decode cX13_bits 4 = .ok (.iload_n 2, 1) := by decide +kernel
theorem dX13_bits_5 : decode cX13_bits 5 = .ok (.bipush 6, 2) := by decide +kernel
theorem dX13_bits_7 : decode cX13_bits 7 = .ok (.if_icmp .ge 17, 3) := by decide +kernel
theorem dX13_bits_10 : decode cX13_bits 10 = .ok (.iload_n 1, 1) := by decide +kernel
theorem dX13_bits_11 : decode cX13_bits 11 = .ok (.iload_n 0, 1) := by decide +kernel
theorem dX13_bits_12 : decode cX13_bits 12 = .ok (.iload_n 2, 1) := by decide +kernel
theorem dX13_bits_13 : decode cX13_bits 13 = .ok (.ishr, 1) := by decide +kernel
theorem dX13_bits_14 : decode cX13_bits 14 = .ok (.iconst 1, 1) := by decide +kernel
theorem dX13_bits_15 : decode cX13_bits 15 = .ok (.iand, 1) := by decide +kernel
theorem dX13_bits_16 : decode cX13_bits 16 = .ok (.iadd, 1) := by decide +kernel
theorem dX13_bits_17 : decode cX13_bits 17 = .ok (.istore_n 1, 1) := by decide +kernel
theorem dX13_bits_18 : decode cX13_bits 18 = .ok (.iinc 2 1, 3) := by decide +kernel
theorem dX13_bits_21 : decode cX13_bits 21 = .ok (.goto (-17), 3) := by decide +kernel
theorem dX13_bits_24 : decode cX13_bits 24 = .ok (.iload_n 1, 1) := by decide +kernel
theorem dX13_bits_25 : decode cX13_bits 25 = .ok (.ireturn, 1) := by decide +kernel
theorem dX13_ownOf_0 : decode cX13_ownOf 0 = .ok (.aload_n 0, 1) := by decide +kernel
theorem dX13_ownOf_1 : decode cX13_ownOf 1 = .ok (.getfield 306, 3) := by decide +kernel
theorem dX13_ownOf_4 : decode cX13_ownOf 4 = .ok (.ifCond .eq 16, 3) := by decide +kernel
theorem dX13_ownOf_7 : decode cX13_ownOf 7 = .ok (.aload_n 0, 1) := by decide +kernel
theorem dX13_ownOf_8 : decode cX13_ownOf 8 = .ok (.iload_n 1, 1) := by decide +kernel
theorem dX13_ownOf_9 : decode cX13_ownOf 9 = .ok (.iconst 4, 1) := by decide +kernel
theorem dX13_ownOf_10 : decode cX13_ownOf 10 = .ok (.iload_n 2, 1) := by decide +kernel
theorem dX13_ownOf_11 : decode cX13_ownOf 11 = .ok (.iadd, 1) := by decide +kernel
theorem dX13_ownOf_12 : decode cX13_ownOf 12 = .ok (.invokevirtual 300, 3) := by decide +kernel
theorem dX13_ownOf_15 : decode cX13_ownOf 15 = .ok (.iconst 2, 1) := by decide +kernel
theorem dX13_ownOf_16 : decode cX13_ownOf 16 = .ok (.idiv, 1) := by decide +kernel
theorem dX13_ownOf_17 : decode cX13_ownOf 17 = .ok (.goto 11, 3) := by decide +kernel
theorem dX13_ownOf_20 : decode cX13_ownOf 20 = .ok (.aload_n 0, 1) := by decide +kernel
theorem dX13_ownOf_21 : decode cX13_ownOf 21 = .ok (.iload_n 1, 1) := by decide +kernel
theorem dX13_ownOf_22 : decode cX13_ownOf 22 = .ok (.iconst 4, 1) := by decide +kernel
theorem dX13_ownOf_23 : decode cX13_ownOf 23 = .ok (.iload_n 2, 1) := by decide +kernel
theorem dX13_ownOf_24 : decode cX13_ownOf 24 = .ok (.iadd, 1) := by decide +kernel
theorem dX13_ownOf_25 : decode cX13_ownOf 25 = .ok (.invokevirtual 300, 3) := by decide +kernel
theorem dX13_ownOf_28 : decode cX13_ownOf 28 = .ok (.ireturn, 1) := by decide +kernel
theorem dX13_isThere_0 : decode cX13_isThere 0 = .ok (.aload_n 0, 1) := by decide +kernel
theorem dX13_isThere_1 : decode cX13_isThere 1 = .ok (.iload_n 1, 1) := by decide +kernel
theorem dX13_isThere_2 : decode cX13_isThere 2 = .ok (.invokevirtual 310, 3) := by decide +kernel
theorem dX13_isThere_5 : decode cX13_isThere 5 = .ok (.iload_n 2, 1) := by decide +kernel
theorem dX13_isThere_6 : decode cX13_isThere 6 = .ok (.if_icmp .lt 16, 3) := by decide +kernel
theorem dX13_isThere_9 : decode cX13_isThere 9 = .ok (.aload_n 0, 1) := by decide +kernel
theorem dX13_isThere_10 : decode cX13_isThere 10 = .ok (.iload_n 1, 1) := by decide +kernel
theorem dX13_isThere_11 : decode cX13_isThere 11 = .ok (.invokevirtual 313, 3) := by decide +kernel
theorem dX13_isThere_14 : decode cX13_isThere 14 = .ok (.iload_n 2, 1) := by decide +kernel
theorem dX13_isThere_15 : decode cX13_isThere 15 = .ok (.if_icmp .gt 7, 3) := by decide +kernel
theorem dX13_isThere_18 : decode cX13_isThere 18 = .ok (.iconst 1, 1) := by decide +kernel
theorem dX13_isThere_19 : decode cX13_isThere 19 = .ok (.goto 4, 3) := by decide +kernel
theorem dX13_isThere_22 : decode cX13_isThere 22 = .ok (.iconst 0, 1) := by decide +kernel
theorem dX13_isThere_23 : decode cX13_isThere 23 = .ok (.ireturn, 1) := by decide +kernel
theorem dX13_watersAt_0 : decode cX13_watersAt 0 = .ok (.iconst 1, 1) := by decide +kernel
theorem dX13_watersAt_1 : decode cX13_watersAt 1 = .ok (.iload_n 2, 1) := by decide +kernel
theorem dX13_watersAt_2 : decode cX13_watersAt 2 = .ok (.ishl, 1) := by decide +kernel
theorem dX13_watersAt_3 : decode cX13_watersAt 3 = .ok (.istore 4, 2) := by decide +kernel
theorem dX13_watersAt_5 : decode cX13_watersAt 5 = .ok (.iconst 0, 1) := by decide +kernel
theorem dX13_watersAt_6 : decode cX13_watersAt 6 = .ok (.istore 5, 2) := by decide +kernel
theorem dX13_watersAt_8 : decode cX13_watersAt 8 = .ok (.iload 5, 2) := by decide +kernel
theorem dX13_watersAt_10 : decode cX13_watersAt 10 = .ok (.aload_n 0, 1) := by decide +kernel
theorem dX13_watersAt_11 : decode cX13_watersAt 11 = .ok (.invokevirtual 296, 3) := by decide +kernel
theorem dX13_watersAt_14 : decode cX13_watersAt 14 = .ok (.if_icmp .ge 82, 3) := by decide +kernel
theorem dX13_watersAt_17 : decode cX13_watersAt 17 = .ok (.aload_n 0, 1) := by decide +kernel
theorem dX13_watersAt_18 : decode cX13_watersAt 18 = .ok (.iload_n 1, 1) := by decide +kernel
theorem dX13_watersAt_19 : decode cX13_watersAt 19 = .ok (.iload 5, 2) := by decide +kernel
theorem dX13_watersAt_21 : decode cX13_watersAt 21 = .ok (.invokevirtual 303, 3) := by decide +kernel
theorem dX13_watersAt_24 : decode cX13_watersAt 24 = .ok (.iload_n 2, 1) := by decide +kernel
theorem dX13_watersAt_25 : decode cX13_watersAt 25 = .ok (.if_icmp .ne 35, 3) := by decide +kernel
theorem dX13_watersAt_28 : decode cX13_watersAt 28 = .ok (.aload_n 0, 1) := by decide +kernel
theorem dX13_watersAt_29 : decode cX13_watersAt 29 = .ok (.iload 5, 2) := by decide +kernel
theorem dX13_watersAt_31 : decode cX13_watersAt 31 = .ok (.invokevirtual 313, 3) := by decide +kernel
theorem dX13_watersAt_34 : decode cX13_watersAt 34 = .ok (.iload_n 3, 1) := by decide +kernel
theorem dX13_watersAt_35 : decode cX13_watersAt 35 = .ok (.if_icmp .lt 25, 3) := by decide +kernel
theorem dX13_watersAt_38 : decode cX13_watersAt 38 = .ok (.aload_n 0, 1) := by decide +kernel
theorem dX13_watersAt_39 : decode cX13_watersAt 39 = .ok (.iload_n 2, 1) := by decide +kernel
theorem dX13_watersAt_40 : decode cX13_watersAt 40 = .ok (.invokevirtual 316, 3) := by decide +kernel
theorem dX13_watersAt_43 : decode cX13_watersAt 43 = .ok (.iconst 2, 1) := by decide +kernel
theorem dX13_watersAt_44 : decode cX13_watersAt 44 = .ok (.if_icmp .ne 12, 3) := by decide +kernel
theorem dX13_watersAt_47 : decode cX13_watersAt 47 = .ok (.iload_n 3, 1) := by decide +kernel
theorem dX13_watersAt_48 : decode cX13_watersAt 48 = .ok (.aload_n 0, 1) := by decide +kernel
theorem dX13_watersAt_49 : decode cX13_watersAt 49 = .ok (.iload_n 2, 1) := by decide +kernel
theorem dX13_watersAt_50 : decode cX13_watersAt 50 = .ok (.invokevirtual 313, 3) := by decide +kernel
theorem dX13_watersAt_53 : decode cX13_watersAt 53 = .ok (.if_icmp .ne 7, 3) := by decide +kernel
theorem dX13_watersAt_56 : decode cX13_watersAt 56 = .ok (.iconst 1, 1) := by decide +kernel
theorem dX13_watersAt_57 : decode cX13_watersAt 57 = .ok (.goto 4, 3) := by decide +kernel
theorem dX13_watersAt_60 : decode cX13_watersAt 60 = .ok (.iconst 0, 1) := by decide +kernel
theorem dX13_watersAt_61 : decode cX13_watersAt 61 = .ok (.istore 6, 2) := by decide +kernel
theorem dX13_watersAt_63 : decode cX13_watersAt 63 = .ok (.iload 4, 2) := by decide +kernel
theorem dX13_watersAt_65 : decode cX13_watersAt 65 = .ok (.iload 6, 2) := by decide +kernel
theorem dX13_watersAt_67 : decode cX13_watersAt 67 = .ok (.ifCond .eq 19, 3) := by decide +kernel
theorem dX13_watersAt_70 : decode cX13_watersAt 70 = .ok (.aload_n 0, 1) := by decide +kernel
theorem dX13_watersAt_71 : decode cX13_watersAt 71 = .ok (.iload_n 1, 1) := by decide +kernel
theorem dX13_watersAt_72 : decode cX13_watersAt 72 = .ok (.iload 5, 2) := by decide +kernel
theorem dX13_watersAt_74 : decode cX13_watersAt 74 = .ok (.aload_n 0, 1) := by decide +kernel
theorem dX13_watersAt_75 : decode cX13_watersAt 75 = .ok (.iload 5, 2) := by decide +kernel
theorem dX13_watersAt_77 : decode cX13_watersAt 77 = .ok (.invokevirtual 313, 3) := by decide +kernel
theorem dX13_watersAt_80 : decode cX13_watersAt 80 = .ok (.invokevirtual 319, 3) := by decide +kernel
theorem dX13_watersAt_83 : decode cX13_watersAt 83 = .ok (.goto 4, 3) := by decide +kernel
theorem dX13_watersAt_86 : decode cX13_watersAt 86 = .ok (.iconst 0, 1) := by decide +kernel
theorem dX13_watersAt_87 : decode cX13_watersAt 87 = .ok (.ior, 1) := by decide +kernel
theorem dX13_watersAt_88 : decode cX13_watersAt 88 = .ok (.istore 4, 2) := by decide +kernel
theorem dX13_watersAt_90 : decode cX13_watersAt 90 = .ok (.iinc 5 1, 3) := by decide +kernel
theorem dX13_watersAt_93 : decode cX13_watersAt 93 = .ok (.goto (-85), 3) := by decide +kernel
theorem dX13_watersAt_96 : decode cX13_watersAt 96 = .ok (.iload 4, 2) := by decide +kernel
theorem dX13_watersAt_98 : decode cX13_watersAt 98 = .ok (.ireturn, 1) := by decide +kernel
theorem dX13_flowAt_0 : decode cX13_flowAt 0 = .ok (.aload_n 0, 1) := by decide +kernel
theorem dX13_flowAt_1 : decode cX13_flowAt 1 = .ok (.iload_n 1, 1) := by decide +kernel
theorem dX13_flowAt_2 : decode cX13_flowAt 2 = .ok (.iload_n 2, 1) := by decide +kernel
theorem dX13_flowAt_3 : decode cX13_flowAt 3 = .ok (.iload_n 3, 1) := by decide +kernel
theorem dX13_flowAt_4 : decode cX13_flowAt 4 = .ok (.invokevirtual 319, 3) := by decide +kernel
theorem dX13_flowAt_7 : decode cX13_flowAt 7 = .ok (.istore 5, 2) := by decide +kernel
theorem dX13_flowAt_9 : decode cX13_flowAt 9 = .ok (.iconst 0, 1) := by decide +kernel
theorem dX13_flowAt_10 : decode cX13_flowAt 10 = .ok (.istore 6, 2) := by decide +kernel
theorem dX13_flowAt_12 : decode cX13_flowAt 12 = .ok (.iconst 0, 1) := by decide +kernel
theorem dX13_flowAt_13 : decode cX13_flowAt 13 = .ok (.istore 7, 2) := by decide +kernel
theorem dX13_flowAt_15 : decode cX13_flowAt 15 = .ok (.iload 7, 2) := by decide +kernel
theorem dX13_flowAt_17 : decode cX13_flowAt 17 = .ok (.aload_n 0, 1) := by decide +kernel
theorem dX13_flowAt_18 : decode cX13_flowAt 18 = .ok (.invokevirtual 296, 3) := by decide +kernel
theorem dX13_flowAt_21 : decode cX13_flowAt 21 = .ok (.if_icmp .ge 37, 3) := by decide +kernel
theorem dX13_flowAt_24 : decode cX13_flowAt 24 = .ok (.iload 6, 2) := by decide +kernel
theorem dX13_flowAt_26 : decode cX13_flowAt 26 = .ok (.iload 5, 2) := by decide +kernel
theorem dX13_flowAt_28 : decode cX13_flowAt 28 = .ok (.iload 7, 2) := by decide +kernel
theorem dX13_flowAt_30 : decode cX13_flowAt 30 = .ok (.ishr, 1) := by decide +kernel
theorem dX13_flowAt_31 : decode cX13_flowAt 31 = .ok (.iconst 1, 1) := by decide +kernel
theorem dX13_flowAt_32 : decode cX13_flowAt 32 = .ok (.iand, 1) := by decide +kernel
theorem dX13_flowAt_33 : decode cX13_flowAt 33 = .ok (.iconst 1, 1) := by decide +kernel
theorem dX13_flowAt_34 : decode cX13_flowAt 34 = .ok (.if_icmp .ne 14, 3) := by decide +kernel
theorem dX13_flowAt_37 : decode cX13_flowAt 37 = .ok (.aload_n 0, 1) := by decide +kernel
theorem dX13_flowAt_38 : decode cX13_flowAt 38 = .ok (.iload 7, 2) := by decide +kernel
theorem dX13_flowAt_40 : decode cX13_flowAt 40 = .ok (.iload 4, 2) := by decide +kernel
theorem dX13_flowAt_42 : decode cX13_flowAt 42 = .ok (.invokevirtual 322, 3) := by decide +kernel
theorem dX13_flowAt_45 : decode cX13_flowAt 45 = .ok (.goto 4, 3) := by decide +kernel
theorem dX13_flowAt_48 : decode cX13_flowAt 48 = .ok (.iconst 0, 1) := by decide +kernel
theorem dX13_flowAt_49 : decode cX13_flowAt 49 = .ok (.iadd, 1) := by decide +kernel
theorem dX13_flowAt_50 : decode cX13_flowAt 50 = .ok (.istore 6, 2) := by decide +kernel
theorem dX13_flowAt_52 : decode cX13_flowAt 52 = .ok (.iinc 7 1, 3) := by decide +kernel
theorem dX13_flowAt_55 : decode cX13_flowAt 55 = .ok (.goto (-40), 3) := by decide +kernel
theorem dX13_flowAt_58 : decode cX13_flowAt 58 = .ok (.iload 6, 2) := by decide +kernel
theorem dX13_flowAt_60 : decode cX13_flowAt 60 = .ok (.ireturn, 1) := by decide +kernel
theorem dX13_mouthFlow_0 : decode cX13_mouthFlow 0 = .ok (.aload_n 0, 1) := by decide +kernel
theorem dX13_mouthFlow_1 : decode cX13_mouthFlow 1 = .ok (.iload_n 1, 1) := by decide +kernel
theorem dX13_mouthFlow_2 : decode cX13_mouthFlow 2 = .ok (.iload_n 2, 1) := by decide +kernel
theorem dX13_mouthFlow_3 : decode cX13_mouthFlow 3 = .ok (.aload_n 0, 1) := by decide +kernel
theorem dX13_mouthFlow_4 : decode cX13_mouthFlow 4 = .ok (.iload_n 2, 1) := by decide +kernel
theorem dX13_mouthFlow_5 : decode cX13_mouthFlow 5 = .ok (.invokevirtual 313, 3) := by decide +kernel
theorem dX13_mouthFlow_8 : decode cX13_mouthFlow 8 = .ok (.iload_n 3, 1) := by decide +kernel
theorem dX13_mouthFlow_9 : decode cX13_mouthFlow 9 = .ok (.invokevirtual 325, 3) := by decide +kernel
theorem dX13_mouthFlow_12 : decode cX13_mouthFlow 12 = .ok (.ireturn, 1) := by decide +kernel
theorem dX13_isDry_0 : decode cX13_isDry 0 = .ok (.aload_n 0, 1) := by decide +kernel
theorem dX13_isDry_1 : decode cX13_isDry 1 = .ok (.iload_n 2, 1) := by decide +kernel
theorem dX13_isDry_2 : decode cX13_isDry 2 = .ok (.bipush 8, 2) := by decide +kernel
theorem dX13_isDry_4 : decode cX13_isDry 4 = .ok (.invokevirtual 300, 3) := by decide +kernel
theorem dX13_isDry_7 : decode cX13_isDry 7 = .ok (.ifCond .lt 31, 3) := by decide +kernel
theorem dX13_isDry_10 : decode cX13_isDry 10 = .ok (.aload_n 0, 1) := by decide +kernel
theorem dX13_isDry_11 : decode cX13_isDry 11 = .ok (.iload_n 2, 1) := by decide +kernel
theorem dX13_isDry_12 : decode cX13_isDry 12 = .ok (.bipush 8, 2) := by decide +kernel
theorem dX13_isDry_14 : decode cX13_isDry 14 = .ok (.invokevirtual 300, 3) := by decide +kernel
theorem dX13_isDry_17 : decode cX13_isDry 17 = .ok (.aload_n 0, 1) := by decide +kernel
theorem dX13_isDry_18 : decode cX13_isDry 18 = .ok (.iload_n 1, 1) := by decide +kernel
theorem dX13_isDry_19 : decode cX13_isDry 19 = .ok (.iload_n 2, 1) := by decide +kernel
theorem dX13_isDry_20 : decode cX13_isDry 20 = .ok (.aload_n 0, 1) := by decide +kernel
theorem dX13_isDry_21 : decode cX13_isDry 21 = .ok (.iload_n 2, 1) := by decide +kernel
theorem dX13_isDry_22 : decode cX13_isDry 22 = .ok (.bipush 9, 2) := by decide +kernel
theorem dX13_isDry_24 : decode cX13_isDry 24 = .ok (.invokevirtual 300, 3) := by decide +kernel
theorem dX13_isDry_27 : decode cX13_isDry 27 = .ok (.iload_n 3, 1) := by decide +kernel
theorem dX13_isDry_28 : decode cX13_isDry 28 = .ok (.invokevirtual 325, 3) := by decide +kernel
theorem dX13_isDry_31 : decode cX13_isDry 31 = .ok (.if_icmp .le 7, 3) := by decide +kernel
theorem dX13_isDry_34 : decode cX13_isDry 34 = .ok (.iconst 1, 1) := by decide +kernel
theorem dX13_isDry_35 : decode cX13_isDry 35 = .ok (.goto 4, 3) := by decide +kernel
theorem dX13_isDry_38 : decode cX13_isDry 38 = .ok (.iconst 0, 1) := by decide +kernel
theorem dX13_isDry_39 : decode cX13_isDry 39 = .ok (.ireturn, 1) := by decide +kernel
theorem dX13_isFlooded_0 : decode cX13_isFlooded 0 = .ok (.aload_n 0, 1) := by decide +kernel
theorem dX13_isFlooded_1 : decode cX13_isFlooded 1 = .ok (.iload_n 2, 1) := by decide +kernel
theorem dX13_isFlooded_2 : decode cX13_isFlooded 2 = .ok (.bipush 10, 2) := by decide +kernel
theorem dX13_isFlooded_4 : decode cX13_isFlooded 4 = .ok (.invokevirtual 300, 3) := by decide +kernel
theorem dX13_isFlooded_7 : decode cX13_isFlooded 7 = .ok (.ifCond .lt 31, 3) := by decide +kernel
theorem dX13_isFlooded_10 : decode cX13_isFlooded 10 = .ok (.aload_n 0, 1) := by decide +kernel
theorem dX13_isFlooded_11 : decode cX13_isFlooded 11 = .ok (.iload_n 2, 1) := by decide +kernel
theorem dX13_isFlooded_12 : decode cX13_isFlooded 12 = .ok (.bipush 10, 2) := by decide +kernel
theorem dX13_isFlooded_14 : decode cX13_isFlooded 14 = .ok (.invokevirtual 300, 3) := by decide +kernel
theorem dX13_isFlooded_17 : decode cX13_isFlooded 17 = .ok (.aload_n 0, 1) := by decide +kernel
theorem dX13_isFlooded_18 : decode cX13_isFlooded 18 = .ok (.iload_n 1, 1) := by decide +kernel
theorem dX13_isFlooded_19 : decode cX13_isFlooded 19 = .ok (.iload_n 2, 1) := by decide +kernel
theorem dX13_isFlooded_20 : decode cX13_isFlooded 20 = .ok (.aload_n 0, 1) := by decide +kernel
theorem dX13_isFlooded_21 : decode cX13_isFlooded 21 = .ok (.iload_n 2, 1) := by decide +kernel
theorem dX13_isFlooded_22 : decode cX13_isFlooded 22 = .ok (.bipush 11, 2) := by decide +kernel
theorem dX13_isFlooded_24 : decode cX13_isFlooded 24 = .ok (.invokevirtual 300, 3) := by decide +kernel
theorem dX13_isFlooded_27 : decode cX13_isFlooded 27 = .ok (.iload_n 3, 1) := by decide +kernel
theorem dX13_isFlooded_28 : decode cX13_isFlooded 28 = .ok (.invokevirtual 325, 3) := by decide +kernel
theorem dX13_isFlooded_31 : decode cX13_isFlooded 31 = .ok (.if_icmp .ge 7, 3) := by decide +kernel
theorem dX13_isFlooded_34 : decode cX13_isFlooded 34 = .ok (.iconst 1, 1) := by decide +kernel
theorem dX13_isFlooded_35 : decode cX13_isFlooded 35 = .ok (.goto 4, 3) := by decide +kernel
theorem dX13_isFlooded_38 : decode cX13_isFlooded 38 = .ok (.iconst 0, 1) := by decide +kernel
theorem dX13_isFlooded_39 : decode cX13_isFlooded 39 = .ok (.ireturn, 1) := by decide +kernel
theorem dX13_areServed_0 : decode cX13_areServed 0 = .ok (.iconst 1, 1) := by decide +kernel
theorem dX13_areServed_1 : decode cX13_areServed 1 = .ok (.istore_n 3, 1) := by decide +kernel
theorem dX13_areServed_2 : decode cX13_areServed 2 = .ok (.iconst 0, 1) := by decide +kernel
theorem dX13_areServed_3 : decode cX13_areServed 3 = .ok (.istore 4, 2) := by decide +kernel
theorem dX13_areServed_5 : decode cX13_areServed 5 = .ok (.iload 4, 2) := by decide +kernel
theorem dX13_areServed_7 : decode cX13_areServed 7 = .ok (.aload_n 0, 1) := by decide +kernel
theorem dX13_areServed_8 : decode cX13_areServed 8 = .ok (.invokevirtual 296, 3) := by decide +kernel
theorem dX13_areServed_11 : decode cX13_areServed 11 = .ok (.if_icmp .ge 41, 3) := by decide +kernel
theorem dX13_areServed_14 : decode cX13_areServed 14 = .ok (.iload_n 3, 1) := by decide +kernel
theorem dX13_areServed_15 : decode cX13_areServed 15 = .ok (.ifCond .eq 37, 3) := by decide +kernel
theorem dX13_areServed_18 : decode cX13_areServed 18 = .ok (.aload_n 0, 1) := by decide +kernel
theorem dX13_areServed_19 : decode cX13_areServed 19 = .ok (.iload_n 1, 1) := by decide +kernel
theorem dX13_areServed_20 : decode cX13_areServed 20 = .ok (.iload 4, 2) := by decide +kernel
theorem dX13_areServed_22 : decode cX13_areServed 22 = .ok (.iload_n 2, 1) := by decide +kernel
theorem dX13_areServed_23 : decode cX13_areServed 23 = .ok (.invokevirtual 329, 3) := by decide +kernel
theorem dX13_areServed_26 : decode cX13_areServed 26 = .ok (.ifCond .ne 18, 3) := by decide +kernel
theorem dX13_areServed_29 : decode cX13_areServed 29 = .ok (.aload_n 0, 1) := by decide +kernel
theorem dX13_areServed_30 : decode cX13_areServed 30 = .ok (.iload_n 1, 1) := by decide +kernel
theorem dX13_areServed_31 : decode cX13_areServed 31 = .ok (.iload 4, 2) := by decide +kernel
theorem dX13_areServed_33 : decode cX13_areServed 33 = .ok (.iload_n 2, 1) := by decide +kernel
theorem dX13_areServed_34 : decode cX13_areServed 34 = .ok (.invokevirtual 333, 3) := by decide +kernel
theorem dX13_areServed_37 : decode cX13_areServed 37 = .ok (.ifCond .ne 7, 3) := by decide +kernel
theorem dX13_areServed_40 : decode cX13_areServed 40 = .ok (.iconst 1, 1) := by decide +kernel
theorem dX13_areServed_41 : decode cX13_areServed 41 = .ok (.goto 4, 3) := by decide +kernel
theorem dX13_areServed_44 : decode cX13_areServed 44 = .ok (.iconst 0, 1) := by decide +kernel
theorem dX13_areServed_45 : decode cX13_areServed 45 = .ok (.istore_n 3, 1) := by decide +kernel
theorem dX13_areServed_46 : decode cX13_areServed 46 = .ok (.iinc 4 1, 3) := by decide +kernel
theorem dX13_areServed_49 : decode cX13_areServed 49 = .ok (.goto (-44), 3) := by decide +kernel
theorem dX13_areServed_52 : decode cX13_areServed 52 = .ok (.iload_n 3, 1) := by decide +kernel
theorem dX13_areServed_53 : decode cX13_areServed 53 = .ok (.ireturn, 1) := by decide +kernel
theorem dX13_river_0 : decode cX13_river 0 = .ok (.aload_n 0, 1) := by decide +kernel
theorem dX13_river_1 : decode cX13_river 1 = .ok (.aload_n 0, 1) := by decide +kernel
theorem dX13_river_2 : decode cX13_river 2 = .ok (.iload_n 1, 1) := by decide +kernel
theorem dX13_river_3 : decode cX13_river 3 = .ok (.invokevirtual 336, 3) := by decide +kernel
theorem dX13_river_6 : decode cX13_river 6 = .ok (.ifCond .eq 17, 3) := by decide +kernel
theorem dX13_river_9 : decode cX13_river 9 = .ok (.iload_n 2, 1) := by decide +kernel
theorem dX13_river_10 : decode cX13_river 10 = .ok (.iconst 0, 1) := by decide +kernel
theorem dX13_river_11 : decode cX13_river 11 = .ok (.bipush 8, 2) := by decide +kernel
theorem dX13_river_13 : decode cX13_river 13 = .ok (.invokestatic 339, 3) := by decide +kernel
theorem dX13_river_16 : decode cX13_river 16 = .ok (.ifCond .eq 7, 3) := by decide +kernel
theorem dX13_river_19 : decode cX13_river 19 = .ok (.iconst 0, 1) := by decide +kernel
theorem dX13_river_20 : decode cX13_river 20 = .ok (.goto 4, 3) := by decide +kernel
theorem dX13_river_23 : decode cX13_river 23 = .ok (.iconst 1, 1) := by decide +kernel
theorem dX13_river_24 : decode cX13_river 24 = .ok (.putfield 1, 3) := by decide +kernel
theorem dX13_river_27 : decode cX13_river 27 = .ok (.aload_n 0, 1) := by decide +kernel
theorem dX13_river_28 : decode cX13_river 28 = .ok (.getfield 1, 3) := by decide +kernel
theorem dX13_river_31 : decode cX13_river 31 = .ok (.ifCond .le 5, 3) := by decide +kernel
theorem dX13_river_34 : decode cX13_river 34 = .ok (.iconst 0, 1) := by decide +kernel
theorem dX13_river_35 : decode cX13_river 35 = .ok (.ireturn, 1) := by decide +kernel
theorem dX13_river_36 : decode cX13_river 36 = .ok (.iload_n 2, 1) := by decide +kernel
theorem dX13_river_37 : decode cX13_river 37 = .ok (.tableswitch 77 4 8 #[35, 43, 50, 57, 67], 35) := by decide +kernel
theorem dX13_river_72 : decode cX13_river 72 = .ok (.aload_n 0, 1) := by decide +kernel
theorem dX13_river_73 : decode cX13_river 73 = .ok (.iload_n 1, 1) := by decide +kernel
theorem dX13_river_74 : decode cX13_river 74 = .ok (.bipush 12, 2) := by decide +kernel
theorem dX13_river_76 : decode cX13_river 76 = .ok (.invokevirtual 300, 3) := by decide +kernel
theorem dX13_river_79 : decode cX13_river 79 = .ok (.ireturn, 1) := by decide +kernel
theorem dX13_river_80 : decode cX13_river 80 = .ok (.aload_n 0, 1) := by decide +kernel
theorem dX13_river_81 : decode cX13_river 81 = .ok (.iconst 0, 1) := by decide +kernel
theorem dX13_river_82 : decode cX13_river 82 = .ok (.iload_n 1, 1) := by decide +kernel
theorem dX13_river_83 : decode cX13_river 83 = .ok (.invokevirtual 303, 3) := by decide +kernel
theorem dX13_river_86 : decode cX13_river 86 = .ok (.ireturn, 1) := by decide +kernel
theorem dX13_river_87 : decode cX13_river 87 = .ok (.aload_n 0, 1) := by decide +kernel
theorem dX13_river_88 : decode cX13_river 88 = .ok (.iconst 0, 1) := by decide +kernel
theorem dX13_river_89 : decode cX13_river 89 = .ok (.iload_n 1, 1) := by decide +kernel
theorem dX13_river_90 : decode cX13_river 90 = .ok (.invokevirtual 342, 3) := by decide +kernel
theorem dX13_river_93 : decode cX13_river 93 = .ok (.ireturn, 1) := by decide +kernel
theorem dX13_river_94 : decode cX13_river 94 = .ok (.aload_n 0, 1) := by decide +kernel
theorem dX13_river_95 : decode cX13_river 95 = .ok (.getfield 126, 3) := by decide +kernel
theorem dX13_river_98 : decode cX13_river 98 = .ok (.bipush 13, 2) := by decide +kernel
theorem dX13_river_100 : decode cX13_river 100 = .ok (.iload_n 1, 1) := by decide +kernel
theorem dX13_river_101 : decode cX13_river 101 = .ok (.iadd, 1) := by decide +kernel
theorem dX13_river_102 : decode cX13_river 102 = .ok (.iaload, 1) := by decide +kernel
theorem dX13_river_103 : decode cX13_river 103 = .ok (.ireturn, 1) := by decide +kernel
theorem dX13_river_104 : decode cX13_river 104 = .ok (.aload_n 0, 1) := by decide +kernel
theorem dX13_river_105 : decode cX13_river 105 = .ok (.getfield 126, 3) := by decide +kernel
theorem dX13_river_108 : decode cX13_river 108 = .ok (.bipush 7, 2) := by decide +kernel
theorem dX13_river_110 : decode cX13_river 110 = .ok (.iload_n 1, 1) := by decide +kernel
theorem dX13_river_111 : decode cX13_river 111 = .ok (.iadd, 1) := by decide +kernel
theorem dX13_river_112 : decode cX13_river 112 = .ok (.iaload, 1) := by decide +kernel
theorem dX13_river_113 : decode cX13_river 113 = .ok (.ireturn, 1) := by decide +kernel
theorem dX13_river_114 : decode cX13_river 114 = .ok (.aload_n 0, 1) := by decide +kernel
theorem dX13_river_115 : decode cX13_river 115 = .ok (.iload_n 1, 1) := by decide +kernel
theorem dX13_river_116 : decode cX13_river 116 = .ok (.iload_n 2, 1) := by decide +kernel
theorem dX13_river_117 : decode cX13_river 117 = .ok (.invokevirtual 300, 3) := by decide +kernel
theorem dX13_river_120 : decode cX13_river 120 = .ok (.ireturn, 1) := by decide +kernel
theorem dX13_flow_0 : decode cX13_flow 0 = .ok (.aload_n 0, 1) := by decide +kernel
theorem dX13_flow_1 : decode cX13_flow 1 = .ok (.iconst 0, 1) := by decide +kernel
theorem dX13_flow_2 : decode cX13_flow 2 = .ok (.putfield 1, 3) := by decide +kernel
theorem dX13_flow_5 : decode cX13_flow 5 = .ok (.aload_n 0, 1) := by decide +kernel
theorem dX13_flow_6 : decode cX13_flow 6 = .ok (.iload_n 1, 1) := by decide +kernel
theorem dX13_flow_7 : decode cX13_flow 7 = .ok (.invokevirtual 336, 3) := by decide +kernel
theorem dX13_flow_10 : decode cX13_flow 10 = .ok (.ifCond .eq 42, 3) := by decide +kernel
theorem dX13_flow_13 : decode cX13_flow 13 = .ok (.iload_n 2, 1) := by decide +kernel
theorem dX13_flow_14 : decode cX13_flow 14 = .ok (.iconst 0, 1) := by decide +kernel
theorem dX13_flow_15 : decode cX13_flow 15 = .ok (.bipush 99, 2) := by decide +kernel
theorem dX13_flow_17 : decode cX13_flow 17 = .ok (.invokestatic 339, 3) := by decide +kernel
theorem dX13_flow_20 : decode cX13_flow 20 = .ok (.ifCond .eq 32, 3) := by decide +kernel
theorem dX13_flow_23 : decode cX13_flow 23 = .ok (.iload_n 3, 1) := by decide +kernel
theorem dX13_flow_24 : decode cX13_flow 24 = .ok (.iconst 0, 1) := by decide +kernel
theorem dX13_flow_25 : decode cX13_flow 25 = .ok (.iconst 3, 1) := by decide +kernel
theorem dX13_flow_26 : decode cX13_flow 26 = .ok (.invokestatic 339, 3) := by decide +kernel
theorem dX13_flow_29 : decode cX13_flow 29 = .ok (.ifCond .eq 23, 3) := by decide +kernel
theorem dX13_flow_32 : decode cX13_flow 32 = .ok (.aload_n 0, 1) := by decide +kernel
theorem dX13_flow_33 : decode cX13_flow 33 = .ok (.iload_n 1, 1) := by decide +kernel
theorem dX13_flow_34 : decode cX13_flow 34 = .ok (.iload_n 2, 1) := by decide +kernel
theorem dX13_flow_35 : decode cX13_flow 35 = .ok (.invokevirtual 345, 3) := by decide +kernel
theorem dX13_flow_38 : decode cX13_flow 38 = .ok (.ifCond .eq 14, 3) := by decide +kernel
theorem dX13_flow_41 : decode cX13_flow 41 = .ok (.aload_n 0, 1) := by decide +kernel
theorem dX13_flow_42 : decode cX13_flow 42 = .ok (.iconst 0, 1) := by decide +kernel
theorem dX13_flow_43 : decode cX13_flow 43 = .ok (.iload_n 1, 1) := by decide +kernel
theorem dX13_flow_44 : decode cX13_flow 44 = .ok (.iload_n 2, 1) := by decide +kernel
theorem dX13_flow_45 : decode cX13_flow 45 = .ok (.iload_n 3, 1) := by decide +kernel
theorem dX13_flow_46 : decode cX13_flow 46 = .ok (.invokevirtual 325, 3) := by decide +kernel
theorem dX13_flow_49 : decode cX13_flow 49 = .ok (.goto 4, 3) := by decide +kernel
theorem dX13_flow_52 : decode cX13_flow 52 = .ok (.iconst (-1), 1) := by decide +kernel
theorem dX13_flow_53 : decode cX13_flow 53 = .ok (.ireturn, 1) := by decide +kernel
theorem dX13_needs_0 : decode cX13_needs 0 = .ok (.aload_n 0, 1) := by decide +kernel
theorem dX13_needs_1 : decode cX13_needs 1 = .ok (.iconst 0, 1) := by decide +kernel
theorem dX13_needs_2 : decode cX13_needs 2 = .ok (.putfield 1, 3) := by decide +kernel
theorem dX13_needs_5 : decode cX13_needs 5 = .ok (.iconst 0, 1) := by decide +kernel
theorem dX13_needs_6 : decode cX13_needs 6 = .ok (.istore_n 2, 1) := by decide +kernel
theorem dX13_needs_7 : decode cX13_needs 7 = .ok (.iconst 0, 1) := by decide +kernel
theorem dX13_needs_8 : decode cX13_needs 8 = .ok (.istore_n 3, 1) := by decide +kernel
theorem dX13_needs_9 : decode cX13_needs 9 = .ok (.iload_n 3, 1) := by decide +kernel
theorem dX13_needs_10 : decode cX13_needs 10 = .ok (.aload_n 0, 1) := by decide +kernel
theorem dX13_needs_11 : decode cX13_needs 11 = .ok (.invokevirtual 296, 3) := by decide +kernel
theorem dX13_needs_14 : decode cX13_needs 14 = .ok (.if_icmp .ge 55, 3) := by decide +kernel
theorem dX13_needs_17 : decode cX13_needs 17 = .ok (.iload_n 1, 1) := by decide +kernel
theorem dX13_needs_18 : decode cX13_needs 18 = .ok (.ifCond .ne 17, 3) := by decide +kernel
theorem dX13_needs_21 : decode cX13_needs 21 = .ok (.aload_n 0, 1) := by decide +kernel
theorem dX13_needs_22 : decode cX13_needs 22 = .ok (.iconst 0, 1) := by decide +kernel
theorem dX13_needs_23 : decode cX13_needs 23 = .ok (.iload_n 3, 1) := by decide +kernel
theorem dX13_needs_24 : decode cX13_needs 24 = .ok (.aload_n 0, 1) := by decide +kernel
theorem dX13_needs_25 : decode cX13_needs 25 = .ok (.iconst 0, 1) := by decide +kernel
theorem dX13_needs_26 : decode cX13_needs 26 = .ok (.invokevirtual 349, 3) := by decide +kernel
theorem dX13_needs_29 : decode cX13_needs 29 = .ok (.invokevirtual 329, 3) := by decide +kernel
theorem dX13_needs_32 : decode cX13_needs 32 = .ok (.goto 14, 3) := by decide +kernel
theorem dX13_needs_35 : decode cX13_needs 35 = .ok (.aload_n 0, 1) := by decide +kernel
theorem dX13_needs_36 : decode cX13_needs 36 = .ok (.iconst 0, 1) := by decide +kernel
theorem dX13_needs_37 : decode cX13_needs 37 = .ok (.iload_n 3, 1) := by decide +kernel
theorem dX13_needs_38 : decode cX13_needs 38 = .ok (.aload_n 0, 1) := by decide +kernel
theorem dX13_needs_39 : decode cX13_needs 39 = .ok (.iconst 0, 1) := by decide +kernel
theorem dX13_needs_40 : decode cX13_needs 40 = .ok (.invokevirtual 349, 3) := by decide +kernel
theorem dX13_needs_43 : decode cX13_needs 43 = .ok (.invokevirtual 333, 3) := by decide +kernel
theorem dX13_needs_46 : decode cX13_needs 46 = .ok (.istore 4, 2) := by decide +kernel
theorem dX13_needs_48 : decode cX13_needs 48 = .ok (.iload_n 2, 1) := by decide +kernel
theorem dX13_needs_49 : decode cX13_needs 49 = .ok (.iload 4, 2) := by decide +kernel
theorem dX13_needs_51 : decode cX13_needs 51 = .ok (.ifCond .eq 9, 3) := by decide +kernel
theorem dX13_needs_54 : decode cX13_needs 54 = .ok (.iconst 1, 1) := by decide +kernel
theorem dX13_needs_55 : decode cX13_needs 55 = .ok (.iload_n 3, 1) := by decide +kernel
theorem dX13_needs_56 : decode cX13_needs 56 = .ok (.ishl, 1) := by decide +kernel
theorem dX13_needs_57 : decode cX13_needs 57 = .ok (.goto 4, 3) := by decide +kernel
theorem dX13_needs_60 : decode cX13_needs 60 = .ok (.iconst 0, 1) := by decide +kernel
theorem dX13_needs_61 : decode cX13_needs 61 = .ok (.ior, 1) := by decide +kernel
theorem dX13_needs_62 : decode cX13_needs 62 = .ok (.istore_n 2, 1) := by decide +kernel
theorem dX13_needs_63 : decode cX13_needs 63 = .ok (.iinc 3 1, 3) := by decide +kernel
theorem dX13_needs_66 : decode cX13_needs 66 = .ok (.goto (-57), 3) := by decide +kernel
theorem dX13_needs_69 : decode cX13_needs 69 = .ok (.iload_n 1, 1) := by decide +kernel
theorem dX13_needs_70 : decode cX13_needs 70 = .ok (.iconst 0, 1) := by decide +kernel
theorem dX13_needs_71 : decode cX13_needs 71 = .ok (.iconst 1, 1) := by decide +kernel
theorem dX13_needs_72 : decode cX13_needs 72 = .ok (.invokestatic 339, 3) := by decide +kernel
theorem dX13_needs_75 : decode cX13_needs 75 = .ok (.ifCond .eq 7, 3) := by decide +kernel
theorem dX13_needs_78 : decode cX13_needs 78 = .ok (.iload_n 2, 1) := by decide +kernel
theorem dX13_needs_79 : decode cX13_needs 79 = .ok (.goto 4, 3) := by decide +kernel
theorem dX13_needs_82 : decode cX13_needs 82 = .ok (.iconst (-1), 1) := by decide +kernel
theorem dX13_needs_83 : decode cX13_needs 83 = .ok (.ireturn, 1) := by decide +kernel
theorem dX13_nearOf_0 : decode cX13_nearOf 0 = .ok (.iconst 0, 1) := by decide +kernel
theorem dX13_nearOf_1 : decode cX13_nearOf 1 = .ok (.istore_n 3, 1) := by decide +kernel
theorem dX13_nearOf_2 : decode cX13_nearOf 2 = .ok (.iload_n 3, 1) := by decide +kernel
theorem dX13_nearOf_3 : decode cX13_nearOf 3 = .ok (.bipush 36, 2) := by decide +kernel
theorem dX13_nearOf_5 : decode cX13_nearOf 5 = .ok (.if_icmp .ge 100, 3) := by decide +kernel
theorem dX13_nearOf_8 : decode cX13_nearOf 8 = .ok (.iload_n 3, 1) := by decide +kernel
theorem dX13_nearOf_9 : decode cX13_nearOf 9 = .ok (.bipush 6, 2) := by decide +kernel
theorem dX13_nearOf_11 : decode cX13_nearOf 11 = .ok (.idiv, 1) := by decide +kernel
theorem dX13_nearOf_12 : decode cX13_nearOf 12 = .ok (.istore 4, 2) := by decide +kernel
theorem dX13_nearOf_14 : decode cX13_nearOf 14 = .ok (.iload_n 3, 1) := by decide +kernel
theorem dX13_nearOf_15 : decode cX13_nearOf 15 = .ok (.bipush 6, 2) := by decide +kernel
theorem dX13_nearOf_17 : decode cX13_nearOf 17 = .ok (.irem, 1) := by decide +kernel
theorem dX13_nearOf_18 : decode cX13_nearOf 18 = .ok (.istore 5, 2) := by decide +kernel
theorem dX13_nearOf_20 : decode cX13_nearOf 20 = .ok (.iload 4, 2) := by decide +kernel
theorem dX13_nearOf_22 : decode cX13_nearOf 22 = .ok (.aload_n 0, 1) := by decide +kernel
theorem dX13_nearOf_23 : decode cX13_nearOf 23 = .ok (.invokevirtual 296, 3) := by decide +kernel
theorem dX13_nearOf_26 : decode cX13_nearOf 26 = .ok (.if_icmp .ge 42, 3) := by decide +kernel
theorem dX13_nearOf_29 : decode cX13_nearOf 29 = .ok (.iload 5, 2) := by decide +kernel
theorem dX13_nearOf_31 : decode cX13_nearOf 31 = .ok (.aload_n 0, 1) := by decide +kernel
theorem dX13_nearOf_32 : decode cX13_nearOf 32 = .ok (.invokevirtual 296, 3) := by decide +kernel
theorem dX13_nearOf_35 : decode cX13_nearOf 35 = .ok (.if_icmp .ge 33, 3) := by decide +kernel
theorem dX13_nearOf_38 : decode cX13_nearOf 38 = .ok (.aload_n 0, 1) := by decide +kernel
theorem dX13_nearOf_39 : decode cX13_nearOf 39 = .ok (.iload 4, 2) := by decide +kernel
theorem dX13_nearOf_41 : decode cX13_nearOf 41 = .ok (.bipush 12, 2) := by decide +kernel
theorem dX13_nearOf_43 : decode cX13_nearOf 43 = .ok (.invokevirtual 300, 3) := by decide +kernel
theorem dX13_nearOf_46 : decode cX13_nearOf 46 = .ok (.iload 5, 2) := by decide +kernel
theorem dX13_nearOf_48 : decode cX13_nearOf 48 = .ok (.if_icmp .eq 16, 3) := by decide +kernel
theorem dX13_nearOf_51 : decode cX13_nearOf 51 = .ok (.aload_n 0, 1) := by decide +kernel
theorem dX13_nearOf_52 : decode cX13_nearOf 52 = .ok (.iload 5, 2) := by decide +kernel
theorem dX13_nearOf_54 : decode cX13_nearOf 54 = .ok (.bipush 12, 2) := by decide +kernel
theorem dX13_nearOf_56 : decode cX13_nearOf 56 = .ok (.invokevirtual 300, 3) := by decide +kernel
theorem dX13_nearOf_59 : decode cX13_nearOf 59 = .ok (.iload 4, 2) := by decide +kernel
theorem dX13_nearOf_61 : decode cX13_nearOf 61 = .ok (.if_icmp .ne 7, 3) := by decide +kernel
theorem dX13_nearOf_64 : decode cX13_nearOf 64 = .ok (.iconst 1, 1) := by decide +kernel
theorem dX13_nearOf_65 : decode cX13_nearOf 65 = .ok (.goto 4, 3) := by decide +kernel
theorem dX13_nearOf_68 : decode cX13_nearOf 68 = .ok (.iconst 0, 1) := by decide +kernel
theorem dX13_nearOf_69 : decode cX13_nearOf 69 = .ok (.istore 6, 2) := by decide +kernel
theorem dX13_nearOf_71 : decode cX13_nearOf 71 = .ok (.aload_n 0, 1) := by decide +kernel
theorem dX13_nearOf_72 : decode cX13_nearOf 72 = .ok (.getfield 133, 3) := by decide +kernel
theorem dX13_nearOf_75 : decode cX13_nearOf 75 = .ok (.iload_n 3, 1) := by decide +kernel
theorem dX13_nearOf_76 : decode cX13_nearOf 76 = .ok (.iload 4, 2) := by decide +kernel
theorem dX13_nearOf_78 : decode cX13_nearOf 78 = .ok (.iload 5, 2) := by decide +kernel
theorem dX13_nearOf_80 : decode cX13_nearOf 80 = .ok (.if_icmp .ne 7, 3) := by decide +kernel
theorem dX13_nearOf_83 : decode cX13_nearOf 83 = .ok (.iconst 0, 1) := by decide +kernel
theorem dX13_nearOf_84 : decode cX13_nearOf 84 = .ok (.goto 14, 3) := by decide +kernel
theorem dX13_nearOf_87 : decode cX13_nearOf 87 = .ok (.iload 6, 2) := by decide +kernel
theorem dX13_nearOf_89 : decode cX13_nearOf 89 = .ok (.ifCond .eq 7, 3) := by decide +kernel
theorem dX13_nearOf_92 : decode cX13_nearOf 92 = .ok (.iconst 1, 1) := by decide +kernel
theorem dX13_nearOf_93 : decode cX13_nearOf 93 = .ok (.goto 5, 3) := by decide +kernel
theorem dX13_nearOf_96 : decode cX13_nearOf 96 = .ok (.bipush 99, 2) := by decide +kernel
theorem dX13_nearOf_98 : decode cX13_nearOf 98 = .ok (.iastore, 1) := by decide +kernel
theorem dX13_nearOf_99 : decode cX13_nearOf 99 = .ok (.iinc 3 1, 3) := by decide +kernel
theorem dX13_nearOf_102 : decode cX13_nearOf 102 = .ok (.goto (-100), 3) := by decide +kernel
theorem dX13_nearOf_105 : decode cX13_nearOf 105 = .ok (.iconst 0, 1) := by decide +kernel
theorem dX13_nearOf_106 : decode cX13_nearOf 106 = .ok (.istore_n 3, 1) := by decide +kernel
theorem dX13_nearOf_107 : decode cX13_nearOf 107 = .ok (.iload_n 3, 1) := by decide +kernel
theorem dX13_nearOf_108 : decode cX13_nearOf 108 = .ok (.bipush 6, 2) := by decide +kernel
theorem dX13_nearOf_110 : decode cX13_nearOf 110 = .ok (.if_icmp .ge 89, 3) := by decide +kernel
theorem dX13_nearOf_113 : decode cX13_nearOf 113 = .ok (.iconst 0, 1) := by decide +kernel
theorem dX13_nearOf_114 : decode cX13_nearOf 114 = .ok (.istore 4, 2) := by decide +kernel
theorem dX13_nearOf_116 : decode cX13_nearOf 116 = .ok (.iload 4, 2) := by decide +kernel
theorem dX13_nearOf_118 : decode cX13_nearOf 118 = .ok (.bipush 36, 2) := by decide +kernel
theorem dX13_nearOf_120 : decode cX13_nearOf 120 = .ok (.if_icmp .ge 73, 3) := by decide +kernel
theorem dX13_nearOf_123 : decode cX13_nearOf 123 = .ok (.aload_n 0, 1) := by decide +kernel
theorem dX13_nearOf_124 : decode cX13_nearOf 124 = .ok (.getfield 133, 3) := by decide +kernel
theorem dX13_nearOf_127 : decode cX13_nearOf 127 = .ok (.iload 4, 2) := by decide +kernel
theorem dX13_nearOf_129 : decode cX13_nearOf 129 = .ok (.bipush 6, 2) := by decide +kernel
theorem dX13_nearOf_131 : decode cX13_nearOf 131 = .ok (.idiv, 1) := by decide +kernel
theorem dX13_nearOf_132 : decode cX13_nearOf 132 = .ok (.bipush 6, 2) := by decide +kernel
theorem dX13_nearOf_134 : decode cX13_nearOf 134 = .ok (.imul, 1) := by decide +kernel
theorem dX13_nearOf_135 : decode cX13_nearOf 135 = .ok (.iload_n 3, 1) := by decide +kernel
theorem dX13_nearOf_136 : decode cX13_nearOf 136 = .ok (.iadd, 1) := by decide +kernel
theorem dX13_nearOf_137 : decode cX13_nearOf 137 = .ok (.iaload, 1) := by decide +kernel
theorem dX13_nearOf_138 : decode cX13_nearOf 138 = .ok (.aload_n 0, 1) := by decide +kernel
theorem dX13_nearOf_139 : decode cX13_nearOf 139 = .ok (.getfield 133, 3) := by decide +kernel
theorem dX13_nearOf_142 : decode cX13_nearOf 142 = .ok (.bipush 6, 2) := by decide +kernel
theorem dX13_nearOf_144 : decode cX13_nearOf 144 = .ok (.iload_n 3, 1) := by decide +kernel
theorem dX13_nearOf_145 : decode cX13_nearOf 145 = .ok (.imul, 1) := by decide +kernel
theorem dX13_nearOf_146 : decode cX13_nearOf 146 = .ok (.iload 4, 2) := by decide +kernel
theorem dX13_nearOf_148 : decode cX13_nearOf 148 = .ok (.bipush 6, 2) := by decide +kernel
theorem dX13_nearOf_150 : decode cX13_nearOf 150 = .ok (.irem, 1) := by decide +kernel
theorem dX13_nearOf_151 : decode cX13_nearOf 151 = .ok (.iadd, 1) := by decide +kernel
theorem dX13_nearOf_152 : decode cX13_nearOf 152 = .ok (.iaload, 1) := by decide +kernel
theorem dX13_nearOf_153 : decode cX13_nearOf 153 = .ok (.iadd, 1) := by decide +kernel
theorem dX13_nearOf_154 : decode cX13_nearOf 154 = .ok (.istore 5, 2) := by decide +kernel
theorem dX13_nearOf_156 : decode cX13_nearOf 156 = .ok (.aload_n 0, 1) := by decide +kernel
theorem dX13_nearOf_157 : decode cX13_nearOf 157 = .ok (.getfield 133, 3) := by decide +kernel
theorem dX13_nearOf_160 : decode cX13_nearOf 160 = .ok (.iload 4, 2) := by decide +kernel
theorem dX13_nearOf_162 : decode cX13_nearOf 162 = .ok (.iload 5, 2) := by decide +kernel
theorem dX13_nearOf_164 : decode cX13_nearOf 164 = .ok (.aload_n 0, 1) := by decide +kernel
theorem dX13_nearOf_165 : decode cX13_nearOf 165 = .ok (.getfield 133, 3) := by decide +kernel
theorem dX13_nearOf_168 : decode cX13_nearOf 168 = .ok (.iload 4, 2) := by decide +kernel
theorem dX13_nearOf_170 : decode cX13_nearOf 170 = .ok (.iaload, 1) := by decide +kernel
theorem dX13_nearOf_171 : decode cX13_nearOf 171 = .ok (.if_icmp .ge 8, 3) := by decide +kernel
theorem dX13_nearOf_174 : decode cX13_nearOf 174 = .ok (.iload 5, 2) := by decide +kernel
theorem dX13_nearOf_176 : decode cX13_nearOf 176 = .ok (.goto 10, 3) := by decide +kernel
theorem dX13_nearOf_179 : decode cX13_nearOf 179 = .ok (.aload_n 0, 1) := by decide +kernel
theorem dX13_nearOf_180 : decode cX13_nearOf 180 = .ok (.getfield 133, 3) := by decide +kernel
theorem dX13_nearOf_183 : decode cX13_nearOf 183 = .ok (.iload 4, 2) := by decide +kernel
theorem dX13_nearOf_185 : decode cX13_nearOf 185 = .ok (.iaload, 1) := by decide +kernel
theorem dX13_nearOf_186 : decode cX13_nearOf 186 = .ok (.iastore, 1) := by decide +kernel
theorem dX13_nearOf_187 : decode cX13_nearOf 187 = .ok (.iinc 4 1, 3) := by decide +kernel
theorem dX13_nearOf_190 : decode cX13_nearOf 190 = .ok (.goto (-74), 3) := by decide +kernel
theorem dX13_nearOf_193 : decode cX13_nearOf 193 = .ok (.iinc 3 1, 3) := by decide +kernel
theorem dX13_nearOf_196 : decode cX13_nearOf 196 = .ok (.goto (-89), 3) := by decide +kernel
theorem dX13_nearOf_199 : decode cX13_nearOf 199 = .ok (.aload_n 0, 1) := by decide +kernel
theorem dX13_nearOf_200 : decode cX13_nearOf 200 = .ok (.getfield 133, 3) := by decide +kernel
theorem dX13_nearOf_203 : decode cX13_nearOf 203 = .ok (.bipush 6, 2) := by decide +kernel
theorem dX13_nearOf_205 : decode cX13_nearOf 205 = .ok (.iload_n 1, 1) := by decide +kernel
theorem dX13_nearOf_206 : decode cX13_nearOf 206 = .ok (.imul, 1) := by decide +kernel
theorem dX13_nearOf_207 : decode cX13_nearOf 207 = .ok (.iload_n 2, 1) := by decide +kernel
theorem dX13_nearOf_208 : decode cX13_nearOf 208 = .ok (.iadd, 1) := by decide +kernel
theorem dX13_nearOf_209 : decode cX13_nearOf 209 = .ok (.iaload, 1) := by decide +kernel
theorem dX13_nearOf_210 : decode cX13_nearOf 210 = .ok (.ireturn, 1) := by decide +kernel
theorem dX13_near_0 : decode cX13_near 0 = .ok (.aload_n 0, 1) := by decide +kernel
theorem dX13_near_1 : decode cX13_near 1 = .ok (.iconst 0, 1) := by decide +kernel
theorem dX13_near_2 : decode cX13_near 2 = .ok (.putfield 1, 3) := by decide +kernel
theorem dX13_near_5 : decode cX13_near 5 = .ok (.aload_n 0, 1) := by decide +kernel
theorem dX13_near_6 : decode cX13_near 6 = .ok (.iload_n 1, 1) := by decide +kernel
theorem dX13_near_7 : decode cX13_near 7 = .ok (.invokevirtual 336, 3) := by decide +kernel
theorem dX13_near_10 : decode cX13_near 10 = .ok (.ifCond .eq 20, 3) := by decide +kernel
theorem dX13_near_13 : decode cX13_near 13 = .ok (.aload_n 0, 1) := by decide +kernel
theorem dX13_near_14 : decode cX13_near 14 = .ok (.iload_n 2, 1) := by decide +kernel
theorem dX13_near_15 : decode cX13_near 15 = .ok (.invokevirtual 336, 3) := by decide +kernel
theorem dX13_near_18 : decode cX13_near 18 = .ok (.ifCond .eq 12, 3) := by decide +kernel
theorem dX13_near_21 : decode cX13_near 21 = .ok (.aload_n 0, 1) := by decide +kernel
theorem dX13_near_22 : decode cX13_near 22 = .ok (.iload_n 1, 1) := by decide +kernel
theorem dX13_near_23 : decode cX13_near 23 = .ok (.iload_n 2, 1) := by decide +kernel
theorem dX13_near_24 : decode cX13_near 24 = .ok (.invokevirtual 352, 3) := by decide +kernel
theorem dX13_near_27 : decode cX13_near 27 = .ok (.goto 4, 3) := by decide +kernel
theorem dX13_near_30 : decode cX13_near 30 = .ok (.iconst (-1), 1) := by decide +kernel
theorem dX13_near_31 : decode cX13_near 31 = .ok (.ireturn, 1) := by decide +kernel
theorem dX13_between_0 : decode cX13_between 0 = .ok (.aload_n 0, 1) := by decide +kernel
theorem dX13_between_1 : decode cX13_between 1 = .ok (.iload_n 1, 1) := by decide +kernel
theorem dX13_between_2 : decode cX13_between 2 = .ok (.iconst 3, 1) := by decide +kernel
theorem dX13_between_3 : decode cX13_between 3 = .ok (.invokevirtual 300, 3) := by decide +kernel
theorem dX13_between_6 : decode cX13_between 6 = .ok (.istore_n 3, 1) := by decide +kernel
theorem dX13_between_7 : decode cX13_between 7 = .ok (.aload_n 0, 1) := by decide +kernel
theorem dX13_between_8 : decode cX13_between 8 = .ok (.iload_n 2, 1) := by decide +kernel
theorem dX13_between_9 : decode cX13_between 9 = .ok (.iconst 3, 1) := by decide +kernel
theorem dX13_between_10 : decode cX13_between 10 = .ok (.invokevirtual 300, 3) := by decide +kernel
theorem dX13_between_13 : decode cX13_between 13 = .ok (.istore 4, 2) := by decide +kernel
theorem dX13_between_15 : decode cX13_between 15 = .ok (.iconst 0, 1) := by decide +kernel
theorem dX13_between_16 : decode cX13_between 16 = .ok (.istore 5, 2) := by decide +kernel
theorem dX13_between_18 : decode cX13_between 18 = .ok (.iconst 0, 1) := by decide +kernel
theorem dX13_between_19 : decode cX13_between 19 = .ok (.istore 6, 2) := by decide +kernel
theorem dX13_between_21 : decode cX13_between 21 = .ok (.iload 6, 2) := by decide +kernel
theorem dX13_between_23 : decode cX13_between 23 = .ok (.aload_n 0, 1) := by decide +kernel
theorem dX13_between_24 : decode cX13_between 24 = .ok (.getfield 99, 3) := by decide +kernel
theorem dX13_between_27 : decode cX13_between 27 = .ok (.iconst 1, 1) := by decide +kernel
theorem dX13_between_28 : decode cX13_between 28 = .ok (.iaload, 1) := by decide +kernel
theorem dX13_between_29 : decode cX13_between 29 = .ok (.if_icmp .ge 84, 3) := by decide +kernel
theorem dX13_between_32 : decode cX13_between 32 = .ok (.aload_n 0, 1) := by decide +kernel
theorem dX13_between_33 : decode cX13_between 33 = .ok (.getfield 99, 3) := by decide +kernel
theorem dX13_between_36 : decode cX13_between 36 = .ok (.bipush 91, 2) := by decide +kernel
theorem dX13_between_38 : decode cX13_between 38 = .ok (.iconst 2, 1) := by decide +kernel
theorem dX13_between_39 : decode cX13_between 39 = .ok (.iload 6, 2) := by decide +kernel
theorem dX13_between_41 : decode cX13_between 41 = .ok (.imul, 1) := by decide +kernel
theorem dX13_between_42 : decode cX13_between 42 = .ok (.iadd, 1) := by decide +kernel
theorem dX13_between_43 : decode cX13_between 43 = .ok (.iaload, 1) := by decide +kernel
theorem dX13_between_44 : decode cX13_between 44 = .ok (.istore 7, 2) := by decide +kernel
theorem dX13_between_46 : decode cX13_between 46 = .ok (.iload_n 3, 1) := by decide +kernel
theorem dX13_between_47 : decode cX13_between 47 = .ok (.iload 7, 2) := by decide +kernel
theorem dX13_between_49 : decode cX13_between 49 = .ok (.if_icmp .ge 10, 3) := by decide +kernel
theorem dX13_between_52 : decode cX13_between 52 = .ok (.iload 7, 2) := by decide +kernel
theorem dX13_between_54 : decode cX13_between 54 = .ok (.iload 4, 2) := by decide +kernel
theorem dX13_between_56 : decode cX13_between 56 = .ok (.if_icmp .lt 16, 3) := by decide +kernel
theorem dX13_between_59 : decode cX13_between 59 = .ok (.iload 4, 2) := by decide +kernel
theorem dX13_between_61 : decode cX13_between 61 = .ok (.iload 7, 2) := by decide +kernel
theorem dX13_between_63 : decode cX13_between 63 = .ok (.if_icmp .ge 13, 3) := by decide +kernel
theorem dX13_between_66 : decode cX13_between 66 = .ok (.iload 7, 2) := by decide +kernel
theorem dX13_between_68 : decode cX13_between 68 = .ok (.iload_n 3, 1) := by decide +kernel
theorem dX13_between_69 : decode cX13_between 69 = .ok (.if_icmp .ge 7, 3) := by decide +kernel
theorem dX13_between_72 : decode cX13_between 72 = .ok (.iconst 1, 1) := by decide +kernel
theorem dX13_between_73 : decode cX13_between 73 = .ok (.goto 4, 3) := by decide +kernel
theorem dX13_between_76 : decode cX13_between 76 = .ok (.iconst 0, 1) := by decide +kernel
theorem dX13_between_77 : decode cX13_between 77 = .ok (.istore 8, 2) := by decide +kernel
theorem dX13_between_79 : decode cX13_between 79 = .ok (.iload 5, 2) := by decide +kernel
theorem dX13_between_81 : decode cX13_between 81 = .ok (.iload 8, 2) := by decide +kernel
theorem dX13_between_83 : decode cX13_between 83 = .ok (.ifCond .eq 20, 3) := by decide +kernel
theorem dX13_between_86 : decode cX13_between 86 = .ok (.aload_n 0, 1) := by decide +kernel
theorem dX13_between_87 : decode cX13_between 87 = .ok (.getfield 99, 3) := by decide +kernel
theorem dX13_between_90 : decode cX13_between 90 = .ok (.bipush 91, 2) := by decide +kernel
theorem dX13_between_92 : decode cX13_between 92 = .ok (.iconst 2, 1) := by decide +kernel
theorem dX13_between_93 : decode cX13_between 93 = .ok (.iload 6, 2) := by decide +kernel
theorem dX13_between_95 : decode cX13_between 95 = .ok (.imul, 1) := by decide +kernel
theorem dX13_between_96 : decode cX13_between 96 = .ok (.iadd, 1) := by decide +kernel
theorem dX13_between_97 : decode cX13_between 97 = .ok (.iconst 1, 1) := by decide +kernel
theorem dX13_between_98 : decode cX13_between 98 = .ok (.iadd, 1) := by decide +kernel
theorem dX13_between_99 : decode cX13_between 99 = .ok (.iaload, 1) := by decide +kernel
theorem dX13_between_100 : decode cX13_between 100 = .ok (.goto 4, 3) := by decide +kernel
theorem dX13_between_103 : decode cX13_between 103 = .ok (.iconst 0, 1) := by decide +kernel
theorem dX13_between_104 : decode cX13_between 104 = .ok (.iadd, 1) := by decide +kernel
theorem dX13_between_105 : decode cX13_between 105 = .ok (.istore 5, 2) := by decide +kernel
theorem dX13_between_107 : decode cX13_between 107 = .ok (.iinc 6 1, 3) := by decide +kernel
theorem dX13_between_110 : decode cX13_between 110 = .ok (.goto (-89), 3) := by decide +kernel
theorem dX13_between_113 : decode cX13_between 113 = .ok (.iload 5, 2) := by decide +kernel
theorem dX13_between_115 : decode cX13_between 115 = .ok (.ireturn, 1) := by decide +kernel
theorem dX13_digOf_0 : decode cX13_digOf 0 = .ok (.aload_n 0, 1) := by decide +kernel
theorem dX13_digOf_1 : decode cX13_digOf 1 = .ok (.iload_n 1, 1) := by decide +kernel
theorem dX13_digOf_2 : decode cX13_digOf 2 = .ok (.iconst 3, 1) := by decide +kernel
theorem dX13_digOf_3 : decode cX13_digOf 3 = .ok (.invokevirtual 300, 3) := by decide +kernel
theorem dX13_digOf_6 : decode cX13_digOf 6 = .ok (.aload_n 0, 1) := by decide +kernel
theorem dX13_digOf_7 : decode cX13_digOf 7 = .ok (.iload_n 2, 1) := by decide +kernel
theorem dX13_digOf_8 : decode cX13_digOf 8 = .ok (.iconst 3, 1) := by decide +kernel
theorem dX13_digOf_9 : decode cX13_digOf 9 = .ok (.invokevirtual 300, 3) := by decide +kernel
theorem dX13_digOf_12 : decode cX13_digOf 12 = .ok (.isub, 1) := by decide +kernel
theorem dX13_digOf_13 : decode cX13_digOf 13 = .ok (.istore_n 3, 1) := by decide +kernel
theorem dX13_digOf_14 : decode cX13_digOf 14 = .ok (.iload_n 3, 1) := by decide +kernel
theorem dX13_digOf_15 : decode cX13_digOf 15 = .ok (.ifCond .ge 8, 3) := by decide +kernel
theorem dX13_digOf_18 : decode cX13_digOf 18 = .ok (.iload_n 3, 1) := by decide +kernel
theorem dX13_digOf_19 : decode cX13_digOf 19 = .ok (.ineg, 1) := by decide +kernel
theorem dX13_digOf_20 : decode cX13_digOf 20 = .ok (.goto 4, 3) := by decide +kernel
theorem dX13_digOf_23 : decode cX13_digOf 23 = .ok (.iload_n 3, 1) := by decide +kernel
theorem dX13_digOf_24 : decode cX13_digOf 24 = .ok (.aload_n 0, 1) := by decide +kernel
theorem dX13_digOf_25 : decode cX13_digOf 25 = .ok (.iload_n 1, 1) := by decide +kernel
theorem dX13_digOf_26 : decode cX13_digOf 26 = .ok (.iload_n 2, 1) := by decide +kernel
theorem dX13_digOf_27 : decode cX13_digOf 27 = .ok (.invokevirtual 355, 3) := by decide +kernel
theorem dX13_digOf_30 : decode cX13_digOf 30 = .ok (.iadd, 1) := by decide +kernel
theorem dX13_digOf_31 : decode cX13_digOf 31 = .ok (.ireturn, 1) := by decide +kernel
theorem dX13_dig_0 : decode cX13_dig 0 = .ok (.aload_n 0, 1) := by decide +kernel
theorem dX13_dig_1 : decode cX13_dig 1 = .ok (.iconst 0, 1) := by decide +kernel
theorem dX13_dig_2 : decode cX13_dig 2 = .ok (.putfield 1, 3) := by decide +kernel
theorem dX13_dig_5 : decode cX13_dig 5 = .ok (.aload_n 0, 1) := by decide +kernel
theorem dX13_dig_6 : decode cX13_dig 6 = .ok (.iload_n 1, 1) := by decide +kernel
theorem dX13_dig_7 : decode cX13_dig 7 = .ok (.invokevirtual 336, 3) := by decide +kernel
theorem dX13_dig_10 : decode cX13_dig 10 = .ok (.ifCond .eq 25, 3) := by decide +kernel
theorem dX13_dig_13 : decode cX13_dig 13 = .ok (.aload_n 0, 1) := by decide +kernel
theorem dX13_dig_14 : decode cX13_dig 14 = .ok (.iload_n 2, 1) := by decide +kernel
theorem dX13_dig_15 : decode cX13_dig 15 = .ok (.invokevirtual 336, 3) := by decide +kernel
theorem dX13_dig_18 : decode cX13_dig 18 = .ok (.ifCond .eq 17, 3) := by decide +kernel
theorem dX13_dig_21 : decode cX13_dig 21 = .ok (.iload_n 1, 1) := by decide +kernel
theorem dX13_dig_22 : decode cX13_dig 22 = .ok (.iload_n 2, 1) := by decide +kernel
theorem dX13_dig_23 : decode cX13_dig 23 = .ok (.if_icmp .eq 12, 3) := by decide +kernel
theorem dX13_dig_26 : decode cX13_dig 26 = .ok (.aload_n 0, 1) := by decide +kernel
theorem dX13_dig_27 : decode cX13_dig 27 = .ok (.iload_n 1, 1) := by decide +kernel
theorem dX13_dig_28 : decode cX13_dig 28 = .ok (.iload_n 2, 1) := by decide +kernel
theorem dX13_dig_29 : decode cX13_dig 29 = .ok (.invokevirtual 358, 3) := by decide +kernel
theorem dX13_dig_32 : decode cX13_dig 32 = .ok (.goto 4, 3) := by decide +kernel
theorem dX13_dig_35 : decode cX13_dig 35 = .ok (.iconst (-1), 1) := by decide +kernel
theorem dX13_dig_36 : decode cX13_dig 36 = .ok (.ireturn, 1) := by decide +kernel
theorem dX13_mayWed_0 : decode cX13_mayWed 0 = .ok (.iload_n 2, 1) := by decide +kernel
theorem dX13_mayWed_1 : decode cX13_mayWed 1 = .ok (.iload_n 3, 1) := by decide +kernel
theorem dX13_mayWed_2 : decode cX13_mayWed 2 = .ok (.if_icmp .eq 75, 3) := by decide +kernel
theorem dX13_mayWed_5 : decode cX13_mayWed 5 = .ok (.aload_n 0, 1) := by decide +kernel
theorem dX13_mayWed_6 : decode cX13_mayWed 6 = .ok (.iload_n 2, 1) := by decide +kernel
theorem dX13_mayWed_7 : decode cX13_mayWed 7 = .ok (.invokevirtual 316, 3) := by decide +kernel
theorem dX13_mayWed_10 : decode cX13_mayWed 10 = .ok (.iconst 3, 1) := by decide +kernel
theorem dX13_mayWed_11 : decode cX13_mayWed 11 = .ok (.if_icmp .eq 66, 3) := by decide +kernel
theorem dX13_mayWed_14 : decode cX13_mayWed 14 = .ok (.aload_n 0, 1) := by decide +kernel
theorem dX13_mayWed_15 : decode cX13_mayWed 15 = .ok (.iload_n 3, 1) := by decide +kernel
theorem dX13_mayWed_16 : decode cX13_mayWed 16 = .ok (.invokevirtual 316, 3) := by decide +kernel
theorem dX13_mayWed_19 : decode cX13_mayWed 19 = .ok (.iconst 3, 1) := by decide +kernel
theorem dX13_mayWed_20 : decode cX13_mayWed 20 = .ok (.if_icmp .eq 57, 3) := by decide +kernel
theorem dX13_mayWed_23 : decode cX13_mayWed 23 = .ok (.aload_n 0, 1) := by decide +kernel
theorem dX13_mayWed_24 : decode cX13_mayWed 24 = .ok (.iload_n 1, 1) := by decide +kernel
theorem dX13_mayWed_25 : decode cX13_mayWed 25 = .ok (.iload_n 2, 1) := by decide +kernel
theorem dX13_mayWed_26 : decode cX13_mayWed 26 = .ok (.invokevirtual 303, 3) := by decide +kernel
theorem dX13_mayWed_29 : decode cX13_mayWed 29 = .ok (.ifCond .ge 48, 3) := by decide +kernel
theorem dX13_mayWed_32 : decode cX13_mayWed 32 = .ok (.aload_n 0, 1) := by decide +kernel
theorem dX13_mayWed_33 : decode cX13_mayWed 33 = .ok (.iload_n 2, 1) := by decide +kernel
theorem dX13_mayWed_34 : decode cX13_mayWed 34 = .ok (.invokevirtual 313, 3) := by decide +kernel
theorem dX13_mayWed_37 : decode cX13_mayWed 37 = .ok (.aload_n 0, 1) := by decide +kernel
theorem dX13_mayWed_38 : decode cX13_mayWed 38 = .ok (.iload_n 3, 1) := by decide +kernel
theorem dX13_mayWed_39 : decode cX13_mayWed 39 = .ok (.invokevirtual 313, 3) := by decide +kernel
theorem dX13_mayWed_42 : decode cX13_mayWed 42 = .ok (.if_icmp .lt 35, 3) := by decide +kernel
theorem dX13_mayWed_45 : decode cX13_mayWed 45 = .ok (.aload_n 0, 1) := by decide +kernel
theorem dX13_mayWed_46 : decode cX13_mayWed 46 = .ok (.iload_n 3, 1) := by decide +kernel
theorem dX13_mayWed_47 : decode cX13_mayWed 47 = .ok (.invokevirtual 310, 3) := by decide +kernel
theorem dX13_mayWed_50 : decode cX13_mayWed 50 = .ok (.aload_n 0, 1) := by decide +kernel
theorem dX13_mayWed_51 : decode cX13_mayWed 51 = .ok (.iload_n 2, 1) := by decide +kernel
theorem dX13_mayWed_52 : decode cX13_mayWed 52 = .ok (.invokevirtual 313, 3) := by decide +kernel
theorem dX13_mayWed_55 : decode cX13_mayWed 55 = .ok (.if_icmp .le 22, 3) := by decide +kernel
theorem dX13_mayWed_58 : decode cX13_mayWed 58 = .ok (.aload_n 0, 1) := by decide +kernel
theorem dX13_mayWed_59 : decode cX13_mayWed 59 = .ok (.iload_n 2, 1) := by decide +kernel
theorem dX13_mayWed_60 : decode cX13_mayWed 60 = .ok (.iload_n 3, 1) := by decide +kernel
theorem dX13_mayWed_61 : decode cX13_mayWed 61 = .ok (.invokevirtual 352, 3) := by decide +kernel
theorem dX13_mayWed_64 : decode cX13_mayWed 64 = .ok (.aload_n 0, 1) := by decide +kernel
theorem dX13_mayWed_65 : decode cX13_mayWed 65 = .ok (.getfield 99, 3) := by decide +kernel
theorem dX13_mayWed_68 : decode cX13_mayWed 68 = .ok (.iconst 2, 1) := by decide +kernel
theorem dX13_mayWed_69 : decode cX13_mayWed 69 = .ok (.iaload, 1) := by decide +kernel
theorem dX13_mayWed_70 : decode cX13_mayWed 70 = .ok (.if_icmp .le 7, 3) := by decide +kernel
theorem dX13_mayWed_73 : decode cX13_mayWed 73 = .ok (.iconst 1, 1) := by decide +kernel
theorem dX13_mayWed_74 : decode cX13_mayWed 74 = .ok (.goto 4, 3) := by decide +kernel
theorem dX13_mayWed_77 : decode cX13_mayWed 77 = .ok (.iconst 0, 1) := by decide +kernel
theorem dX13_mayWed_78 : decode cX13_mayWed 78 = .ok (.istore 4, 2) := by decide +kernel
theorem dX13_mayWed_80 : decode cX13_mayWed 80 = .ok (.iload_n 3, 1) := by decide +kernel
theorem dX13_mayWed_81 : decode cX13_mayWed 81 = .ok (.istore 5, 2) := by decide +kernel
theorem dX13_mayWed_83 : decode cX13_mayWed 83 = .ok (.iload 5, 2) := by decide +kernel
theorem dX13_mayWed_85 : decode cX13_mayWed 85 = .ok (.ifCond .lt 33, 3) := by decide +kernel
theorem dX13_mayWed_88 : decode cX13_mayWed 88 = .ok (.iload 4, 2) := by decide +kernel
theorem dX13_mayWed_90 : decode cX13_mayWed 90 = .ok (.ifCond .eq 28, 3) := by decide +kernel
theorem dX13_mayWed_93 : decode cX13_mayWed 93 = .ok (.iload 5, 2) := by decide +kernel
theorem dX13_mayWed_95 : decode cX13_mayWed 95 = .ok (.iload_n 2, 1) := by decide +kernel
theorem dX13_mayWed_96 : decode cX13_mayWed 96 = .ok (.if_icmp .eq 7, 3) := by decide +kernel
theorem dX13_mayWed_99 : decode cX13_mayWed 99 = .ok (.iconst 1, 1) := by decide +kernel
theorem dX13_mayWed_100 : decode cX13_mayWed 100 = .ok (.goto 4, 3) := by decide +kernel
theorem dX13_mayWed_103 : decode cX13_mayWed 103 = .ok (.iconst 0, 1) := by decide +kernel
theorem dX13_mayWed_104 : decode cX13_mayWed 104 = .ok (.istore 4, 2) := by decide +kernel
theorem dX13_mayWed_106 : decode cX13_mayWed 106 = .ok (.aload_n 0, 1) := by decide +kernel
theorem dX13_mayWed_107 : decode cX13_mayWed 107 = .ok (.iload_n 1, 1) := by decide +kernel
theorem dX13_mayWed_108 : decode cX13_mayWed 108 = .ok (.iload 5, 2) := by decide +kernel
theorem dX13_mayWed_110 : decode cX13_mayWed 110 = .ok (.invokevirtual 303, 3) := by decide +kernel
theorem dX13_mayWed_113 : decode cX13_mayWed 113 = .ok (.istore 5, 2) := by decide +kernel
theorem dX13_mayWed_115 : decode cX13_mayWed 115 = .ok (.goto (-32), 3) := by decide +kernel
theorem dX13_mayWed_118 : decode cX13_mayWed 118 = .ok (.iload 4, 2) := by decide +kernel
theorem dX13_mayWed_120 : decode cX13_mayWed 120 = .ok (.ifCond .eq 25, 3) := by decide +kernel
theorem dX13_mayWed_123 : decode cX13_mayWed 123 = .ok (.aload_n 0, 1) := by decide +kernel
theorem dX13_mayWed_124 : decode cX13_mayWed 124 = .ok (.iload_n 3, 1) := by decide +kernel
theorem dX13_mayWed_125 : decode cX13_mayWed 125 = .ok (.invokevirtual 316, 3) := by decide +kernel
theorem dX13_mayWed_128 : decode cX13_mayWed 128 = .ok (.iconst 1, 1) := by decide +kernel
theorem dX13_mayWed_129 : decode cX13_mayWed 129 = .ok (.if_icmp .ne 12, 3) := by decide +kernel
theorem dX13_mayWed_132 : decode cX13_mayWed 132 = .ok (.aload_n 0, 1) := by decide +kernel
theorem dX13_mayWed_133 : decode cX13_mayWed 133 = .ok (.iload_n 1, 1) := by decide +kernel
theorem dX13_mayWed_134 : decode cX13_mayWed 134 = .ok (.iload_n 3, 1) := by decide +kernel
theorem dX13_mayWed_135 : decode cX13_mayWed 135 = .ok (.invokevirtual 342, 3) := by decide +kernel
theorem dX13_mayWed_138 : decode cX13_mayWed 138 = .ok (.ifCond .ne 7, 3) := by decide +kernel
theorem dX13_mayWed_141 : decode cX13_mayWed 141 = .ok (.iconst 1, 1) := by decide +kernel
theorem dX13_mayWed_142 : decode cX13_mayWed 142 = .ok (.goto 4, 3) := by decide +kernel
theorem dX13_mayWed_145 : decode cX13_mayWed 145 = .ok (.iconst 0, 1) := by decide +kernel
theorem dX13_mayWed_146 : decode cX13_mayWed 146 = .ok (.ireturn, 1) := by decide +kernel
theorem dX13_mayOf_0 : decode cX13_mayOf 0 = .ok (.iconst 0, 1) := by decide +kernel
theorem dX13_mayOf_1 : decode cX13_mayOf 1 = .ok (.istore_n 3, 1) := by decide +kernel
theorem dX13_mayOf_2 : decode cX13_mayOf 2 = .ok (.iconst 0, 1) := by decide +kernel
theorem dX13_mayOf_3 : decode cX13_mayOf 3 = .ok (.istore 4, 2) := by decide +kernel
theorem dX13_mayOf_5 : decode cX13_mayOf 5 = .ok (.iload 4, 2) := by decide +kernel
theorem dX13_mayOf_7 : decode cX13_mayOf 7 = .ok (.aload_n 0, 1) := by decide +kernel
theorem dX13_mayOf_8 : decode cX13_mayOf 8 = .ok (.invokevirtual 296, 3) := by decide +kernel
theorem dX13_mayOf_11 : decode cX13_mayOf 11 = .ok (.if_icmp .ge 31, 3) := by decide +kernel
theorem dX13_mayOf_14 : decode cX13_mayOf 14 = .ok (.iload_n 3, 1) := by decide +kernel
theorem dX13_mayOf_15 : decode cX13_mayOf 15 = .ok (.aload_n 0, 1) := by decide +kernel
theorem dX13_mayOf_16 : decode cX13_mayOf 16 = .ok (.iload_n 1, 1) := by decide +kernel
theorem dX13_mayOf_17 : decode cX13_mayOf 17 = .ok (.iload_n 2, 1) := by decide +kernel
theorem dX13_mayOf_18 : decode cX13_mayOf 18 = .ok (.iload 4, 2) := by decide +kernel
theorem dX13_mayOf_20 : decode cX13_mayOf 20 = .ok (.invokevirtual 361, 3) := by decide +kernel
theorem dX13_mayOf_23 : decode cX13_mayOf 23 = .ok (.ifCond .eq 10, 3) := by decide +kernel
theorem dX13_mayOf_26 : decode cX13_mayOf 26 = .ok (.iconst 1, 1) := by decide +kernel
theorem dX13_mayOf_27 : decode cX13_mayOf 27 = .ok (.iload 4, 2) := by decide +kernel
theorem dX13_mayOf_29 : decode cX13_mayOf 29 = .ok (.ishl, 1) := by decide +kernel
theorem dX13_mayOf_30 : decode cX13_mayOf 30 = .ok (.goto 4, 3) := by decide +kernel
theorem dX13_mayOf_33 : decode cX13_mayOf 33 = .ok (.iconst 0, 1) := by decide +kernel
theorem dX13_mayOf_34 : decode cX13_mayOf 34 = .ok (.ior, 1) := by decide +kernel
theorem dX13_mayOf_35 : decode cX13_mayOf 35 = .ok (.istore_n 3, 1) := by decide +kernel
theorem dX13_mayOf_36 : decode cX13_mayOf 36 = .ok (.iinc 4 1, 3) := by decide +kernel
theorem dX13_mayOf_39 : decode cX13_mayOf 39 = .ok (.goto (-34), 3) := by decide +kernel
theorem dX13_mayOf_42 : decode cX13_mayOf 42 = .ok (.iload_n 3, 1) := by decide +kernel
theorem dX13_mayOf_43 : decode cX13_mayOf 43 = .ok (.ireturn, 1) := by decide +kernel
theorem dX13_may_0 : decode cX13_may 0 = .ok (.aload_n 0, 1) := by decide +kernel
theorem dX13_may_1 : decode cX13_may 1 = .ok (.iconst 0, 1) := by decide +kernel
theorem dX13_may_2 : decode cX13_may 2 = .ok (.putfield 1, 3) := by decide +kernel
theorem dX13_may_5 : decode cX13_may 5 = .ok (.aload_n 0, 1) := by decide +kernel
theorem dX13_may_6 : decode cX13_may 6 = .ok (.iload_n 1, 1) := by decide +kernel
theorem dX13_may_7 : decode cX13_may 7 = .ok (.invokevirtual 336, 3) := by decide +kernel
theorem dX13_may_10 : decode cX13_may 10 = .ok (.ifCond .eq 12, 3) := by decide +kernel
theorem dX13_may_13 : decode cX13_may 13 = .ok (.aload_n 0, 1) := by decide +kernel
theorem dX13_may_14 : decode cX13_may 14 = .ok (.iconst 0, 1) := by decide +kernel
theorem dX13_may_15 : decode cX13_may 15 = .ok (.iload_n 1, 1) := by decide +kernel
theorem dX13_may_16 : decode cX13_may 16 = .ok (.invokevirtual 364, 3) := by decide +kernel
theorem dX13_may_19 : decode cX13_may 19 = .ok (.goto 4, 3) := by decide +kernel
theorem dX13_may_22 : decode cX13_may 22 = .ok (.iconst (-1), 1) := by decide +kernel
theorem dX13_may_23 : decode cX13_may 23 = .ok (.ireturn, 1) := by decide +kernel
theorem dX13_ends_0 : decode cX13_ends 0 = .ok (.aload_n 0, 1) := by decide +kernel
theorem dX13_ends_1 : decode cX13_ends 1 = .ok (.iconst 0, 1) := by decide +kernel
theorem dX13_ends_2 : decode cX13_ends 2 = .ok (.putfield 1, 3) := by decide +kernel
theorem dX13_ends_5 : decode cX13_ends 5 = .ok (.aload_n 0, 1) := by decide +kernel
theorem dX13_ends_6 : decode cX13_ends 6 = .ok (.sipush 1260, 3) := by decide +kernel
theorem dX13_ends_9 : decode cX13_ends 9 = .ok (.invokevirtual 286, 3) := by decide +kernel
theorem dX13_ends_12 : decode cX13_ends 12 = .ok (.iconst 0, 1) := by decide +kernel
theorem dX13_ends_13 : decode cX13_ends 13 = .ok (.istore_n 1, 1) := by decide +kernel
theorem dX13_ends_14 : decode cX13_ends 14 = .ok (.iconst 0, 1) := by decide +kernel
theorem dX13_ends_15 : decode cX13_ends 15 = .ok (.istore_n 2, 1) := by decide +kernel
theorem dX13_ends_16 : decode cX13_ends 16 = .ok (.iload_n 2, 1) := by decide +kernel
theorem dX13_ends_17 : decode cX13_ends 17 = .ok (.aload_n 0, 1) := by decide +kernel
theorem dX13_ends_18 : decode cX13_ends 18 = .ok (.invokevirtual 296, 3) := by decide +kernel
theorem dX13_ends_21 : decode cX13_ends 21 = .ok (.if_icmp .ge 34, 3) := by decide +kernel
theorem dX13_ends_24 : decode cX13_ends 24 = .ok (.aload_n 0, 1) := by decide +kernel
theorem dX13_ends_25 : decode cX13_ends 25 = .ok (.sipush 1260, 3) := by decide +kernel
theorem dX13_ends_28 : decode cX13_ends 28 = .ok (.iload_n 2, 1) := by decide +kernel
theorem dX13_ends_29 : decode cX13_ends 29 = .ok (.invokevirtual 364, 3) := by decide +kernel
theorem dX13_ends_32 : decode cX13_ends 32 = .ok (.istore_n 3, 1) := by decide +kernel
theorem dX13_ends_33 : decode cX13_ends 33 = .ok (.iload_n 1, 1) := by decide +kernel
theorem dX13_ends_34 : decode cX13_ends 34 = .ok (.iload_n 3, 1) := by decide +kernel
theorem dX13_ends_35 : decode cX13_ends 35 = .ok (.ifCond .ne 7, 3) := by decide +kernel
theorem dX13_ends_38 : decode cX13_ends 38 = .ok (.iconst 0, 1) := by decide +kernel
theorem dX13_ends_39 : decode cX13_ends 39 = .ok (.goto 8, 3) := by decide +kernel
theorem dX13_ends_42 : decode cX13_ends 42 = .ok (.iload_n 3, 1) := by decide +kernel
theorem dX13_ends_43 : decode cX13_ends 43 = .ok (.iconst 1, 1) := by decide +kernel
theorem dX13_ends_44 : decode cX13_ends 44 = .ok (.iload_n 2, 1) := by decide +kernel
theorem dX13_ends_45 : decode cX13_ends 45 = .ok (.ishl, 1) := by decide +kernel
theorem dX13_ends_46 : decode cX13_ends 46 = .ok (.ior, 1) := by decide +kernel
theorem dX13_ends_47 : decode cX13_ends 47 = .ok (.ior, 1) := by decide +kernel
theorem dX13_ends_48 : decode cX13_ends 48 = .ok (.istore_n 1, 1) := by decide +kernel
theorem dX13_ends_49 : decode cX13_ends 49 = .ok (.iinc 2 1, 3) := by decide +kernel
theorem dX13_ends_52 : decode cX13_ends 52 = .ok (.goto (-36), 3) := by decide +kernel
theorem dX13_ends_55 : decode cX13_ends 55 = .ok (.iconst 1, 1) := by decide +kernel
theorem dX13_ends_56 : decode cX13_ends 56 = .ok (.aload_n 0, 1) := by decide +kernel
theorem dX13_ends_57 : decode cX13_ends 57 = .ok (.invokevirtual 296, 3) := by decide +kernel
theorem dX13_ends_60 : decode cX13_ends 60 = .ok (.ishl, 1) := by decide +kernel
theorem dX13_ends_61 : decode cX13_ends 61 = .ok (.iconst 1, 1) := by decide +kernel
theorem dX13_ends_62 : decode cX13_ends 62 = .ok (.isub, 1) := by decide +kernel
theorem dX13_ends_63 : decode cX13_ends 63 = .ok (.iload_n 1, 1) := by decide +kernel
theorem dX13_ends_64 : decode cX13_ends 64 = .ok (.iconst (-1), 1) := by decide +kernel
theorem dX13_ends_65 : decode cX13_ends 65 = .ok (.ixor, 1) := by decide +kernel
theorem dX13_ends_66 : decode cX13_ends 66 = .ok (.iand, 1) := by decide +kernel
theorem dX13_ends_67 : decode cX13_ends 67 = .ok (.ireturn, 1) := by decide +kernel
theorem dX13_lawOf_0 : decode cX13_lawOf 0 = .ok (.aload_n 0, 1) := by decide +kernel
theorem dX13_lawOf_1 : decode cX13_lawOf 1 = .ok (.getfield 120, 3) := by decide +kernel
theorem dX13_lawOf_4 : decode cX13_lawOf 4 = .ok (.iconst 0, 1) := by decide +kernel
theorem dX13_lawOf_5 : decode cX13_lawOf 5 = .ok (.iload_n 3, 1) := by decide +kernel
theorem dX13_lawOf_6 : decode cX13_lawOf 6 = .ok (.iastore, 1) := by decide +kernel
theorem dX13_lawOf_7 : decode cX13_lawOf 7 = .ok (.aload_n 0, 1) := by decide +kernel
theorem dX13_lawOf_8 : decode cX13_lawOf 8 = .ok (.getfield 120, 3) := by decide +kernel
theorem dX13_lawOf_11 : decode cX13_lawOf 11 = .ok (.iconst 1, 1) := by decide +kernel
theorem dX13_lawOf_12 : decode cX13_lawOf 12 = .ok (.aload_n 0, 1) := by decide +kernel
theorem dX13_lawOf_13 : decode cX13_lawOf 13 = .ok (.iload_n 2, 1) := by decide +kernel
theorem dX13_lawOf_14 : decode cX13_lawOf 14 = .ok (.invokevirtual 310, 3) := by decide +kernel
theorem dX13_lawOf_17 : decode cX13_lawOf 17 = .ok (.aload_n 0, 1) := by decide +kernel
theorem dX13_lawOf_18 : decode cX13_lawOf 18 = .ok (.iload_n 2, 1) := by decide +kernel
theorem dX13_lawOf_19 : decode cX13_lawOf 19 = .ok (.invokevirtual 313, 3) := by decide +kernel
theorem dX13_lawOf_22 : decode cX13_lawOf 22 = .ok (.isub, 1) := by decide +kernel
theorem dX13_lawOf_23 : decode cX13_lawOf 23 = .ok (.iastore, 1) := by decide +kernel
theorem dX13_lawOf_24 : decode cX13_lawOf 24 = .ok (.aload_n 0, 1) := by decide +kernel
theorem dX13_lawOf_25 : decode cX13_lawOf 25 = .ok (.getfield 99, 3) := by decide +kernel
theorem dX13_lawOf_28 : decode cX13_lawOf 28 = .ok (.iconst 5, 1) := by decide +kernel
theorem dX13_lawOf_29 : decode cX13_lawOf 29 = .ok (.iload_n 1, 1) := by decide +kernel
theorem dX13_lawOf_30 : decode cX13_lawOf 30 = .ok (.iadd, 1) := by decide +kernel
theorem dX13_lawOf_31 : decode cX13_lawOf 31 = .ok (.iaload, 1) := by decide +kernel
theorem dX13_lawOf_32 : decode cX13_lawOf 32 = .ok (.ifCond .ge 8, 3) := by decide +kernel
theorem dX13_lawOf_35 : decode cX13_lawOf 35 = .ok (.iload 4, 2) := by decide +kernel
theorem dX13_lawOf_37 : decode cX13_lawOf 37 = .ok (.goto 15, 3) := by decide +kernel
theorem dX13_lawOf_40 : decode cX13_lawOf 40 = .ok (.aload_n 0, 1) := by decide +kernel
theorem dX13_lawOf_41 : decode cX13_lawOf 41 = .ok (.aload_n 0, 1) := by decide +kernel
theorem dX13_lawOf_42 : decode cX13_lawOf 42 = .ok (.getfield 99, 3) := by decide +kernel
theorem dX13_lawOf_45 : decode cX13_lawOf 45 = .ok (.iconst 5, 1) := by decide +kernel
theorem dX13_lawOf_46 : decode cX13_lawOf 46 = .ok (.iload_n 1, 1) := by decide +kernel
theorem dX13_lawOf_47 : decode cX13_lawOf 47 = .ok (.iadd, 1) := by decide +kernel
theorem dX13_lawOf_48 : decode cX13_lawOf 48 = .ok (.iaload, 1) := by decide +kernel
theorem dX13_lawOf_49 : decode cX13_lawOf 49 = .ok (.invokevirtual 367, 3) := by decide +kernel
theorem dX13_lawOf_52 : decode cX13_lawOf 52 = .ok (.istore 5, 2) := by decide +kernel
theorem dX13_lawOf_54 : decode cX13_lawOf 54 = .ok (.iload 5, 2) := by decide +kernel
theorem dX13_lawOf_56 : decode cX13_lawOf 56 = .ok (.ifCond .ge 7, 3) := by decide +kernel
theorem dX13_lawOf_59 : decode cX13_lawOf 59 = .ok (.iconst 0, 1) := by decide +kernel
theorem dX13_lawOf_60 : decode cX13_lawOf 60 = .ok (.goto 17, 3) := by decide +kernel
theorem dX13_lawOf_63 : decode cX13_lawOf 63 = .ok (.iload 5, 2) := by decide +kernel
theorem dX13_lawOf_65 : decode cX13_lawOf 65 = .ok (.bipush 99, 2) := by decide +kernel
theorem dX13_lawOf_67 : decode cX13_lawOf 67 = .ok (.if_icmp .le 8, 3) := by decide +kernel
theorem dX13_lawOf_70 : decode cX13_lawOf 70 = .ok (.bipush 99, 2) := by decide +kernel
theorem dX13_lawOf_72 : decode cX13_lawOf 72 = .ok (.goto 5, 3) := by decide +kernel
theorem dX13_lawOf_75 : decode cX13_lawOf 75 = .ok (.iload 5, 2) := by decide +kernel
theorem dX13_lawOf_77 : decode cX13_lawOf 77 = .ok (.ireturn, 1) := by decide +kernel
theorem dX13_weds_0 : decode cX13_weds 0 = .ok (.aload_n 0, 1) := by decide +kernel
theorem dX13_weds_1 : decode cX13_weds 1 = .ok (.getfield 120, 3) := by decide +kernel
theorem dX13_weds_4 : decode cX13_weds 4 = .ok (.iconst 2, 1) := by decide +kernel
theorem dX13_weds_5 : decode cX13_weds 5 = .ok (.aload_n 0, 1) := by decide +kernel
theorem dX13_weds_6 : decode cX13_weds 6 = .ok (.iload_n 2, 1) := by decide +kernel
theorem dX13_weds_7 : decode cX13_weds 7 = .ok (.iload_n 3, 1) := by decide +kernel
theorem dX13_weds_8 : decode cX13_weds 8 = .ok (.invokevirtual 352, 3) := by decide +kernel
theorem dX13_weds_11 : decode cX13_weds 11 = .ok (.iastore, 1) := by decide +kernel
theorem dX13_weds_12 : decode cX13_weds 12 = .ok (.aload_n 0, 1) := by decide +kernel
theorem dX13_weds_13 : decode cX13_weds 13 = .ok (.getfield 120, 3) := by decide +kernel
theorem dX13_weds_16 : decode cX13_weds 16 = .ok (.iconst 3, 1) := by decide +kernel
theorem dX13_weds_17 : decode cX13_weds 17 = .ok (.aload_n 0, 1) := by decide +kernel
theorem dX13_weds_18 : decode cX13_weds 18 = .ok (.iload_n 2, 1) := by decide +kernel
theorem dX13_weds_19 : decode cX13_weds 19 = .ok (.iload_n 3, 1) := by decide +kernel
theorem dX13_weds_20 : decode cX13_weds 20 = .ok (.invokevirtual 358, 3) := by decide +kernel
theorem dX13_weds_23 : decode cX13_weds 23 = .ok (.iastore, 1) := by decide +kernel
theorem dX13_weds_24 : decode cX13_weds 24 = .ok (.aload_n 0, 1) := by decide +kernel
theorem dX13_weds_25 : decode cX13_weds 25 = .ok (.iconst 0, 1) := by decide +kernel
theorem dX13_weds_26 : decode cX13_weds 26 = .ok (.iload_n 2, 1) := by decide +kernel
theorem dX13_weds_27 : decode cX13_weds 27 = .ok (.aload_n 0, 1) := by decide +kernel
theorem dX13_weds_28 : decode cX13_weds 28 = .ok (.iload_n 1, 1) := by decide +kernel
theorem dX13_weds_29 : decode cX13_weds 29 = .ok (.iload_n 2, 1) := by decide +kernel
theorem dX13_weds_30 : decode cX13_weds 30 = .ok (.aload_n 0, 1) := by decide +kernel
theorem dX13_weds_31 : decode cX13_weds 31 = .ok (.iload_n 1, 1) := by decide +kernel
theorem dX13_weds_32 : decode cX13_weds 32 = .ok (.invokevirtual 349, 3) := by decide +kernel
theorem dX13_weds_35 : decode cX13_weds 35 = .ok (.invokevirtual 370, 3) := by decide +kernel
theorem dX13_weds_38 : decode cX13_weds 38 = .ok (.iconst 1, 1) := by decide +kernel
theorem dX13_weds_39 : decode cX13_weds 39 = .ok (.invokevirtual 373, 3) := by decide +kernel
theorem dX13_weds_42 : decode cX13_weds 42 = .ok (.istore 4, 2) := by decide +kernel
theorem dX13_weds_44 : decode cX13_weds 44 = .ok (.aload_n 0, 1) := by decide +kernel
theorem dX13_weds_45 : decode cX13_weds 45 = .ok (.getfield 126, 3) := by decide +kernel
theorem dX13_weds_48 : decode cX13_weds 48 = .ok (.iload_n 1, 1) := by decide +kernel
theorem dX13_weds_49 : decode cX13_weds 49 = .ok (.iconst 1, 1) := by decide +kernel
theorem dX13_weds_50 : decode cX13_weds 50 = .ok (.iadd, 1) := by decide +kernel
theorem dX13_weds_51 : decode cX13_weds 51 = .ok (.iload_n 2, 1) := by decide +kernel
theorem dX13_weds_52 : decode cX13_weds 52 = .ok (.iadd, 1) := by decide +kernel
theorem dX13_weds_53 : decode cX13_weds 53 = .ok (.iload_n 3, 1) := by decide +kernel
theorem dX13_weds_54 : decode cX13_weds 54 = .ok (.iastore, 1) := by decide +kernel
theorem dX13_weds_55 : decode cX13_weds 55 = .ok (.aload_n 0, 1) := by decide +kernel
theorem dX13_weds_56 : decode cX13_weds 56 = .ok (.getfield 126, 3) := by decide +kernel
theorem dX13_weds_59 : decode cX13_weds 59 = .ok (.iload_n 1, 1) := by decide +kernel
theorem dX13_weds_60 : decode cX13_weds 60 = .ok (.bipush 7, 2) := by decide +kernel
theorem dX13_weds_62 : decode cX13_weds 62 = .ok (.iadd, 1) := by decide +kernel
theorem dX13_weds_63 : decode cX13_weds 63 = .ok (.iload_n 2, 1) := by decide +kernel
theorem dX13_weds_64 : decode cX13_weds 64 = .ok (.iadd, 1) := by decide +kernel
theorem dX13_weds_65 : decode cX13_weds 65 = .ok (.dup2, 1) := by decide +kernel
theorem dX13_weds_66 : decode cX13_weds 66 = .ok (.iaload, 1) := by decide +kernel
theorem dX13_weds_67 : decode cX13_weds 67 = .ok (.iload 4, 2) := by decide +kernel
theorem dX13_weds_69 : decode cX13_weds 69 = .ok (.isub, 1) := by decide +kernel
theorem dX13_weds_70 : decode cX13_weds 70 = .ok (.iastore, 1) := by decide +kernel
theorem dX13_weds_71 : decode cX13_weds 71 = .ok (.aload_n 0, 1) := by decide +kernel
theorem dX13_weds_72 : decode cX13_weds 72 = .ok (.getfield 126, 3) := by decide +kernel
theorem dX13_weds_75 : decode cX13_weds 75 = .ok (.iload_n 1, 1) := by decide +kernel
theorem dX13_weds_76 : decode cX13_weds 76 = .ok (.bipush 7, 2) := by decide +kernel
theorem dX13_weds_78 : decode cX13_weds 78 = .ok (.iadd, 1) := by decide +kernel
theorem dX13_weds_79 : decode cX13_weds 79 = .ok (.iload_n 3, 1) := by decide +kernel
theorem dX13_weds_80 : decode cX13_weds 80 = .ok (.iadd, 1) := by decide +kernel
theorem dX13_weds_81 : decode cX13_weds 81 = .ok (.dup2, 1) := by decide +kernel
theorem dX13_weds_82 : decode cX13_weds 82 = .ok (.iaload, 1) := by decide +kernel
theorem dX13_weds_83 : decode cX13_weds 83 = .ok (.iload 4, 2) := by decide +kernel
theorem dX13_weds_85 : decode cX13_weds 85 = .ok (.iadd, 1) := by decide +kernel
theorem dX13_weds_86 : decode cX13_weds 86 = .ok (.iastore, 1) := by decide +kernel
theorem dX13_weds_87 : decode cX13_weds 87 = .ok (.iload 4, 2) := by decide +kernel
theorem dX13_weds_89 : decode cX13_weds 89 = .ok (.ireturn, 1) := by decide +kernel
theorem dX13_wed_0 : decode cX13_wed 0 = .ok (.aload_n 0, 1) := by decide +kernel
theorem dX13_wed_1 : decode cX13_wed 1 = .ok (.iconst 0, 1) := by decide +kernel
theorem dX13_wed_2 : decode cX13_wed 2 = .ok (.putfield 1, 3) := by decide +kernel
theorem dX13_wed_5 : decode cX13_wed 5 = .ok (.aload_n 0, 1) := by decide +kernel
theorem dX13_wed_6 : decode cX13_wed 6 = .ok (.iload_n 1, 1) := by decide +kernel
theorem dX13_wed_7 : decode cX13_wed 7 = .ok (.invokevirtual 336, 3) := by decide +kernel
theorem dX13_wed_10 : decode cX13_wed 10 = .ok (.ifCond .eq 21, 3) := by decide +kernel
theorem dX13_wed_13 : decode cX13_wed 13 = .ok (.aload_n 0, 1) := by decide +kernel
theorem dX13_wed_14 : decode cX13_wed 14 = .ok (.iload_n 2, 1) := by decide +kernel
theorem dX13_wed_15 : decode cX13_wed 15 = .ok (.invokevirtual 336, 3) := by decide +kernel
theorem dX13_wed_18 : decode cX13_wed 18 = .ok (.ifCond .eq 13, 3) := by decide +kernel
theorem dX13_wed_21 : decode cX13_wed 21 = .ok (.aload_n 0, 1) := by decide +kernel
theorem dX13_wed_22 : decode cX13_wed 22 = .ok (.iconst 0, 1) := by decide +kernel
theorem dX13_wed_23 : decode cX13_wed 23 = .ok (.iload_n 1, 1) := by decide +kernel
theorem dX13_wed_24 : decode cX13_wed 24 = .ok (.iload_n 2, 1) := by decide +kernel
theorem dX13_wed_25 : decode cX13_wed 25 = .ok (.invokevirtual 361, 3) := by decide +kernel
theorem dX13_wed_28 : decode cX13_wed 28 = .ok (.ifCond .ne 5, 3) := by decide +kernel
theorem dX13_wed_31 : decode cX13_wed 31 = .ok (.iconst (-1), 1) := by decide +kernel
theorem dX13_wed_32 : decode cX13_wed 32 = .ok (.ireturn, 1) := by decide +kernel
theorem dX13_wed_33 : decode cX13_wed 33 = .ok (.aload_n 0, 1) := by decide +kernel
theorem dX13_wed_34 : decode cX13_wed 34 = .ok (.invokevirtual 376, 3) := by decide +kernel
theorem dX13_wed_37 : decode cX13_wed 37 = .ok (.aload_n 0, 1) := by decide +kernel
theorem dX13_wed_38 : decode cX13_wed 38 = .ok (.iconst 0, 1) := by decide +kernel
theorem dX13_wed_39 : decode cX13_wed 39 = .ok (.iload_n 1, 1) := by decide +kernel
theorem dX13_wed_40 : decode cX13_wed 40 = .ok (.iload_n 2, 1) := by decide +kernel
theorem dX13_wed_41 : decode cX13_wed 41 = .ok (.invokevirtual 379, 3) := by decide +kernel
theorem dX13_wed_44 : decode cX13_wed 44 = .ok (.ireturn, 1) := by decide +kernel
theorem dX13_part_0 : decode cX13_part 0 = .ok (.aload_n 0, 1) := by decide +kernel
theorem dX13_part_1 : decode cX13_part 1 = .ok (.iconst 0, 1) := by decide +kernel
theorem dX13_part_2 : decode cX13_part 2 = .ok (.putfield 1, 3) := by decide +kernel
theorem dX13_part_5 : decode cX13_part 5 = .ok (.aload_n 0, 1) := by decide +kernel
theorem dX13_part_6 : decode cX13_part 6 = .ok (.iload_n 1, 1) := by decide +kernel
theorem dX13_part_7 : decode cX13_part 7 = .ok (.invokevirtual 336, 3) := by decide +kernel
theorem dX13_part_10 : decode cX13_part 10 = .ok (.ifCond .eq 12, 3) := by decide +kernel
theorem dX13_part_13 : decode cX13_part 13 = .ok (.aload_n 0, 1) := by decide +kernel
theorem dX13_part_14 : decode cX13_part 14 = .ok (.iconst 0, 1) := by decide +kernel
theorem dX13_part_15 : decode cX13_part 15 = .ok (.iload_n 1, 1) := by decide +kernel
theorem dX13_part_16 : decode cX13_part 16 = .ok (.invokevirtual 303, 3) := by decide +kernel
theorem dX13_part_19 : decode cX13_part 19 = .ok (.ifCond .ge 5, 3) := by decide +kernel
theorem dX13_part_22 : decode cX13_part 22 = .ok (.iconst 0, 1) := by decide +kernel
theorem dX13_part_23 : decode cX13_part 23 = .ok (.ireturn, 1) := by decide +kernel
theorem dX13_part_24 : decode cX13_part 24 = .ok (.aload_n 0, 1) := by decide +kernel
theorem dX13_part_25 : decode cX13_part 25 = .ok (.invokevirtual 376, 3) := by decide +kernel
theorem dX13_part_28 : decode cX13_part 28 = .ok (.aload_n 0, 1) := by decide +kernel
theorem dX13_part_29 : decode cX13_part 29 = .ok (.getfield 126, 3) := by decide +kernel
theorem dX13_part_32 : decode cX13_part 32 = .ok (.iconst 1, 1) := by decide +kernel
theorem dX13_part_33 : decode cX13_part 33 = .ok (.iload_n 1, 1) := by decide +kernel
theorem dX13_part_34 : decode cX13_part 34 = .ok (.iadd, 1) := by decide +kernel
theorem dX13_part_35 : decode cX13_part 35 = .ok (.iconst (-1), 1) := by decide +kernel
theorem dX13_part_36 : decode cX13_part 36 = .ok (.iastore, 1) := by decide +kernel
theorem dX13_part_37 : decode cX13_part 37 = .ok (.iconst 1, 1) := by decide +kernel
theorem dX13_part_38 : decode cX13_part 38 = .ok (.ireturn, 1) := by decide +kernel
theorem dX13_passes_0 : decode cX13_passes 0 = .ok (.iconst 0, 1) := by decide +kernel
theorem dX13_passes_1 : decode cX13_passes 1 = .ok (.istore_n 2, 1) := by decide +kernel
theorem dX13_passes_2 : decode cX13_passes 2 = .ok (.iload_n 2, 1) := by decide +kernel
theorem dX13_passes_3 : decode cX13_passes 3 = .ok (.aload_n 0, 1) := by decide +kernel
theorem dX13_passes_4 : decode cX13_passes 4 = .ok (.invokevirtual 296, 3) := by decide +kernel
theorem dX13_passes_7 : decode cX13_passes 7 = .ok (.if_icmp .ge 41, 3) := by decide +kernel
theorem dX13_passes_10 : decode cX13_passes 10 = .ok (.aload_n 0, 1) := by decide +kernel
theorem dX13_passes_11 : decode cX13_passes 11 = .ok (.getfield 126, 3) := by decide +kernel
theorem dX13_passes_14 : decode cX13_passes 14 = .ok (.iload_n 1, 1) := by decide +kernel
theorem dX13_passes_15 : decode cX13_passes 15 = .ok (.bipush 13, 2) := by decide +kernel
theorem dX13_passes_17 : decode cX13_passes 17 = .ok (.iadd, 1) := by decide +kernel
theorem dX13_passes_18 : decode cX13_passes 18 = .ok (.iload_n 2, 1) := by decide +kernel
theorem dX13_passes_19 : decode cX13_passes 19 = .ok (.iadd, 1) := by decide +kernel
theorem dX13_passes_20 : decode cX13_passes 20 = .ok (.dup2, 1) := by decide +kernel
theorem dX13_passes_21 : decode cX13_passes 21 = .ok (.iaload, 1) := by decide +kernel
theorem dX13_passes_22 : decode cX13_passes 22 = .ok (.aload_n 0, 1) := by decide +kernel
theorem dX13_passes_23 : decode cX13_passes 23 = .ok (.iconst 1, 1) := by decide +kernel
theorem dX13_passes_24 : decode cX13_passes 24 = .ok (.iload_n 2, 1) := by decide +kernel
theorem dX13_passes_25 : decode cX13_passes 25 = .ok (.aload_n 0, 1) := by decide +kernel
theorem dX13_passes_26 : decode cX13_passes 26 = .ok (.iload_n 1, 1) := by decide +kernel
theorem dX13_passes_27 : decode cX13_passes 27 = .ok (.iload_n 2, 1) := by decide +kernel
theorem dX13_passes_28 : decode cX13_passes 28 = .ok (.aload_n 0, 1) := by decide +kernel
theorem dX13_passes_29 : decode cX13_passes 29 = .ok (.iload_n 1, 1) := by decide +kernel
theorem dX13_passes_30 : decode cX13_passes 30 = .ok (.invokevirtual 349, 3) := by decide +kernel
theorem dX13_passes_33 : decode cX13_passes 33 = .ok (.invokevirtual 370, 3) := by decide +kernel
theorem dX13_passes_36 : decode cX13_passes 36 = .ok (.iconst 0, 1) := by decide +kernel
theorem dX13_passes_37 : decode cX13_passes 37 = .ok (.invokevirtual 373, 3) := by decide +kernel
theorem dX13_passes_40 : decode cX13_passes 40 = .ok (.iadd, 1) := by decide +kernel
theorem dX13_passes_41 : decode cX13_passes 41 = .ok (.iastore, 1) := by decide +kernel
theorem dX13_passes_42 : decode cX13_passes 42 = .ok (.iinc 2 1, 3) := by decide +kernel
theorem dX13_passes_45 : decode cX13_passes 45 = .ok (.goto (-43), 3) := by decide +kernel
theorem dX13_passes_48 : decode cX13_passes 48 = .ok (.aload_n 0, 1) := by decide +kernel
theorem dX13_passes_49 : decode cX13_passes 49 = .ok (.getfield 126, 3) := by decide +kernel
theorem dX13_passes_52 : decode cX13_passes 52 = .ok (.iload_n 1, 1) := by decide +kernel
theorem dX13_passes_53 : decode cX13_passes 53 = .ok (.iconst 0, 1) := by decide +kernel
theorem dX13_passes_54 : decode cX13_passes 54 = .ok (.iadd, 1) := by decide +kernel
theorem dX13_passes_55 : decode cX13_passes 55 = .ok (.dup2, 1) := by decide +kernel
theorem dX13_passes_56 : decode cX13_passes 56 = .ok (.iaload, 1) := by decide +kernel
theorem dX13_passes_57 : decode cX13_passes 57 = .ok (.iconst 1, 1) := by decide +kernel
theorem dX13_passes_58 : decode cX13_passes 58 = .ok (.iadd, 1) := by decide +kernel
theorem dX13_passes_59 : decode cX13_passes 59 = .ok (.iastore, 1) := by decide +kernel
theorem dX13_passes_60 : decode cX13_passes 60 = .ok (.return_, 1) := by decide +kernel
theorem dX13_seasons_0 : decode cX13_seasons 0 = .ok (.aload_n 0, 1) := by decide +kernel
theorem dX13_seasons_1 : decode cX13_seasons 1 = .ok (.iconst 0, 1) := by decide +kernel
theorem dX13_seasons_2 : decode cX13_seasons 2 = .ok (.putfield 1, 3) := by decide +kernel
theorem dX13_seasons_5 : decode cX13_seasons 5 = .ok (.iload_n 1, 1) := by decide +kernel
theorem dX13_seasons_6 : decode cX13_seasons 6 = .ok (.iconst 1, 1) := by decide +kernel
theorem dX13_seasons_7 : decode cX13_seasons 7 = .ok (.bipush 100, 2) := by decide +kernel
theorem dX13_seasons_9 : decode cX13_seasons 9 = .ok (.invokestatic 339, 3) := by decide +kernel
theorem dX13_seasons_12 : decode cX13_seasons 12 = .ok (.ifCond .ne 5, 3) := by decide +kernel
theorem dX13_seasons_15 : decode cX13_seasons 15 = .ok (.iconst (-1), 1) := by decide +kernel
theorem dX13_seasons_16 : decode cX13_seasons 16 = .ok (.ireturn, 1) := by decide +kernel
theorem dX13_seasons_17 : decode cX13_seasons 17 = .ok (.aload_n 0, 1) := by decide +kernel
theorem dX13_seasons_18 : decode cX13_seasons 18 = .ok (.invokevirtual 376, 3) := by decide +kernel
theorem dX13_seasons_21 : decode cX13_seasons 21 = .ok (.iconst 0, 1) := by decide +kernel
theorem dX13_seasons_22 : decode cX13_seasons 22 = .ok (.istore_n 2, 1) := by decide +kernel
theorem dX13_seasons_23 : decode cX13_seasons 23 = .ok (.iload_n 2, 1) := by decide +kernel
theorem dX13_seasons_24 : decode cX13_seasons 24 = .ok (.iload_n 1, 1) := by decide +kernel
theorem dX13_seasons_25 : decode cX13_seasons 25 = .ok (.if_icmp .ge 14, 3) := by decide +kernel
theorem dX13_seasons_28 : decode cX13_seasons 28 = .ok (.aload_n 0, 1) := by decide +kernel
theorem dX13_seasons_29 : decode cX13_seasons 29 = .ok (.iconst 0, 1) := by decide +kernel
theorem dX13_seasons_30 : decode cX13_seasons 30 = .ok (.invokevirtual 382, 3) := by decide +kernel
theorem dX13_seasons_33 : decode cX13_seasons 33 = .ok (.iinc 2 1, 3) := by decide +kernel
theorem dX13_seasons_36 : decode cX13_seasons 36 = .ok (.goto (-13), 3) := by decide +kernel
theorem dX13_seasons_39 : decode cX13_seasons 39 = .ok (.aload_n 0, 1) := by decide +kernel
theorem dX13_seasons_40 : decode cX13_seasons 40 = .ok (.getfield 126, 3) := by decide +kernel
theorem dX13_seasons_43 : decode cX13_seasons 43 = .ok (.iconst 0, 1) := by decide +kernel
theorem dX13_seasons_44 : decode cX13_seasons 44 = .ok (.iaload, 1) := by decide +kernel
theorem dX13_seasons_45 : decode cX13_seasons 45 = .ok (.ireturn, 1) := by decide +kernel
