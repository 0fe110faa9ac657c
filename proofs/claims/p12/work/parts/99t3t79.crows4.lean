theorem dX12_priceBy_4 : decode cX12_priceBy 4 = .ok (.getfield 248, 3) := by decide +kernel
theorem dX12_priceBy_7 : decode cX12_priceBy 7 = .ok (.iload_n 1, 1) := by decide +kernel
theorem dX12_priceBy_8 : decode cX12_priceBy 8 = .ok (.iaload, 1) := by decide +kernel
theorem dX12_priceBy_9 : decode cX12_priceBy 9 = .ok (.iload_n 2, 1) := by decide +kernel
theorem dX12_priceBy_10 : decode cX12_priceBy 10 = .ok (.ishr, 1) := by decide +kernel
theorem dX12_priceBy_11 : decode cX12_priceBy 11 = .ok (.iconst 1, 1) := by decide +kernel
theorem dX12_priceBy_12 : decode cX12_priceBy 12 = .ok (.iand, 1) := by decide +kernel
theorem dX12_priceBy_13 : decode cX12_priceBy 13 = .ok (.ifCond .eq 13, 3) := by decide +kernel
theorem dX12_priceBy_16 : decode cX12_priceBy 16 = .ok (.aload_n 0, 1) := by decide +kernel
theorem dX12_priceBy_17 : decode cX12_priceBy 17 = .ok (.getfield 83, 3) := by decide +kernel
theorem dX12_priceBy_20 : decode cX12_priceBy 20 = .ok (.iload_n 2, 1) := by decide +kernel
theorem dX12_priceBy_21 : decode cX12_priceBy 21 = .ok (.iaload, 1) := by decide +kernel
theorem dX12_priceBy_22 : decode cX12_priceBy 22 = .ok (.iconst (-1), 1) := by decide +kernel
theorem dX12_priceBy_23 : decode cX12_priceBy 23 = .ok (.if_icmp .ne 5, 3) := by decide +kernel
theorem dX12_priceBy_26 : decode cX12_priceBy 26 = .ok (.iconst (-1), 1) := by decide +kernel
theorem dX12_priceBy_27 : decode cX12_priceBy 27 = .ok (.ireturn, 1) := by decide +kernel
theorem dX12_priceBy_28 : decode cX12_priceBy 28 = .ok (.aload_n 0, 1) := by decide +kernel
theorem dX12_priceBy_29 : decode cX12_priceBy 29 = .ok (.getfield 83, 3) := by decide +kernel
theorem dX12_priceBy_32 : decode cX12_priceBy 32 = .ok (.iload_n 2, 1) := by decide +kernel
theorem dX12_priceBy_33 : decode cX12_priceBy 33 = .ok (.iaload, 1) := by decide +kernel
theorem dX12_priceBy_34 : decode cX12_priceBy 34 = .ok (.aload_n 0, 1) := by decide +kernel
theorem dX12_priceBy_35 : decode cX12_priceBy 35 = .ok (.getfield 19, 3) := by decide +kernel
theorem dX12_priceBy_38 : decode cX12_priceBy 38 = .ok (.iload_n 1, 1) := by decide +kernel
theorem dX12_priceBy_39 : decode cX12_priceBy 39 = .ok (.iload_n 2, 1) := by decide +kernel
theorem dX12_priceBy_40 : decode cX12_priceBy 40 = .ok (.invokevirtual 242, 3) := by decide +kernel
theorem dX12_priceBy_43 : decode cX12_priceBy 43 = .ok (.bipush 16, 2) := by decide +kernel
theorem dX12_priceBy_45 : decode cX12_priceBy 45 = .ok (.imul, 1) := by decide +kernel
theorem dX12_priceBy_46 : decode cX12_priceBy 46 = .ok (.iadd, 1) := by decide +kernel
theorem dX12_priceBy_47 : decode cX12_priceBy 47 = .ok (.iconst 1, 1) := by decide +kernel
theorem dX12_priceBy_48 : decode cX12_priceBy 48 = .ok (.iadd, 1) := by decide +kernel
theorem dX12_priceBy_49 : decode cX12_priceBy 49 = .ok (.ireturn, 1) := by decide +kernel
theorem dX12_chainLink_0 : decode cX12_chainLink 0 = .ok (.iload_n 1, 1) := by decide +kernel
theorem dX12_chainLink_1 : decode cX12_chainLink 1 = .ok (.istore_n 3, 1) := by decide +kernel
theorem dX12_chainLink_2 : decode cX12_chainLink 2 = .ok (.iconst 0, 1) := by decide +kernel
theorem dX12_chainLink_3 : decode cX12_chainLink 3 = .ok (.istore 4, 2) := by decide +kernel
theorem dX12_chainLink_5 : decode cX12_chainLink 5 = .ok (.iload 4, 2) := by decide +kernel
theorem dX12_chainLink_7 : decode cX12_chainLink 7 = .ok (.iload_n 2, 1) := by decide +kernel
theorem dX12_chainLink_8 : decode cX12_chainLink 8 = .ok (.if_icmp .ge 70, 3) := by decide +kernel
theorem dX12_chainLink_11 : decode cX12_chainLink 11 = .ok (.iconst (-1), 1) := by decide +kernel
theorem dX12_chainLink_12 : decode cX12_chainLink 12 = .ok (.istore 5, 2) := by decide +kernel
theorem dX12_chainLink_14 : decode cX12_chainLink 14 = .ok (.iconst 0, 1) := by decide +kernel
theorem dX12_chainLink_15 : decode cX12_chainLink 15 = .ok (.istore 6, 2) := by decide +kernel
theorem dX12_chainLink_17 : decode cX12_chainLink 17 = .ok (.iload 6, 2) := by decide +kernel
theorem dX12_chainLink_19 : decode cX12_chainLink 19 = .ok (.aload_n 0, 1) := by decide +kernel
theorem dX12_chainLink_20 : decode cX12_chainLink 20 = .ok (.getfield 19, 3) := by decide +kernel
theorem dX12_chainLink_23 : decode cX12_chainLink 23 = .ok (.getfield 151, 3) := by decide +kernel
theorem dX12_chainLink_26 : decode cX12_chainLink 26 = .ok (.if_icmp .ge 35, 3) := by decide +kernel
theorem dX12_chainLink_29 : decode cX12_chainLink 29 = .ok (.iload 5, 2) := by decide +kernel
theorem dX12_chainLink_31 : decode cX12_chainLink 31 = .ok (.iconst (-1), 1) := by decide +kernel
theorem dX12_chainLink_32 : decode cX12_chainLink 32 = .ok (.if_icmp .ne 29, 3) := by decide +kernel
theorem dX12_chainLink_35 : decode cX12_chainLink 35 = .ok (.aload_n 0, 1) := by decide +kernel
theorem dX12_chainLink_36 : decode cX12_chainLink 36 = .ok (.iload_n 3, 1) := by decide +kernel
theorem dX12_chainLink_37 : decode cX12_chainLink 37 = .ok (.iload 6, 2) := by decide +kernel
theorem dX12_chainLink_39 : decode cX12_chainLink 39 = .ok (.invokevirtual 342, 3) := by decide +kernel
theorem dX12_chainLink_42 : decode cX12_chainLink 42 = .ok (.aload_n 0, 1) := by decide +kernel
theorem dX12_chainLink_43 : decode cX12_chainLink 43 = .ok (.getfield 83, 3) := by decide +kernel
theorem dX12_chainLink_46 : decode cX12_chainLink 46 = .ok (.iload_n 3, 1) := by decide +kernel
theorem dX12_chainLink_47 : decode cX12_chainLink 47 = .ok (.iaload, 1) := by decide +kernel
theorem dX12_chainLink_48 : decode cX12_chainLink 48 = .ok (.if_icmp .ne 7, 3) := by decide +kernel
theorem dX12_chainLink_51 : decode cX12_chainLink 51 = .ok (.iload 6, 2) := by decide +kernel
theorem dX12_chainLink_53 : decode cX12_chainLink 53 = .ok (.istore 5, 2) := by decide +kernel
theorem dX12_chainLink_55 : decode cX12_chainLink 55 = .ok (.iinc 6 1, 3) := by decide +kernel
theorem dX12_chainLink_58 : decode cX12_chainLink 58 = .ok (.goto (-41), 3) := by decide +kernel
theorem dX12_chainLink_61 : decode cX12_chainLink 61 = .ok (.iload 5, 2) := by decide +kernel
theorem dX12_chainLink_63 : decode cX12_chainLink 63 = .ok (.iconst (-1), 1) := by decide +kernel
theorem dX12_chainLink_64 : decode cX12_chainLink 64 = .ok (.if_icmp .ne 5, 3) := by decide +kernel
theorem dX12_chainLink_67 : decode cX12_chainLink 67 = .ok (.iconst (-1), 1) := by decide +kernel
theorem dX12_chainLink_68 : decode cX12_chainLink 68 = .ok (.ireturn, 1) := by decide +kernel
theorem dX12_chainLink_69 : decode cX12_chainLink 69 = .ok (.iload 5, 2) := by decide +kernel
theorem dX12_chainLink_71 : decode cX12_chainLink 71 = .ok (.istore_n 3, 1) := by decide +kernel
theorem dX12_chainLink_72 : decode cX12_chainLink 72 = .ok (.iinc 4 1, 3) := by decide +kernel
theorem dX12_chainLink_75 : decode cX12_chainLink 75 = .ok (.goto (-70), 3) := by decide +kernel
theorem dX12_chainLink_78 : decode cX12_chainLink 78 = .ok (.iload_n 3, 1) := by decide +kernel
theorem dX12_chainLink_79 : decode cX12_chainLink 79 = .ok (.ireturn, 1) := by decide +kernel
theorem dX12_peace_0 : decode cX12_peace 0 = .ok (.iconst 0, 1) := by decide +kernel
theorem dX12_peace_1 : decode cX12_peace 1 = .ok (.istore_n 1, 1) := by decide +kernel
theorem dX12_peace_2 : decode cX12_peace 2 = .ok (.iconst 0, 1) := by decide +kernel
theorem dX12_peace_3 : decode cX12_peace 3 = .ok (.istore_n 2, 1) := by decide +kernel
theorem dX12_peace_4 : decode cX12_peace 4 = .ok (.iload_n 2, 1) := by decide +kernel
theorem dX12_peace_5 : decode cX12_peace 5 = .ok (.aload_n 0, 1) := by decide +kernel
theorem dX12_peace_6 : decode cX12_peace 6 = .ok (.getfield 19, 3) := by decide +kernel
theorem dX12_peace_9 : decode cX12_peace 9 = .ok (.getfield 151, 3) := by decide +kernel
theorem dX12_peace_12 : decode cX12_peace 12 = .ok (.if_icmp .ge 28, 3) := by decide +kernel
theorem dX12_peace_15 : decode cX12_peace 15 = .ok (.aload_n 0, 1) := by decide +kernel
theorem dX12_peace_16 : decode cX12_peace 16 = .ok (.getfield 38, 3) := by decide +kernel
theorem dX12_peace_19 : decode cX12_peace 19 = .ok (.getfield 170, 3) := by decide +kernel
theorem dX12_peace_22 : decode cX12_peace 22 = .ok (.iload_n 2, 1) := by decide +kernel
theorem dX12_peace_23 : decode cX12_peace 23 = .ok (.iaload, 1) := by decide +kernel
theorem dX12_peace_24 : decode cX12_peace 24 = .ok (.iconst (-1), 1) := by decide +kernel
theorem dX12_peace_25 : decode cX12_peace 25 = .ok (.if_icmp .eq 9, 3) := by decide +kernel
theorem dX12_peace_28 : decode cX12_peace 28 = .ok (.iload_n 1, 1) := by decide +kernel
theorem dX12_peace_29 : decode cX12_peace 29 = .ok (.iconst 1, 1) := by decide +kernel
theorem dX12_peace_30 : decode cX12_peace 30 = .ok (.iload_n 2, 1) := by decide +kernel
theorem dX12_peace_31 : decode cX12_peace 31 = .ok (.ishl, 1) := by decide +kernel
theorem dX12_peace_32 : decode cX12_peace 32 = .ok (.ior, 1) := by decide +kernel
theorem dX12_peace_33 : decode cX12_peace 33 = .ok (.istore_n 1, 1) := by decide +kernel
theorem dX12_peace_34 : decode cX12_peace 34 = .ok (.iinc 2 1, 3) := by decide +kernel
theorem dX12_peace_37 : decode cX12_peace 37 = .ok (.goto (-33), 3) := by decide +kernel
theorem dX12_peace_40 : decode cX12_peace 40 = .ok (.iconst (-1), 1) := by decide +kernel
theorem dX12_peace_41 : decode cX12_peace 41 = .ok (.istore_n 2, 1) := by decide +kernel
theorem dX12_peace_42 : decode cX12_peace 42 = .ok (.iconst 0, 1) := by decide +kernel
theorem dX12_peace_43 : decode cX12_peace 43 = .ok (.istore_n 3, 1) := by decide +kernel
theorem dX12_peace_44 : decode cX12_peace 44 = .ok (.iload_n 3, 1) := by decide +kernel
theorem dX12_peace_45 : decode cX12_peace 45 = .ok (.bipush 64, 2) := by decide +kernel
theorem dX12_peace_47 : decode cX12_peace 47 = .ok (.if_icmp .ge 55, 3) := by decide +kernel
theorem dX12_peace_50 : decode cX12_peace 50 = .ok (.iload_n 2, 1) := by decide +kernel
theorem dX12_peace_51 : decode cX12_peace 51 = .ok (.iconst (-1), 1) := by decide +kernel
theorem dX12_peace_52 : decode cX12_peace 52 = .ok (.if_icmp .eq 14, 3) := by decide +kernel
theorem dX12_peace_55 : decode cX12_peace 55 = .ok (.iload_n 3, 1) := by decide +kernel
theorem dX12_peace_56 : decode cX12_peace 56 = .ok (.invokestatic 312, 3) := by decide +kernel
theorem dX12_peace_59 : decode cX12_peace 59 = .ok (.iload_n 2, 1) := by decide +kernel
theorem dX12_peace_60 : decode cX12_peace 60 = .ok (.invokestatic 312, 3) := by decide +kernel
theorem dX12_peace_63 : decode cX12_peace 63 = .ok (.if_icmp .ge 7, 3) := by decide +kernel
theorem dX12_peace_66 : decode cX12_peace 66 = .ok (.iconst 1, 1) := by decide +kernel
theorem dX12_peace_67 : decode cX12_peace 67 = .ok (.goto 4, 3) := by decide +kernel
theorem dX12_peace_70 : decode cX12_peace 70 = .ok (.iconst 0, 1) := by decide +kernel
theorem dX12_peace_71 : decode cX12_peace 71 = .ok (.istore 4, 2) := by decide +kernel
theorem dX12_peace_73 : decode cX12_peace 73 = .ok (.iload_n 3, 1) := by decide +kernel
theorem dX12_peace_74 : decode cX12_peace 74 = .ok (.iload_n 1, 1) := by decide +kernel
theorem dX12_peace_75 : decode cX12_peace 75 = .ok (.iconst (-1), 1) := by decide +kernel
theorem dX12_peace_76 : decode cX12_peace 76 = .ok (.ixor, 1) := by decide +kernel
theorem dX12_peace_77 : decode cX12_peace 77 = .ok (.iand, 1) := by decide +kernel
theorem dX12_peace_78 : decode cX12_peace 78 = .ok (.ifCond .ne 18, 3) := by decide +kernel
theorem dX12_peace_81 : decode cX12_peace 81 = .ok (.iload 4, 2) := by decide +kernel
theorem dX12_peace_83 : decode cX12_peace 83 = .ok (.ifCond .eq 13, 3) := by decide +kernel
theorem dX12_peace_86 : decode cX12_peace 86 = .ok (.aload_n 0, 1) := by decide +kernel
theorem dX12_peace_87 : decode cX12_peace 87 = .ok (.iload_n 3, 1) := by decide +kernel
theorem dX12_peace_88 : decode cX12_peace 88 = .ok (.invokevirtual 345, 3) := by decide +kernel
theorem dX12_peace_91 : decode cX12_peace 91 = .ok (.ifCond .eq 5, 3) := by decide +kernel
theorem dX12_peace_94 : decode cX12_peace 94 = .ok (.iload_n 3, 1) := by decide +kernel
theorem dX12_peace_95 : decode cX12_peace 95 = .ok (.istore_n 2, 1) := by decide +kernel
theorem dX12_peace_96 : decode cX12_peace 96 = .ok (.iinc 3 1, 3) := by decide +kernel
theorem dX12_peace_99 : decode cX12_peace 99 = .ok (.goto (-55), 3) := by decide +kernel
theorem dX12_peace_102 : decode cX12_peace 102 = .ok (.iload_n 2, 1) := by decide +kernel
theorem dX12_peace_103 : decode cX12_peace 103 = .ok (.ireturn, 1) := by decide +kernel
theorem dX12_isPeace_0 : decode cX12_isPeace 0 = .ok (.aload_n 0, 1) := by decide +kernel
theorem dX12_isPeace_1 : decode cX12_isPeace 1 = .ok (.invokevirtual 177, 3) := by decide +kernel
theorem dX12_isPeace_4 : decode cX12_isPeace 4 = .ok (.astore_n 2, 1) := by decide +kernel
theorem dX12_isPeace_5 : decode cX12_isPeace 5 = .ok (.iconst 0, 1) := by decide +kernel
theorem dX12_isPeace_6 : decode cX12_isPeace 6 = .ok (.istore_n 3, 1) := by decide +kernel
theorem dX12_isPeace_7 : decode cX12_isPeace 7 = .ok (.iload_n 3, 1) := by decide +kernel
theorem dX12_isPeace_8 : decode cX12_isPeace 8 = .ok (.aload_n 0, 1) := by decide +kernel
theorem dX12_isPeace_9 : decode cX12_isPeace 9 = .ok (.getfield 19, 3) := by decide +kernel
theorem dX12_isPeace_12 : decode cX12_isPeace 12 = .ok (.getfield 151, 3) := by decide +kernel
theorem dX12_isPeace_15 : decode cX12_isPeace 15 = .ok (.if_icmp .ge 23, 3) := by decide +kernel
theorem dX12_isPeace_18 : decode cX12_isPeace 18 = .ok (.iload_n 1, 1) := by decide +kernel
theorem dX12_isPeace_19 : decode cX12_isPeace 19 = .ok (.iload_n 3, 1) := by decide +kernel
theorem dX12_isPeace_20 : decode cX12_isPeace 20 = .ok (.ishr, 1) := by decide +kernel
theorem dX12_isPeace_21 : decode cX12_isPeace 21 = .ok (.iconst 1, 1) := by decide +kernel
theorem dX12_isPeace_22 : decode cX12_isPeace 22 = .ok (.iand, 1) := by decide +kernel
theorem dX12_isPeace_23 : decode cX12_isPeace 23 = .ok (.ifCond .eq 9, 3) := by decide +kernel
theorem dX12_isPeace_26 : decode cX12_isPeace 26 = .ok (.aload_n 2, 1) := by decide +kernel
theorem dX12_isPeace_27 : decode cX12_isPeace 27 = .ok (.iload_n 3, 1) := by decide +kernel
theorem dX12_isPeace_28 : decode cX12_isPeace 28 = .ok (.invokevirtual 299, 3) := by decide +kernel
theorem dX12_isPeace_31 : decode cX12_isPeace 31 = .ok (.pop, 1) := by decide +kernel
theorem dX12_isPeace_32 : decode cX12_isPeace 32 = .ok (.iinc 3 1, 3) := by decide +kernel
theorem dX12_isPeace_35 : decode cX12_isPeace 35 = .ok (.goto (-28), 3) := by decide +kernel
theorem dX12_isPeace_38 : decode cX12_isPeace 38 = .ok (.aload_n 2, 1) := by decide +kernel
theorem dX12_isPeace_39 : decode cX12_isPeace 39 = .ok (.aload_n 0, 1) := by decide +kernel
theorem dX12_isPeace_40 : decode cX12_isPeace 40 = .ok (.invokevirtual 226, 3) := by decide +kernel
theorem dX12_isPeace_43 : decode cX12_isPeace 43 = .ok (.invokevirtual 293, 3) := by decide +kernel
theorem dX12_isPeace_46 : decode cX12_isPeace 46 = .ok (.ifCond .ne 7, 3) := by decide +kernel
theorem dX12_isPeace_49 : decode cX12_isPeace 49 = .ok (.iconst 1, 1) := by decide +kernel
theorem dX12_isPeace_50 : decode cX12_isPeace 50 = .ok (.goto 4, 3) := by decide +kernel
theorem dX12_isPeace_53 : decode cX12_isPeace 53 = .ok (.iconst 0, 1) := by decide +kernel
theorem dX12_isPeace_54 : decode cX12_isPeace 54 = .ok (.ireturn, 1) := by decide +kernel
theorem dX12_cathedral_0 : decode cX12_cathedral 0 = .ok (.iload_n 1, 1) := by decide +kernel
theorem dX12_cathedral_1 : decode cX12_cathedral 1 = .ok (.invokestatic 223, 3) := by decide +kernel
theorem dX12_cathedral_4 : decode cX12_cathedral 4 = .ok (.ifCond .ne 5, 3) := by decide +kernel
theorem dX12_cathedral_7 : decode cX12_cathedral 7 = .ok (.iconst (-1), 1) := by decide +kernel
theorem dX12_cathedral_8 : decode cX12_cathedral 8 = .ok (.ireturn, 1) := by decide +kernel
theorem dX12_cathedral_9 : decode cX12_cathedral 9 = .ok (.aload_n 0, 1) := by decide +kernel
theorem dX12_cathedral_10 : decode cX12_cathedral 10 = .ok (.invokevirtual 177, 3) := by decide +kernel
theorem dX12_cathedral_13 : decode cX12_cathedral 13 = .ok (.astore_n 2, 1) := by decide +kernel
theorem dX12_cathedral_14 : decode cX12_cathedral 14 = .ok (.iconst (-1), 1) := by decide +kernel
theorem dX12_cathedral_15 : decode cX12_cathedral 15 = .ok (.istore_n 3, 1) := by decide +kernel
theorem dX12_cathedral_16 : decode cX12_cathedral 16 = .ok (.iconst (-1), 1) := by decide +kernel
theorem dX12_cathedral_17 : decode cX12_cathedral 17 = .ok (.istore 4, 2) := by decide +kernel
theorem dX12_cathedral_19 : decode cX12_cathedral 19 = .ok (.iconst 0, 1) := by decide +kernel
theorem dX12_cathedral_20 : decode cX12_cathedral 20 = .ok (.istore 5, 2) := by decide +kernel
theorem dX12_cathedral_22 : decode cX12_cathedral 22 = .ok (.iload 5, 2) := by decide +kernel
theorem dX12_cathedral_24 : decode cX12_cathedral 24 = .ok (.aload_n 0, 1) := by decide +kernel
theorem dX12_cathedral_25 : decode cX12_cathedral 25 = .ok (.getfield 19, 3) := by decide +kernel
theorem dX12_cathedral_28 : decode cX12_cathedral 28 = .ok (.getfield 151, 3) := by decide +kernel
theorem dX12_cathedral_31 : decode cX12_cathedral 31 = .ok (.if_icmp .ge 70, 3) := by decide +kernel
theorem dX12_cathedral_34 : decode cX12_cathedral 34 = .ok (.aload_n 0, 1) := by decide +kernel
theorem dX12_cathedral_35 : decode cX12_cathedral 35 = .ok (.getfield 38, 3) := by decide +kernel
theorem dX12_cathedral_38 : decode cX12_cathedral 38 = .ok (.getfield 170, 3) := by decide +kernel
theorem dX12_cathedral_41 : decode cX12_cathedral 41 = .ok (.iload 5, 2) := by decide +kernel
theorem dX12_cathedral_43 : decode cX12_cathedral 43 = .ok (.iaload, 1) := by decide +kernel
theorem dX12_cathedral_44 : decode cX12_cathedral 44 = .ok (.istore 6, 2) := by decide +kernel
theorem dX12_cathedral_46 : decode cX12_cathedral 46 = .ok (.iload 6, 2) := by decide +kernel
theorem dX12_cathedral_48 : decode cX12_cathedral 48 = .ok (.iconst (-1), 1) := by decide +kernel
theorem dX12_cathedral_49 : decode cX12_cathedral 49 = .ok (.if_icmp .eq 46, 3) := by decide +kernel
theorem dX12_cathedral_52 : decode cX12_cathedral 52 = .ok (.aload_n 0, 1) := by decide +kernel
theorem dX12_cathedral_53 : decode cX12_cathedral 53 = .ok (.getfield 19, 3) := by decide +kernel
theorem dX12_cathedral_56 : decode cX12_cathedral 56 = .ok (.aload_n 2, 1) := by decide +kernel
theorem dX12_cathedral_57 : decode cX12_cathedral 57 = .ok (.iload 6, 2) := by decide +kernel
theorem dX12_cathedral_59 : decode cX12_cathedral 59 = .ok (.aload_n 0, 1) := by decide +kernel
theorem dX12_cathedral_60 : decode cX12_cathedral 60 = .ok (.getfield 19, 3) := by decide +kernel
theorem dX12_cathedral_63 : decode cX12_cathedral 63 = .ok (.getfield 158, 3) := by decide +kernel
theorem dX12_cathedral_66 : decode cX12_cathedral 66 = .ok (.iload 5, 2) := by decide +kernel
theorem dX12_cathedral_68 : decode cX12_cathedral 68 = .ok (.aaload, 1) := by decide +kernel
theorem dX12_cathedral_69 : decode cX12_cathedral 69 = .ok (.getfield 204, 3) := by decide +kernel
theorem dX12_cathedral_72 : decode cX12_cathedral 72 = .ok (.invokevirtual 188, 3) := by decide +kernel
theorem dX12_cathedral_75 : decode cX12_cathedral 75 = .ok (.iload_n 1, 1) := by decide +kernel
theorem dX12_cathedral_76 : decode cX12_cathedral 76 = .ok (.invokevirtual 184, 3) := by decide +kernel
theorem dX12_cathedral_79 : decode cX12_cathedral 79 = .ok (.istore 7, 2) := by decide +kernel
theorem dX12_cathedral_81 : decode cX12_cathedral 81 = .ok (.iload 7, 2) := by decide +kernel
theorem dX12_cathedral_83 : decode cX12_cathedral 83 = .ok (.iload 4, 2) := by decide +kernel
theorem dX12_cathedral_85 : decode cX12_cathedral 85 = .ok (.if_icmp .le 10, 3) := by decide +kernel
theorem dX12_cathedral_88 : decode cX12_cathedral 88 = .ok (.iload 7, 2) := by decide +kernel
theorem dX12_cathedral_90 : decode cX12_cathedral 90 = .ok (.istore 4, 2) := by decide +kernel
theorem dX12_cathedral_92 : decode cX12_cathedral 92 = .ok (.iload 5, 2) := by decide +kernel
theorem dX12_cathedral_94 : decode cX12_cathedral 94 = .ok (.istore_n 3, 1) := by decide +kernel
theorem dX12_cathedral_95 : decode cX12_cathedral 95 = .ok (.iinc 5 1, 3) := by decide +kernel
theorem dX12_cathedral_98 : decode cX12_cathedral 98 = .ok (.goto (-76), 3) := by decide +kernel
theorem dX12_cathedral_101 : decode cX12_cathedral 101 = .ok (.iload_n 3, 1) := by decide +kernel
theorem dX12_cathedral_102 : decode cX12_cathedral 102 = .ok (.ireturn, 1) := by decide +kernel
theorem dX12_eddies_0 : decode cX12_eddies 0 = .ok (.iconst 0, 1) := by decide +kernel
theorem dX12_eddies_1 : decode cX12_eddies 1 = .ok (.istore_n 1, 1) := by decide +kernel
theorem dX12_eddies_2 : decode cX12_eddies 2 = .ok (.iconst 0, 1) := by decide +kernel
theorem dX12_eddies_3 : decode cX12_eddies 3 = .ok (.istore_n 2, 1) := by decide +kernel
theorem dX12_eddies_4 : decode cX12_eddies 4 = .ok (.iload_n 2, 1) := by decide +kernel
theorem dX12_eddies_5 : decode cX12_eddies 5 = .ok (.aload_n 0, 1) := by decide +kernel
theorem dX12_eddies_6 : decode cX12_eddies 6 = .ok (.getfield 19, 3) := by decide +kernel
theorem dX12_eddies_9 : decode cX12_eddies 9 = .ok (.getfield 151, 3) := by decide +kernel
theorem dX12_eddies_12 : decode cX12_eddies 12 = .ok (.if_icmp .ge 106, 3) := by decide +kernel
theorem dX12_eddies_15 : decode cX12_eddies 15 = .ok (.iload_n 2, 1) := by decide +kernel
theorem dX12_eddies_16 : decode cX12_eddies 16 = .ok (.iconst 1, 1) := by decide +kernel
theorem dX12_eddies_17 : decode cX12_eddies 17 = .ok (.iadd, 1) := by decide +kernel
theorem dX12_eddies_18 : decode cX12_eddies 18 = .ok (.istore_n 3, 1) := by decide +kernel
theorem dX12_eddies_19 : decode cX12_eddies 19 = .ok (.iload_n 3, 1) := by decide +kernel
theorem dX12_eddies_20 : decode cX12_eddies 20 = .ok (.aload_n 0, 1) := by decide +kernel
theorem dX12_eddies_21 : decode cX12_eddies 21 = .ok (.getfield 19, 3) := by decide +kernel
theorem dX12_eddies_24 : decode cX12_eddies 24 = .ok (.getfield 151, 3) := by decide +kernel
theorem dX12_eddies_27 : decode cX12_eddies 27 = .ok (.if_icmp .ge 85, 3) := by decide +kernel
theorem dX12_eddies_30 : decode cX12_eddies 30 = .ok (.aload_n 0, 1) := by decide +kernel
theorem dX12_eddies_31 : decode cX12_eddies 31 = .ok (.getfield 38, 3) := by decide +kernel
theorem dX12_eddies_34 : decode cX12_eddies 34 = .ok (.getfield 170, 3) := by decide +kernel
theorem dX12_eddies_37 : decode cX12_eddies 37 = .ok (.iload_n 2, 1) := by decide +kernel
theorem dX12_eddies_38 : decode cX12_eddies 38 = .ok (.iaload, 1) := by decide +kernel
theorem dX12_eddies_39 : decode cX12_eddies 39 = .ok (.iconst (-1), 1) := by decide +kernel
theorem dX12_eddies_40 : decode cX12_eddies 40 = .ok (.if_icmp .eq 28, 3) := by decide +kernel
theorem dX12_eddies_43 : decode cX12_eddies 43 = .ok (.aload_n 0, 1) := by decide +kernel
theorem dX12_eddies_44 : decode cX12_eddies 44 = .ok (.getfield 38, 3) := by decide +kernel
theorem dX12_eddies_47 : decode cX12_eddies 47 = .ok (.getfield 170, 3) := by decide +kernel
theorem dX12_eddies_50 : decode cX12_eddies 50 = .ok (.iload_n 2, 1) := by decide +kernel
theorem dX12_eddies_51 : decode cX12_eddies 51 = .ok (.iaload, 1) := by decide +kernel
theorem dX12_eddies_52 : decode cX12_eddies 52 = .ok (.aload_n 0, 1) := by decide +kernel
theorem dX12_eddies_53 : decode cX12_eddies 53 = .ok (.getfield 38, 3) := by decide +kernel
theorem dX12_eddies_56 : decode cX12_eddies 56 = .ok (.getfield 170, 3) := by decide +kernel
theorem dX12_eddies_59 : decode cX12_eddies 59 = .ok (.iload_n 3, 1) := by decide +kernel
theorem dX12_eddies_60 : decode cX12_eddies 60 = .ok (.iaload, 1) := by decide +kernel
theorem dX12_eddies_61 : decode cX12_eddies 61 = .ok (.if_icmp .ne 7, 3) := by decide +kernel
theorem dX12_eddies_64 : decode cX12_eddies 64 = .ok (.iconst 1, 1) := by decide +kernel
theorem dX12_eddies_65 : decode cX12_eddies 65 = .ok (.goto 4, 3) := by decide +kernel
theorem dX12_eddies_68 : decode cX12_eddies 68 = .ok (.iconst 0, 1) := by decide +kernel
theorem dX12_eddies_69 : decode cX12_eddies 69 = .ok (.istore 4, 2) := by decide +kernel
theorem dX12_eddies_71 : decode cX12_eddies 71 = .ok (.iload 4, 2) := by decide +kernel
theorem dX12_eddies_73 : decode cX12_eddies 73 = .ok (.ifCond .eq 33, 3) := by decide +kernel
theorem dX12_eddies_76 : decode cX12_eddies 76 = .ok (.aload_n 0, 1) := by decide +kernel
theorem dX12_eddies_77 : decode cX12_eddies 77 = .ok (.getfield 19, 3) := by decide +kernel
theorem dX12_eddies_80 : decode cX12_eddies 80 = .ok (.getfield 158, 3) := by decide +kernel
theorem dX12_eddies_83 : decode cX12_eddies 83 = .ok (.iload_n 2, 1) := by decide +kernel
theorem dX12_eddies_84 : decode cX12_eddies 84 = .ok (.aaload, 1) := by decide +kernel
theorem dX12_eddies_85 : decode cX12_eddies 85 = .ok (.getfield 204, 3) := by decide +kernel
theorem dX12_eddies_88 : decode cX12_eddies 88 = .ok (.aload_n 0, 1) := by decide +kernel
theorem dX12_eddies_89 : decode cX12_eddies 89 = .ok (.getfield 19, 3) := by decide +kernel
theorem dX12_eddies_92 : decode cX12_eddies 92 = .ok (.getfield 158, 3) := by decide +kernel
theorem dX12_eddies_95 : decode cX12_eddies 95 = .ok (.iload_n 3, 1) := by decide +kernel
theorem dX12_eddies_96 : decode cX12_eddies 96 = .ok (.aaload, 1) := by decide +kernel
theorem dX12_eddies_97 : decode cX12_eddies 97 = .ok (.getfield 204, 3) := by decide +kernel
theorem dX12_eddies_100 : decode cX12_eddies 100 = .ok (.if_icmp .ne 6, 3) := by decide +kernel
theorem dX12_eddies_103 : decode cX12_eddies 103 = .ok (.iinc 1 1, 3) := by decide +kernel
theorem dX12_eddies_106 : decode cX12_eddies 106 = .ok (.iinc 3 1, 3) := by decide +kernel
theorem dX12_eddies_109 : decode cX12_eddies 109 = .ok (.goto (-90), 3) := by decide +kernel
theorem dX12_eddies_112 : decode cX12_eddies 112 = .ok (.iinc 2 1, 3) := by decide +kernel
theorem dX12_eddies_115 : decode cX12_eddies 115 = .ok (.goto (-111), 3) := by decide +kernel
theorem dX12_eddies_118 : decode cX12_eddies 118 = .ok (.iload_n 1, 1) := by decide +kernel
theorem dX12_eddies_119 : decode cX12_eddies 119 = .ok (.ireturn, 1) := by decide +kernel
theorem dX12_worst_0 : decode cX12_worst 0 = .ok (.aload_n 0, 1) := by decide +kernel
theorem dX12_worst_1 : decode cX12_worst 1 = .ok (.iload_n 1, 1) := by decide +kernel
theorem dX12_worst_2 : decode cX12_worst 2 = .ok (.invokevirtual 348, 3) := by decide +kernel
theorem dX12_worst_5 : decode cX12_worst 5 = .ok (.ifCond .eq 12, 3) := by decide +kernel
theorem dX12_worst_8 : decode cX12_worst 8 = .ok (.iload_n 2, 1) := by decide +kernel
theorem dX12_worst_9 : decode cX12_worst 9 = .ok (.ifCond .lt 8, 3) := by decide +kernel
theorem dX12_worst_12 : decode cX12_worst 12 = .ok (.iload_n 2, 1) := by decide +kernel
theorem dX12_worst_13 : decode cX12_worst 13 = .ok (.iconst 1, 1) := by decide +kernel
theorem dX12_worst_14 : decode cX12_worst 14 = .ok (.if_icmp .le 14, 3) := by decide +kernel
theorem dX12_worst_20 : decode cX12_worst 20 = .ok (.dup, 1) := by decide +kernel
theorem dX12_worst_28 : decode cX12_worst 28 = .ok (.aload_n 0, 1) := by decide +kernel
theorem dX12_worst_29 : decode cX12_worst 29 = .ok (.iload_n 1, 1) := by decide +kernel
theorem dX12_worst_30 : decode cX12_worst 30 = .ok (.invokevirtual 353, 3) := by decide +kernel
theorem dX12_worst_33 : decode cX12_worst 33 = .ok (.istore_n 3, 1) := by decide +kernel
theorem dX12_worst_34 : decode cX12_worst 34 = .ok (.iconst 0, 1) := by decide +kernel
theorem dX12_worst_35 : decode cX12_worst 35 = .ok (.istore 4, 2) := by decide +kernel
theorem dX12_worst_37 : decode cX12_worst 37 = .ok (.iconst 1, 1) := by decide +kernel
theorem dX12_worst_38 : decode cX12_worst 38 = .ok (.istore 5, 2) := by decide +kernel
theorem dX12_worst_40 : decode cX12_worst 40 = .ok (.iload 5, 2) := by decide +kernel
theorem dX12_worst_42 : decode cX12_worst 42 = .ok (.iconst 4, 1) := by decide +kernel
theorem dX12_worst_43 : decode cX12_worst 43 = .ok (.if_icmp .ge 36, 3) := by decide +kernel
theorem dX12_worst_46 : decode cX12_worst 46 = .ok (.aload_n 0, 1) := by decide +kernel
theorem dX12_worst_47 : decode cX12_worst 47 = .ok (.getfield 19, 3) := by decide +kernel
theorem dX12_worst_50 : decode cX12_worst 50 = .ok (.iload_n 3, 1) := by decide +kernel
theorem dX12_worst_51 : decode cX12_worst 51 = .ok (.iload 5, 2) := by decide +kernel
theorem dX12_worst_53 : decode cX12_worst 53 = .ok (.invokevirtual 184, 3) := by decide +kernel
theorem dX12_worst_56 : decode cX12_worst 56 = .ok (.aload_n 0, 1) := by decide +kernel
theorem dX12_worst_57 : decode cX12_worst 57 = .ok (.getfield 19, 3) := by decide +kernel
theorem dX12_worst_60 : decode cX12_worst 60 = .ok (.iload_n 3, 1) := by decide +kernel
theorem dX12_worst_61 : decode cX12_worst 61 = .ok (.iload 4, 2) := by decide +kernel
theorem dX12_worst_63 : decode cX12_worst 63 = .ok (.invokevirtual 184, 3) := by decide +kernel
theorem dX12_worst_66 : decode cX12_worst 66 = .ok (.if_icmp .le 7, 3) := by decide +kernel
theorem dX12_worst_69 : decode cX12_worst 69 = .ok (.iload 5, 2) := by decide +kernel
theorem dX12_worst_71 : decode cX12_worst 71 = .ok (.istore 4, 2) := by decide +kernel
theorem dX12_worst_73 : decode cX12_worst 73 = .ok (.iinc 5 1, 3) := by decide +kernel
theorem dX12_worst_76 : decode cX12_worst 76 = .ok (.goto (-36), 3) := by decide +kernel
theorem dX12_worst_79 : decode cX12_worst 79 = .ok (.iload_n 2, 1) := by decide +kernel
theorem dX12_worst_80 : decode cX12_worst 80 = .ok (.ifCond .ne 6, 3) := by decide +kernel
theorem dX12_worst_83 : decode cX12_worst 83 = .ok (.iload 4, 2) := by decide +kernel
theorem dX12_worst_85 : decode cX12_worst 85 = .ok (.ireturn, 1) := by decide +kernel
theorem dX12_worst_86 : decode cX12_worst 86 = .ok (.aload_n 0, 1) := by decide +kernel
theorem dX12_worst_87 : decode cX12_worst 87 = .ok (.getfield 19, 3) := by decide +kernel
theorem dX12_worst_90 : decode cX12_worst 90 = .ok (.getfield 356, 3) := by decide +kernel
theorem dX12_worst_93 : decode cX12_worst 93 = .ok (.ifCond .ne 7, 3) := by decide +kernel
theorem dX12_worst_96 : decode cX12_worst 96 = .ok (.iconst 0, 1) := by decide +kernel
theorem dX12_worst_97 : decode cX12_worst 97 = .ok (.goto 15, 3) := by decide +kernel
theorem dX12_worst_100 : decode cX12_worst 100 = .ok (.iload_n 3, 1) := by decide +kernel
theorem dX12_worst_101 : decode cX12_worst 101 = .ok (.invokestatic 312, 3) := by decide +kernel
theorem dX12_worst_104 : decode cX12_worst 104 = .ok (.aload_n 0, 1) := by decide +kernel
theorem dX12_worst_105 : decode cX12_worst 105 = .ok (.getfield 19, 3) := by decide +kernel
theorem dX12_worst_108 : decode cX12_worst 108 = .ok (.getfield 359, 3) := by decide +kernel
theorem dX12_worst_111 : decode cX12_worst 111 = .ok (.imul, 1) := by decide +kernel
theorem dX12_worst_112 : decode cX12_worst 112 = .ok (.istore 5, 2) := by decide +kernel
theorem dX12_worst_114 : decode cX12_worst 114 = .ok (.aload_n 0, 1) := by decide +kernel
theorem dX12_worst_115 : decode cX12_worst 115 = .ok (.getfield 19, 3) := by decide +kernel
theorem dX12_worst_118 : decode cX12_worst 118 = .ok (.iload_n 3, 1) := by decide +kernel
theorem dX12_worst_119 : decode cX12_worst 119 = .ok (.iload 4, 2) := by decide +kernel
theorem dX12_worst_121 : decode cX12_worst 121 = .ok (.invokevirtual 184, 3) := by decide +kernel
theorem dX12_worst_124 : decode cX12_worst 124 = .ok (.iload 5, 2) := by decide +kernel
theorem dX12_worst_126 : decode cX12_worst 126 = .ok (.iadd, 1) := by decide +kernel
theorem dX12_worst_127 : decode cX12_worst 127 = .ok (.aload_n 0, 1) := by decide +kernel
theorem dX12_worst_128 : decode cX12_worst 128 = .ok (.getfield 19, 3) := by decide +kernel
theorem dX12_worst_131 : decode cX12_worst 131 = .ok (.getfield 158, 3) := by decide +kernel
theorem dX12_worst_134 : decode cX12_worst 134 = .ok (.iload_n 1, 1) := by decide +kernel
theorem dX12_worst_135 : decode cX12_worst 135 = .ok (.aaload, 1) := by decide +kernel
theorem dX12_worst_136 : decode cX12_worst 136 = .ok (.getfield 362, 3) := by decide +kernel
theorem dX12_worst_139 : decode cX12_worst 139 = .ok (.isub, 1) := by decide +kernel
theorem dX12_worst_140 : decode cX12_worst 140 = .ok (.ireturn, 1) := by decide +kernel
theorem dX12_share_0 : decode cX12_share 0 = .ok (.aload_n 0, 1) := by decide +kernel
theorem dX12_share_1 : decode cX12_share 1 = .ok (.iload_n 1, 1) := by decide +kernel
theorem dX12_share_2 : decode cX12_share 2 = .ok (.invokevirtual 154, 3) := by decide +kernel
theorem dX12_share_5 : decode cX12_share 5 = .ok (.ifCond .eq 25, 3) := by decide +kernel
theorem dX12_share_8 : decode cX12_share 8 = .ok (.iload_n 2, 1) := by decide +kernel
theorem dX12_share_9 : decode cX12_share 9 = .ok (.invokestatic 223, 3) := by decide +kernel
theorem dX12_share_12 : decode cX12_share 12 = .ok (.ifCond .eq 18, 3) := by decide +kernel
theorem dX12_share_15 : decode cX12_share 15 = .ok (.iload_n 3, 1) := by decide +kernel
theorem dX12_share_16 : decode cX12_share 16 = .ok (.ifCond .lt 14, 3) := by decide +kernel
theorem dX12_share_19 : decode cX12_share 19 = .ok (.iload_n 3, 1) := by decide +kernel
theorem dX12_share_20 : decode cX12_share 20 = .ok (.aload_n 0, 1) := by decide +kernel
theorem dX12_share_21 : decode cX12_share 21 = .ok (.getfield 38, 3) := by decide +kernel
theorem dX12_share_24 : decode cX12_share 24 = .ok (.getfield 146, 3) := by decide +kernel
theorem dX12_share_27 : decode cX12_share 27 = .ok (.if_icmp .lt 5, 3) := by decide +kernel
theorem dX12_share_30 : decode cX12_share 30 = .ok (.iconst (-1), 1) := by decide +kernel
theorem dX12_share_31 : decode cX12_share 31 = .ok (.ireturn, 1) := by decide +kernel
theorem dX12_share_32 : decode cX12_share 32 = .ok (.iconst 0, 1) := by decide +kernel
theorem dX12_share_33 : decode cX12_share 33 = .ok (.istore 4, 2) := by decide +kernel
theorem dX12_share_35 : decode cX12_share 35 = .ok (.iconst 0, 1) := by decide +kernel
theorem dX12_share_36 : decode cX12_share 36 = .ok (.istore 5, 2) := by decide +kernel
theorem dX12_share_38 : decode cX12_share 38 = .ok (.iload 5, 2) := by decide +kernel
theorem dX12_share_40 : decode cX12_share 40 = .ok (.aload_n 0, 1) := by decide +kernel
theorem dX12_share_41 : decode cX12_share 41 = .ok (.getfield 38, 3) := by decide +kernel
theorem dX12_share_44 : decode cX12_share 44 = .ok (.getfield 146, 3) := by decide +kernel
theorem dX12_share_47 : decode cX12_share 47 = .ok (.if_icmp .ge 24, 3) := by decide +kernel
theorem dX12_share_50 : decode cX12_share 50 = .ok (.iload 4, 2) := by decide +kernel
theorem dX12_share_52 : decode cX12_share 52 = .ok (.aload_n 0, 1) := by decide +kernel
theorem dX12_share_53 : decode cX12_share 53 = .ok (.getfield 38, 3) := by decide +kernel
theorem dX12_share_56 : decode cX12_share 56 = .ok (.getfield 150, 3) := by decide +kernel
theorem dX12_share_59 : decode cX12_share 59 = .ok (.iload 5, 2) := by decide +kernel
theorem dX12_share_61 : decode cX12_share 61 = .ok (.iaload, 1) := by decide +kernel
theorem dX12_share_62 : decode cX12_share 62 = .ok (.iadd, 1) := by decide +kernel
theorem dX12_share_63 : decode cX12_share 63 = .ok (.istore 4, 2) := by decide +kernel
theorem dX12_share_65 : decode cX12_share 65 = .ok (.iinc 5 1, 3) := by decide +kernel
theorem dX12_share_68 : decode cX12_share 68 = .ok (.goto (-30), 3) := by decide +kernel
theorem dX12_share_71 : decode cX12_share 71 = .ok (.iload 4, 2) := by decide +kernel
theorem dX12_share_73 : decode cX12_share 73 = .ok (.ifCond .ne 5, 3) := by decide +kernel
theorem dX12_share_76 : decode cX12_share 76 = .ok (.iconst 0, 1) := by decide +kernel
theorem dX12_share_77 : decode cX12_share 77 = .ok (.ireturn, 1) := by decide +kernel
theorem dX12_share_78 : decode cX12_share 78 = .ok (.aload_n 0, 1) := by decide +kernel
theorem dX12_share_79 : decode cX12_share 79 = .ok (.iload_n 3, 1) := by decide +kernel
theorem dX12_share_80 : decode cX12_share 80 = .ok (.aload_n 0, 1) := by decide +kernel
theorem dX12_share_81 : decode cX12_share 81 = .ok (.iload_n 1, 1) := by decide +kernel
theorem dX12_share_82 : decode cX12_share 82 = .ok (.iload_n 2, 1) := by decide +kernel
theorem dX12_share_83 : decode cX12_share 83 = .ok (.invokevirtual 262, 3) := by decide +kernel
theorem dX12_share_86 : decode cX12_share 86 = .ok (.iload 4, 2) := by decide +kernel
theorem dX12_share_88 : decode cX12_share 88 = .ok (.invokevirtual 365, 3) := by decide +kernel
theorem dX12_share_91 : decode cX12_share 91 = .ok (.ireturn, 1) := by decide +kernel
theorem dX12_shareOf_0 : decode cX12_shareOf 0 = .ok (.iload_n 3, 1) := by decide +kernel
theorem dX12_shareOf_1 : decode cX12_shareOf 1 = .ok (.ifCond .gt 5, 3) := by decide +kernel
theorem dX12_shareOf_4 : decode cX12_shareOf 4 = .ok (.iconst 0, 1) := by decide +kernel
theorem dX12_shareOf_5 : decode cX12_shareOf 5 = .ok (.ireturn, 1) := by decide +kernel
theorem dX12_shareOf_6 : decode cX12_shareOf 6 = .ok (.iload_n 2, 1) := by decide +kernel
theorem dX12_shareOf_7 : decode cX12_shareOf 7 = .ok (.aload_n 0, 1) := by decide +kernel
theorem dX12_shareOf_8 : decode cX12_shareOf 8 = .ok (.getfield 38, 3) := by decide +kernel
theorem dX12_shareOf_11 : decode cX12_shareOf 11 = .ok (.getfield 150, 3) := by decide +kernel
theorem dX12_shareOf_14 : decode cX12_shareOf 14 = .ok (.iload_n 1, 1) := by decide +kernel
theorem dX12_shareOf_15 : decode cX12_shareOf 15 = .ok (.iaload, 1) := by decide +kernel
theorem dX12_shareOf_16 : decode cX12_shareOf 16 = .ok (.imul, 1) := by decide +kernel
theorem dX12_shareOf_17 : decode cX12_shareOf 17 = .ok (.iload_n 3, 1) := by decide +kernel
theorem dX12_shareOf_18 : decode cX12_shareOf 18 = .ok (.irem, 1) := by decide +kernel
theorem dX12_shareOf_19 : decode cX12_shareOf 19 = .ok (.istore 4, 2) := by decide +kernel
theorem dX12_shareOf_21 : decode cX12_shareOf 21 = .ok (.iload_n 2, 1) := by decide +kernel
theorem dX12_shareOf_22 : decode cX12_shareOf 22 = .ok (.istore 5, 2) := by decide +kernel
theorem dX12_shareOf_24 : decode cX12_shareOf 24 = .ok (.iconst 0, 1) := by decide +kernel
theorem dX12_shareOf_25 : decode cX12_shareOf 25 = .ok (.istore 6, 2) := by decide +kernel
theorem dX12_shareOf_27 : decode cX12_shareOf 27 = .ok (.iconst 0, 1) := by decide +kernel
theorem dX12_shareOf_28 : decode cX12_shareOf 28 = .ok (.istore 7, 2) := by decide +kernel
theorem dX12_shareOf_30 : decode cX12_shareOf 30 = .ok (.iload 7, 2) := by decide +kernel
theorem dX12_shareOf_32 : decode cX12_shareOf 32 = .ok (.aload_n 0, 1) := by decide +kernel
theorem dX12_shareOf_33 : decode cX12_shareOf 33 = .ok (.getfield 38, 3) := by decide +kernel
theorem dX12_shareOf_36 : decode cX12_shareOf 36 = .ok (.getfield 146, 3) := by decide +kernel
theorem dX12_shareOf_39 : decode cX12_shareOf 39 = .ok (.if_icmp .ge 59, 3) := by decide +kernel
theorem dX12_shareOf_42 : decode cX12_shareOf 42 = .ok (.iload_n 2, 1) := by decide +kernel
theorem dX12_shareOf_43 : decode cX12_shareOf 43 = .ok (.aload_n 0, 1) := by decide +kernel
theorem dX12_shareOf_44 : decode cX12_shareOf 44 = .ok (.getfield 38, 3) := by decide +kernel
theorem dX12_shareOf_47 : decode cX12_shareOf 47 = .ok (.getfield 150, 3) := by decide +kernel
theorem dX12_shareOf_50 : decode cX12_shareOf 50 = .ok (.iload 7, 2) := by decide +kernel
theorem dX12_shareOf_52 : decode cX12_shareOf 52 = .ok (.iaload, 1) := by decide +kernel
theorem dX12_shareOf_53 : decode cX12_shareOf 53 = .ok (.imul, 1) := by decide +kernel
theorem dX12_shareOf_54 : decode cX12_shareOf 54 = .ok (.istore 8, 2) := by decide +kernel
theorem dX12_shareOf_56 : decode cX12_shareOf 56 = .ok (.iload 5, 2) := by decide +kernel
theorem dX12_shareOf_58 : decode cX12_shareOf 58 = .ok (.iload 8, 2) := by decide +kernel
theorem dX12_shareOf_60 : decode cX12_shareOf 60 = .ok (.iload_n 3, 1) := by decide +kernel
theorem dX12_shareOf_61 : decode cX12_shareOf 61 = .ok (.idiv, 1) := by decide +kernel
theorem dX12_shareOf_62 : decode cX12_shareOf 62 = .ok (.isub, 1) := by decide +kernel
theorem dX12_shareOf_63 : decode cX12_shareOf 63 = .ok (.istore 5, 2) := by decide +kernel
theorem dX12_shareOf_65 : decode cX12_shareOf 65 = .ok (.iload 8, 2) := by decide +kernel
theorem dX12_shareOf_67 : decode cX12_shareOf 67 = .ok (.iload_n 3, 1) := by decide +kernel
theorem dX12_shareOf_68 : decode cX12_shareOf 68 = .ok (.irem, 1) := by decide +kernel
theorem dX12_shareOf_69 : decode cX12_shareOf 69 = .ok (.iload 4, 2) := by decide +kernel
theorem dX12_shareOf_71 : decode cX12_shareOf 71 = .ok (.if_icmp .gt 18, 3) := by decide +kernel
theorem dX12_shareOf_74 : decode cX12_shareOf 74 = .ok (.iload 8, 2) := by decide +kernel
theorem dX12_shareOf_76 : decode cX12_shareOf 76 = .ok (.iload_n 3, 1) := by decide +kernel
theorem dX12_shareOf_77 : decode cX12_shareOf 77 = .ok (.irem, 1) := by decide +kernel
theorem dX12_shareOf_78 : decode cX12_shareOf 78 = .ok (.iload 4, 2) := by decide +kernel
theorem dX12_shareOf_80 : decode cX12_shareOf 80 = .ok (.if_icmp .ne 12, 3) := by decide +kernel
theorem dX12_shareOf_83 : decode cX12_shareOf 83 = .ok (.iload 7, 2) := by decide +kernel
theorem dX12_shareOf_85 : decode cX12_shareOf 85 = .ok (.iload_n 1, 1) := by decide +kernel
theorem dX12_shareOf_86 : decode cX12_shareOf 86 = .ok (.if_icmp .ge 6, 3) := by decide +kernel
theorem dX12_shareOf_89 : decode cX12_shareOf 89 = .ok (.iinc 6 1, 3) := by decide +kernel
theorem dX12_shareOf_92 : decode cX12_shareOf 92 = .ok (.iinc 7 1, 3) := by decide +kernel
theorem dX12_shareOf_95 : decode cX12_shareOf 95 = .ok (.goto (-65), 3) := by decide +kernel
theorem dX12_shareOf_98 : decode cX12_shareOf 98 = .ok (.iload_n 2, 1) := by decide +kernel
theorem dX12_shareOf_99 : decode cX12_shareOf 99 = .ok (.aload_n 0, 1) := by decide +kernel
theorem dX12_shareOf_100 : decode cX12_shareOf 100 = .ok (.getfield 38, 3) := by decide +kernel
theorem dX12_shareOf_103 : decode cX12_shareOf 103 = .ok (.getfield 150, 3) := by decide +kernel
theorem dX12_shareOf_106 : decode cX12_shareOf 106 = .ok (.iload_n 1, 1) := by decide +kernel
theorem dX12_shareOf_107 : decode cX12_shareOf 107 = .ok (.iaload, 1) := by decide +kernel
theorem dX12_shareOf_108 : decode cX12_shareOf 108 = .ok (.imul, 1) := by decide +kernel
theorem dX12_shareOf_109 : decode cX12_shareOf 109 = .ok (.iload_n 3, 1) := by decide +kernel
theorem dX12_shareOf_110 : decode cX12_shareOf 110 = .ok (.idiv, 1) := by decide +kernel
theorem dX12_shareOf_111 : decode cX12_shareOf 111 = .ok (.iload 6, 2) := by decide +kernel
theorem dX12_shareOf_113 : decode cX12_shareOf 113 = .ok (.iload 5, 2) := by decide +kernel
theorem dX12_shareOf_115 : decode cX12_shareOf 115 = .ok (.if_icmp .ge 7, 3) := by decide +kernel
theorem dX12_shareOf_118 : decode cX12_shareOf 118 = .ok (.iconst 1, 1) := by decide +kernel
theorem dX12_shareOf_119 : decode cX12_shareOf 119 = .ok (.goto 4, 3) := by decide +kernel
theorem dX12_shareOf_122 : decode cX12_shareOf 122 = .ok (.iconst 0, 1) := by decide +kernel
theorem dX12_shareOf_123 : decode cX12_shareOf 123 = .ok (.iadd, 1) := by decide +kernel
theorem dX12_shareOf_124 : decode cX12_shareOf 124 = .ok (.ireturn, 1) := by decide +kernel
theorem dX12_storms_0 : decode cX12_storms 0 = .ok (.aload_n 0, 1) := by decide +kernel
theorem dX12_storms_1 : decode cX12_storms 1 = .ok (.iload_n 1, 1) := by decide +kernel
theorem dX12_storms_2 : decode cX12_storms 2 = .ok (.invokevirtual 348, 3) := by decide +kernel
theorem dX12_storms_5 : decode cX12_storms 5 = .ok (.ifCond .eq 10, 3) := by decide +kernel
theorem dX12_storms_8 : decode cX12_storms 8 = .ok (.iload_n 2, 1) := by decide +kernel
theorem dX12_storms_9 : decode cX12_storms 9 = .ok (.invokestatic 223, 3) := by decide +kernel
theorem dX12_storms_12 : decode cX12_storms 12 = .ok (.ifCond .ne 5, 3) := by decide +kernel
theorem dX12_storms_15 : decode cX12_storms 15 = .ok (.iconst (-1), 1) := by decide +kernel
theorem dX12_storms_16 : decode cX12_storms 16 = .ok (.ireturn, 1) := by decide +kernel
theorem dX12_storms_17 : decode cX12_storms 17 = .ok (.aload_n 0, 1) := by decide +kernel
theorem dX12_storms_18 : decode cX12_storms 18 = .ok (.getfield 19, 3) := by decide +kernel
theorem dX12_storms_21 : decode cX12_storms 21 = .ok (.aload_n 0, 1) := by decide +kernel
theorem dX12_storms_22 : decode cX12_storms 22 = .ok (.iload_n 1, 1) := by decide +kernel
theorem dX12_storms_23 : decode cX12_storms 23 = .ok (.invokevirtual 353, 3) := by decide +kernel
theorem dX12_storms_26 : decode cX12_storms 26 = .ok (.iload_n 2, 1) := by decide +kernel
theorem dX12_storms_27 : decode cX12_storms 27 = .ok (.aload_n 0, 1) := by decide +kernel
theorem dX12_storms_28 : decode cX12_storms 28 = .ok (.getfield 19, 3) := by decide +kernel
theorem dX12_storms_31 : decode cX12_storms 31 = .ok (.getfield 158, 3) := by decide +kernel
theorem dX12_storms_34 : decode cX12_storms 34 = .ok (.iload_n 1, 1) := by decide +kernel
theorem dX12_storms_35 : decode cX12_storms 35 = .ok (.aaload, 1) := by decide +kernel
theorem dX12_storms_36 : decode cX12_storms 36 = .ok (.getfield 362, 3) := by decide +kernel
theorem dX12_storms_39 : decode cX12_storms 39 = .ok (.invokevirtual 369, 3) := by decide +kernel
theorem dX12_storms_42 : decode cX12_storms 42 = .ok (.ireturn, 1) := by decide +kernel
theorem dX12_walls_0 : decode cX12_walls 0 = .ok (.aload_n 0, 1) := by decide +kernel
theorem dX12_walls_1 : decode cX12_walls 1 = .ok (.iload_n 1, 1) := by decide +kernel
theorem dX12_walls_2 : decode cX12_walls 2 = .ok (.invokevirtual 348, 3) := by decide +kernel
theorem dX12_walls_5 : decode cX12_walls 5 = .ok (.ifCond .eq 21, 3) := by decide +kernel
theorem dX12_walls_8 : decode cX12_walls 8 = .ok (.iload_n 2, 1) := by decide +kernel
theorem dX12_walls_9 : decode cX12_walls 9 = .ok (.invokestatic 223, 3) := by decide +kernel
theorem dX12_walls_12 : decode cX12_walls 12 = .ok (.ifCond .eq 14, 3) := by decide +kernel
theorem dX12_walls_15 : decode cX12_walls 15 = .ok (.iload_n 3, 1) := by decide +kernel
theorem dX12_walls_16 : decode cX12_walls 16 = .ok (.ifCond .lt 10, 3) := by decide +kernel
theorem dX12_walls_19 : decode cX12_walls 19 = .ok (.iload_n 3, 1) := by decide +kernel
theorem dX12_walls_20 : decode cX12_walls 20 = .ok (.ldc_w 372, 3) := by decide +kernel
theorem dX12_walls_23 : decode cX12_walls 23 = .ok (.if_icmp .le 5, 3) := by decide +kernel
theorem dX12_walls_26 : decode cX12_walls 26 = .ok (.iconst (-1), 1) := by decide +kernel
theorem dX12_walls_27 : decode cX12_walls 27 = .ok (.ireturn, 1) := by decide +kernel
theorem dX12_walls_28 : decode cX12_walls 28 = .ok (.aload_n 0, 1) := by decide +kernel
theorem dX12_walls_29 : decode cX12_walls 29 = .ok (.iload_n 1, 1) := by decide +kernel
theorem dX12_walls_30 : decode cX12_walls 30 = .ok (.invokevirtual 353, 3) := by decide +kernel
theorem dX12_walls_33 : decode cX12_walls 33 = .ok (.istore 4, 2) := by decide +kernel
theorem dX12_walls_35 : decode cX12_walls 35 = .ok (.aload_n 0, 1) := by decide +kernel
theorem dX12_walls_36 : decode cX12_walls 36 = .ok (.getfield 19, 3) := by decide +kernel
theorem dX12_walls_39 : decode cX12_walls 39 = .ok (.iload 4, 2) := by decide +kernel
theorem dX12_walls_41 : decode cX12_walls 41 = .ok (.iload_n 2, 1) := by decide +kernel
theorem dX12_walls_42 : decode cX12_walls 42 = .ok (.invokevirtual 184, 3) := by decide +kernel
theorem dX12_walls_45 : decode cX12_walls 45 = .ok (.istore 5, 2) := by decide +kernel
theorem dX12_walls_47 : decode cX12_walls 47 = .ok (.iconst 0, 1) := by decide +kernel
theorem dX12_walls_48 : decode cX12_walls 48 = .ok (.istore 6, 2) := by decide +kernel
theorem dX12_walls_50 : decode cX12_walls 50 = .ok (.iconst 0, 1) := by decide +kernel
theorem dX12_walls_51 : decode cX12_walls 51 = .ok (.istore 7, 2) := by decide +kernel
theorem dX12_walls_53 : decode cX12_walls 53 = .ok (.iload 7, 2) := by decide +kernel
theorem dX12_walls_55 : decode cX12_walls 55 = .ok (.bipush 6, 2) := by decide +kernel
theorem dX12_walls_57 : decode cX12_walls 57 = .ok (.if_icmp .gt 43, 3) := by decide +kernel
theorem dX12_walls_60 : decode cX12_walls 60 = .ok (.aload_n 0, 1) := by decide +kernel
theorem dX12_walls_61 : decode cX12_walls 61 = .ok (.getfield 19, 3) := by decide +kernel
theorem dX12_walls_64 : decode cX12_walls 64 = .ok (.iload 4, 2) := by decide +kernel
theorem dX12_walls_66 : decode cX12_walls 66 = .ok (.iload_n 2, 1) := by decide +kernel
theorem dX12_walls_67 : decode cX12_walls 67 = .ok (.iload 6, 2) := by decide +kernel
theorem dX12_walls_69 : decode cX12_walls 69 = .ok (.invokevirtual 369, 3) := by decide +kernel
theorem dX12_walls_72 : decode cX12_walls 72 = .ok (.iload_n 3, 1) := by decide +kernel
theorem dX12_walls_73 : decode cX12_walls 73 = .ok (.if_icmp .gt 6, 3) := by decide +kernel
theorem dX12_walls_76 : decode cX12_walls 76 = .ok (.iload 6, 2) := by decide +kernel
theorem dX12_walls_78 : decode cX12_walls 78 = .ok (.ireturn, 1) := by decide +kernel
theorem dX12_walls_79 : decode cX12_walls 79 = .ok (.iload 5, 2) := by decide +kernel
theorem dX12_walls_81 : decode cX12_walls 81 = .ok (.iload 7, 2) := by decide +kernel
theorem dX12_walls_83 : decode cX12_walls 83 = .ok (.aload_n 0, 1) := by decide +kernel
theorem dX12_walls_84 : decode cX12_walls 84 = .ok (.getfield 19, 3) := by decide +kernel
theorem dX12_walls_87 : decode cX12_walls 87 = .ok (.getfield 359, 3) := by decide +kernel
theorem dX12_walls_90 : decode cX12_walls 90 = .ok (.imul, 1) := by decide +kernel
theorem dX12_walls_91 : decode cX12_walls 91 = .ok (.iadd, 1) := by decide +kernel
theorem dX12_walls_92 : decode cX12_walls 92 = .ok (.istore 6, 2) := by decide +kernel
theorem dX12_walls_94 : decode cX12_walls 94 = .ok (.iinc 7 1, 3) := by decide +kernel
theorem dX12_walls_97 : decode cX12_walls 97 = .ok (.goto (-44), 3) := by decide +kernel
theorem dX12_walls_100 : decode cX12_walls 100 = .ok (.iload 6, 2) := by decide +kernel
theorem dX12_walls_102 : decode cX12_walls 102 = .ok (.ireturn, 1) := by decide +kernel
theorem dX12_tell_0 : decode cX12_tell 0 = .ok (.aload_n 0, 1) := by decide +kernel
theorem dX12_tell_1 : decode cX12_tell 1 = .ok (.iload_n 1, 1) := by decide +kernel
theorem dX12_tell_2 : decode cX12_tell 2 = .ok (.invokevirtual 154, 3) := by decide +kernel
theorem dX12_tell_5 : decode cX12_tell 5 = .ok (.ifCond .eq 33, 3) := by decide +kernel
theorem dX12_tell_8 : decode cX12_tell 8 = .ok (.iload_n 2, 1) := by decide +kernel
theorem dX12_tell_9 : decode cX12_tell 9 = .ok (.invokestatic 223, 3) := by decide +kernel
theorem dX12_tell_12 : decode cX12_tell 12 = .ok (.ifCond .eq 26, 3) := by decide +kernel
theorem dX12_tell_15 : decode cX12_tell 15 = .ok (.iload_n 3, 1) := by decide +kernel
theorem dX12_tell_16 : decode cX12_tell 16 = .ok (.ifCond .lt 22, 3) := by decide +kernel
theorem dX12_tell_19 : decode cX12_tell 19 = .ok (.iload_n 3, 1) := by decide +kernel
theorem dX12_tell_20 : decode cX12_tell 20 = .ok (.sipush 9999, 3) := by decide +kernel
theorem dX12_tell_23 : decode cX12_tell 23 = .ok (.if_icmp .gt 15, 3) := by decide +kernel
theorem dX12_tell_26 : decode cX12_tell 26 = .ok (.aload_n 0, 1) := by decide +kernel
theorem dX12_tell_27 : decode cX12_tell 27 = .ok (.getfield 38, 3) := by decide +kernel
theorem dX12_tell_30 : decode cX12_tell 30 = .ok (.getfield 373, 3) := by decide +kernel
theorem dX12_tell_33 : decode cX12_tell 33 = .ok (.bipush 10, 2) := by decide +kernel
theorem dX12_tell_35 : decode cX12_tell 35 = .ok (.if_icmp .lt 5, 3) := by decide +kernel
theorem dX12_tell_38 : decode cX12_tell 38 = .ok (.iconst 0, 1) := by decide +kernel
theorem dX12_tell_39 : decode cX12_tell 39 = .ok (.ireturn, 1) := by decide +kernel
theorem dX12_tell_40 : decode cX12_tell 40 = .ok (.aload_n 0, 1) := by decide +kernel
theorem dX12_tell_41 : decode cX12_tell 41 = .ok (.getfield 38, 3) := by decide +kernel
theorem dX12_tell_44 : decode cX12_tell 44 = .ok (.getfield 376, 3) := by decide +kernel
theorem dX12_tell_47 : decode cX12_tell 47 = .ok (.aload_n 0, 1) := by decide +kernel
theorem dX12_tell_48 : decode cX12_tell 48 = .ok (.getfield 38, 3) := by decide +kernel
theorem dX12_tell_51 : decode cX12_tell 51 = .ok (.getfield 373, 3) := by decide +kernel
theorem dX12_tell_54 : decode cX12_tell 54 = .ok (.iload_n 1, 1) := by decide +kernel
theorem dX12_tell_55 : decode cX12_tell 55 = .ok (.iastore, 1) := by decide +kernel
theorem dX12_tell_56 : decode cX12_tell 56 = .ok (.aload_n 0, 1) := by decide +kernel
theorem dX12_tell_57 : decode cX12_tell 57 = .ok (.getfield 38, 3) := by decide +kernel
theorem dX12_tell_60 : decode cX12_tell 60 = .ok (.getfield 379, 3) := by decide +kernel
theorem dX12_tell_63 : decode cX12_tell 63 = .ok (.aload_n 0, 1) := by decide +kernel
theorem dX12_tell_64 : decode cX12_tell 64 = .ok (.getfield 38, 3) := by decide +kernel
theorem dX12_tell_67 : decode cX12_tell 67 = .ok (.getfield 373, 3) := by decide +kernel
theorem dX12_tell_70 : decode cX12_tell 70 = .ok (.iload_n 2, 1) := by decide +kernel
theorem dX12_tell_71 : decode cX12_tell 71 = .ok (.iastore, 1) := by decide +kernel
theorem dX12_tell_72 : decode cX12_tell 72 = .ok (.aload_n 0, 1) := by decide +kernel
theorem dX12_tell_73 : decode cX12_tell 73 = .ok (.getfield 38, 3) := by decide +kernel
theorem dX12_tell_76 : decode cX12_tell 76 = .ok (.getfield 382, 3) := by decide +kernel
theorem dX12_tell_79 : decode cX12_tell 79 = .ok (.aload_n 0, 1) := by decide +kernel
theorem dX12_tell_80 : decode cX12_tell 80 = .ok (.getfield 38, 3) := by decide +kernel
theorem dX12_tell_83 : decode cX12_tell 83 = .ok (.getfield 373, 3) := by decide +kernel
theorem dX12_tell_86 : decode cX12_tell 86 = .ok (.iload_n 3, 1) := by decide +kernel
theorem dX12_tell_87 : decode cX12_tell 87 = .ok (.iastore, 1) := by decide +kernel
theorem dX12_tell_88 : decode cX12_tell 88 = .ok (.aload_n 0, 1) := by decide +kernel
theorem dX12_tell_89 : decode cX12_tell 89 = .ok (.getfield 38, 3) := by decide +kernel
theorem dX12_tell_92 : decode cX12_tell 92 = .ok (.dup, 1) := by decide +kernel
theorem dX12_tell_93 : decode cX12_tell 93 = .ok (.getfield 373, 3) := by decide +kernel
theorem dX12_tell_96 : decode cX12_tell 96 = .ok (.iconst 1, 1) := by decide +kernel
theorem dX12_tell_97 : decode cX12_tell 97 = .ok (.iadd, 1) := by decide +kernel
theorem dX12_tell_98 : decode cX12_tell 98 = .ok (.putfield 373, 3) := by decide +kernel
theorem dX12_tell_101 : decode cX12_tell 101 = .ok (.aload_n 0, 1) := by decide +kernel
theorem dX12_tell_102 : decode cX12_tell 102 = .ok (.getfield 76, 3) := by decide +kernel
theorem dX12_tell_105 : decode cX12_tell 105 = .ok (.iconst 0, 1) := by decide +kernel
theorem dX12_tell_106 : decode cX12_tell 106 = .ok (.putfield 127, 3) := by decide +kernel
theorem dX12_tell_109 : decode cX12_tell 109 = .ok (.iconst 1, 1) := by decide +kernel
theorem dX12_tell_110 : decode cX12_tell 110 = .ok (.ireturn, 1) := by decide +kernel
theorem dX12_found_0 : decode cX12_found 0 = .ok (.iload_n 1, 1) := by decide +kernel
theorem dX12_found_1 : decode cX12_found 1 = .ok (.ifCond .lt 16, 3) := by decide +kernel
theorem dX12_found_4 : decode cX12_found 4 = .ok (.iload_n 1, 1) := by decide +kernel
theorem dX12_found_5 : decode cX12_found 5 = .ok (.iconst 2, 1) := by decide +kernel
theorem dX12_found_6 : decode cX12_found 6 = .ok (.aload_n 0, 1) := by decide +kernel
theorem dX12_found_7 : decode cX12_found 7 = .ok (.getfield 19, 3) := by decide +kernel
theorem dX12_found_10 : decode cX12_found 10 = .ok (.getfield 151, 3) := by decide +kernel
theorem dX12_found_13 : decode cX12_found 13 = .ok (.iadd, 1) := by decide +kernel
theorem dX12_found_14 : decode cX12_found 14 = .ok (.if_icmp .lt 6, 3) := by decide +kernel
theorem dX12_found_17 : decode cX12_found 17 = .ok (.bipush (-3), 2) := by decide +kernel
theorem dX12_found_19 : decode cX12_found 19 = .ok (.ireturn, 1) := by decide +kernel
theorem dX12_found_20 : decode cX12_found 20 = .ok (.aload_n 0, 1) := by decide +kernel
theorem dX12_found_21 : decode cX12_found 21 = .ok (.getfield 76, 3) := by decide +kernel
theorem dX12_found_24 : decode cX12_found 24 = .ok (.aload_n 0, 1) := by decide +kernel
theorem dX12_found_25 : decode cX12_found 25 = .ok (.getfield 19, 3) := by decide +kernel
theorem dX12_found_28 : decode cX12_found 28 = .ok (.invokevirtual 385, 3) := by decide +kernel
theorem dX12_found_31 : decode cX12_found 31 = .ok (.iload_n 1, 1) := by decide +kernel
theorem dX12_found_32 : decode cX12_found 32 = .ok (.ifCond .ne 11, 3) := by decide +kernel
theorem dX12_found_35 : decode cX12_found 35 = .ok (.aload_n 0, 1) := by decide +kernel
theorem dX12_found_36 : decode cX12_found 36 = .ok (.getfield 76, 3) := by decide +kernel
theorem dX12_found_39 : decode cX12_found 39 = .ok (.getfield 386, 3) := by decide +kernel
theorem dX12_found_42 : decode cX12_found 42 = .ok (.ireturn, 1) := by decide +kernel
theorem dX12_found_43 : decode cX12_found 43 = .ok (.aload_n 0, 1) := by decide +kernel
theorem dX12_found_44 : decode cX12_found 44 = .ok (.getfield 76, 3) := by decide +kernel
theorem dX12_found_47 : decode cX12_found 47 = .ok (.getfield 386, 3) := by decide +kernel
theorem dX12_found_50 : decode cX12_found 50 = .ok (.ifCond .ne 6, 3) := by decide +kernel
theorem dX12_found_53 : decode cX12_found 53 = .ok (.bipush (-3), 2) := by decide +kernel
theorem dX12_found_55 : decode cX12_found 55 = .ok (.ireturn, 1) := by decide +kernel
theorem dX12_found_56 : decode cX12_found 56 = .ok (.iload_n 1, 1) := by decide +kernel
theorem dX12_found_57 : decode cX12_found 57 = .ok (.iconst 1, 1) := by decide +kernel
theorem dX12_found_58 : decode cX12_found 58 = .ok (.if_icmp .ne 13, 3) := by decide +kernel
theorem dX12_found_61 : decode cX12_found 61 = .ok (.aload_n 0, 1) := by decide +kernel
theorem dX12_found_62 : decode cX12_found 62 = .ok (.getfield 76, 3) := by decide +kernel
theorem dX12_found_65 : decode cX12_found 65 = .ok (.getfield 387, 3) := by decide +kernel
theorem dX12_found_68 : decode cX12_found 68 = .ok (.goto 14, 3) := by decide +kernel
theorem dX12_found_71 : decode cX12_found 71 = .ok (.aload_n 0, 1) := by decide +kernel
theorem dX12_found_72 : decode cX12_found 72 = .ok (.getfield 76, 3) := by decide +kernel
theorem dX12_found_75 : decode cX12_found 75 = .ok (.getfield 390, 3) := by decide +kernel
theorem dX12_found_78 : decode cX12_found 78 = .ok (.iload_n 1, 1) := by decide +kernel
theorem dX12_found_79 : decode cX12_found 79 = .ok (.iconst 2, 1) := by decide +kernel
theorem dX12_found_80 : decode cX12_found 80 = .ok (.isub, 1) := by decide +kernel
theorem dX12_found_81 : decode cX12_found 81 = .ok (.iaload, 1) := by decide +kernel
theorem dX12_found_82 : decode cX12_found 82 = .ok (.ireturn, 1) := by decide +kernel
theorem dX12_rests_0 : decode cX12_rests 0 = .ok (.aload_n 0, 1) := by decide +kernel
theorem dX12_rests_1 : decode cX12_rests 1 = .ok (.iload_n 1, 1) := by decide +kernel
theorem dX12_rests_2 : decode cX12_rests 2 = .ok (.invokevirtual 154, 3) := by decide +kernel
theorem dX12_rests_5 : decode cX12_rests 5 = .ok (.ifCond .eq 18, 3) := by decide +kernel
theorem dX12_rests_8 : decode cX12_rests 8 = .ok (.aload_n 0, 1) := by decide +kernel
theorem dX12_rests_9 : decode cX12_rests 9 = .ok (.iload_n 2, 1) := by decide +kernel
theorem dX12_rests_10 : decode cX12_rests 10 = .ok (.iload_n 3, 1) := by decide +kernel
theorem dX12_rests_11 : decode cX12_rests 11 = .ok (.invokevirtual 238, 3) := by decide +kernel
theorem dX12_rests_14 : decode cX12_rests 14 = .ok (.ifCond .eq 9, 3) := by decide +kernel
theorem dX12_rests_17 : decode cX12_rests 17 = .ok (.iload 4, 2) := by decide +kernel
theorem dX12_rests_19 : decode cX12_rests 19 = .ok (.iconst (-1), 1) := by decide +kernel
theorem dX12_rests_20 : decode cX12_rests 20 = .ok (.if_icmp .ge 5, 3) := by decide +kernel
theorem dX12_rests_23 : decode cX12_rests 23 = .ok (.iconst (-1), 1) := by decide +kernel
theorem dX12_rests_24 : decode cX12_rests 24 = .ok (.ireturn, 1) := by decide +kernel
theorem dX12_rests_25 : decode cX12_rests 25 = .ok (.aload_n 0, 1) := by decide +kernel
theorem dX12_rests_26 : decode cX12_rests 26 = .ok (.invokevirtual 177, 3) := by decide +kernel
theorem dX12_rests_29 : decode cX12_rests 29 = .ok (.astore 5, 2) := by decide +kernel
theorem dX12_rests_31 : decode cX12_rests 31 = .ok (.aload 5, 2) := by decide +kernel
theorem dX12_rests_33 : decode cX12_rests 33 = .ok (.iload_n 1, 1) := by decide +kernel
theorem dX12_rests_34 : decode cX12_rests 34 = .ok (.iload_n 2, 1) := by decide +kernel
theorem dX12_rests_35 : decode cX12_rests 35 = .ok (.invokevirtual 245, 3) := by decide +kernel
theorem dX12_rests_38 : decode cX12_rests 38 = .ok (.ifCond .eq 13, 3) := by decide +kernel
theorem dX12_rests_41 : decode cX12_rests 41 = .ok (.aload 5, 2) := by decide +kernel
theorem dX12_rests_43 : decode cX12_rests 43 = .ok (.iload_n 1, 1) := by decide +kernel
theorem dX12_rests_44 : decode cX12_rests 44 = .ok (.iload_n 3, 1) := by decide +kernel
theorem dX12_rests_45 : decode cX12_rests 45 = .ok (.invokevirtual 245, 3) := by decide +kernel
theorem dX12_rests_48 : decode cX12_rests 48 = .ok (.ifCond .ne 5, 3) := by decide +kernel
theorem dX12_rests_51 : decode cX12_rests 51 = .ok (.iconst (-1), 1) := by decide +kernel
theorem dX12_rests_52 : decode cX12_rests 52 = .ok (.ireturn, 1) := by decide +kernel
theorem dX12_rests_53 : decode cX12_rests 53 = .ok (.aload_n 0, 1) := by decide +kernel
theorem dX12_rests_54 : decode cX12_rests 54 = .ok (.iload_n 1, 1) := by decide +kernel
theorem dX12_rests_55 : decode cX12_rests 55 = .ok (.aload_n 0, 1) := by decide +kernel
theorem dX12_rests_56 : decode cX12_rests 56 = .ok (.invokevirtual 226, 3) := by decide +kernel
theorem dX12_rests_59 : decode cX12_rests 59 = .ok (.invokevirtual 262, 3) := by decide +kernel
theorem dX12_rests_62 : decode cX12_rests 62 = .ok (.iconst 5, 1) := by decide +kernel
theorem dX12_rests_63 : decode cX12_rests 63 = .ok (.idiv, 1) := by decide +kernel
theorem dX12_rests_64 : decode cX12_rests 64 = .ok (.istore 6, 2) := by decide +kernel
theorem dX12_rests_66 : decode cX12_rests 66 = .ok (.iconst 0, 1) := by decide +kernel
theorem dX12_rests_67 : decode cX12_rests 67 = .ok (.istore 7, 2) := by decide +kernel
theorem dX12_rests_69 : decode cX12_rests 69 = .ok (.iconst 0, 1) := by decide +kernel
theorem dX12_rests_70 : decode cX12_rests 70 = .ok (.istore 8, 2) := by decide +kernel
theorem dX12_rests_72 : decode cX12_rests 72 = .ok (.iload 8, 2) := by decide +kernel
theorem dX12_rests_74 : decode cX12_rests 74 = .ok (.bipush 9, 2) := by decide +kernel
theorem dX12_rests_76 : decode cX12_rests 76 = .ok (.if_icmp .gt 56, 3) := by decide +kernel
theorem dX12_rests_79 : decode cX12_rests 79 = .ok (.iconst 0, 1) := by decide +kernel
theorem dX12_rests_80 : decode cX12_rests 80 = .ok (.istore 9, 2) := by decide +kernel
theorem dX12_rests_82 : decode cX12_rests 82 = .ok (.iload 9, 2) := by decide +kernel
theorem dX12_rests_84 : decode cX12_rests 84 = .ok (.bipush 9, 2) := by decide +kernel
theorem dX12_rests_86 : decode cX12_rests 86 = .ok (.if_icmp .gt 40, 3) := by decide +kernel
theorem dX12_rests_89 : decode cX12_rests 89 = .ok (.iload 8, 2) := by decide +kernel
theorem dX12_rests_91 : decode cX12_rests 91 = .ok (.iload 9, 2) := by decide +kernel
theorem dX12_rests_93 : decode cX12_rests 93 = .ok (.iload 6, 2) := by decide +kernel
theorem dX12_rests_95 : decode cX12_rests 95 = .ok (.invokestatic 391, 3) := by decide +kernel
theorem dX12_rests_98 : decode cX12_rests 98 = .ok (.ifCond .eq 22, 3) := by decide +kernel
theorem dX12_rests_101 : decode cX12_rests 101 = .ok (.iload 7, 2) := by decide +kernel
theorem dX12_rests_103 : decode cX12_rests 103 = .ok (.iload 4, 2) := by decide +kernel
theorem dX12_rests_105 : decode cX12_rests 105 = .ok (.if_icmp .ne 12, 3) := by decide +kernel
theorem dX12_rests_108 : decode cX12_rests 108 = .ok (.bipush 10, 2) := by decide +kernel
theorem dX12_rests_110 : decode cX12_rests 110 = .ok (.iload 8, 2) := by decide +kernel
theorem dX12_rests_112 : decode cX12_rests 112 = .ok (.imul, 1) := by decide +kernel
theorem dX12_rests_113 : decode cX12_rests 113 = .ok (.iload 9, 2) := by decide +kernel
theorem dX12_rests_115 : decode cX12_rests 115 = .ok (.iadd, 1) := by decide +kernel
theorem dX12_rests_116 : decode cX12_rests 116 = .ok (.ireturn, 1) := by decide +kernel
theorem dX12_rests_117 : decode cX12_rests 117 = .ok (.iinc 7 1, 3) := by decide +kernel
theorem dX12_rests_120 : decode cX12_rests 120 = .ok (.iinc 9 1, 3) := by decide +kernel
theorem dX12_rests_123 : decode cX12_rests 123 = .ok (.goto (-41), 3) := by decide +kernel
theorem dX12_rests_126 : decode cX12_rests 126 = .ok (.iinc 8 1, 3) := by decide +kernel
theorem dX12_rests_129 : decode cX12_rests 129 = .ok (.goto (-57), 3) := by decide +kernel
theorem dX12_rests_132 : decode cX12_rests 132 = .ok (.iload 4, 2) := by decide +kernel
theorem dX12_rests_134 : decode cX12_rests 134 = .ok (.iconst (-1), 1) := by decide +kernel
theorem dX12_rests_135 : decode cX12_rests 135 = .ok (.if_icmp .ne 8, 3) := by decide +kernel
theorem dX12_rests_138 : decode cX12_rests 138 = .ok (.iload 7, 2) := by decide +kernel
theorem dX12_rests_140 : decode cX12_rests 140 = .ok (.goto 4, 3) := by decide +kernel
theorem dX12_rests_143 : decode cX12_rests 143 = .ok (.iconst (-1), 1) := by decide +kernel
theorem dX12_rests_144 : decode cX12_rests 144 = .ok (.ireturn, 1) := by decide +kernel
theorem dX12_areAtRest_0 : decode cX12_areAtRest 0 = .ok (.iload_n 0, 1) := by decide +kernel
theorem dX12_areAtRest_1 : decode cX12_areAtRest 1 = .ok (.iload_n 1, 1) := by decide +kernel
theorem dX12_areAtRest_2 : decode cX12_areAtRest 2 = .ok (.if_icmp .lt 9, 3) := by decide +kernel
theorem dX12_areAtRest_5 : decode cX12_areAtRest 5 = .ok (.iload_n 2, 1) := by decide +kernel
theorem dX12_areAtRest_6 : decode cX12_areAtRest 6 = .ok (.iload_n 0, 1) := by decide +kernel
theorem dX12_areAtRest_7 : decode cX12_areAtRest 7 = .ok (.isub, 1) := by decide +kernel
theorem dX12_areAtRest_8 : decode cX12_areAtRest 8 = .ok (.goto 4, 3) := by decide +kernel
theorem dX12_areAtRest_11 : decode cX12_areAtRest 11 = .ok (.iconst 0, 1) := by decide +kernel
theorem dX12_areAtRest_12 : decode cX12_areAtRest 12 = .ok (.istore_n 3, 1) := by decide +kernel
theorem dX12_areAtRest_13 : decode cX12_areAtRest 13 = .ok (.iload_n 1, 1) := by decide +kernel
theorem dX12_areAtRest_14 : decode cX12_areAtRest 14 = .ok (.iload_n 0, 1) := by decide +kernel
theorem dX12_areAtRest_15 : decode cX12_areAtRest 15 = .ok (.if_icmp .le 9, 3) := by decide +kernel
theorem dX12_areAtRest_18 : decode cX12_areAtRest 18 = .ok (.iload_n 2, 1) := by decide +kernel
theorem dX12_areAtRest_19 : decode cX12_areAtRest 19 = .ok (.iload_n 1, 1) := by decide +kernel
theorem dX12_areAtRest_20 : decode cX12_areAtRest 20 = .ok (.isub, 1) := by decide +kernel
theorem dX12_areAtRest_21 : decode cX12_areAtRest 21 = .ok (.goto 4, 3) := by decide +kernel
theorem dX12_areAtRest_24 : decode cX12_areAtRest 24 = .ok (.iconst 0, 1) := by decide +kernel
theorem dX12_areAtRest_25 : decode cX12_areAtRest 25 = .ok (.istore 4, 2) := by decide +kernel
theorem dX12_areAtRest_27 : decode cX12_areAtRest 27 = .ok (.iconst 0, 1) := by decide +kernel
theorem dX12_areAtRest_28 : decode cX12_areAtRest 28 = .ok (.istore 5, 2) := by decide +kernel
theorem dX12_areAtRest_30 : decode cX12_areAtRest 30 = .ok (.iload 5, 2) := by decide +kernel
theorem dX12_areAtRest_32 : decode cX12_areAtRest 32 = .ok (.bipush 9, 2) := by decide +kernel
theorem dX12_areAtRest_34 : decode cX12_areAtRest 34 = .ok (.if_icmp .gt 56, 3) := by decide +kernel
theorem dX12_areAtRest_37 : decode cX12_areAtRest 37 = .ok (.iload 5, 2) := by decide +kernel
theorem dX12_areAtRest_39 : decode cX12_areAtRest 39 = .ok (.iload_n 1, 1) := by decide +kernel
theorem dX12_areAtRest_40 : decode cX12_areAtRest 40 = .ok (.if_icmp .lt 10, 3) := by decide +kernel
theorem dX12_areAtRest_43 : decode cX12_areAtRest 43 = .ok (.iload_n 2, 1) := by decide +kernel
theorem dX12_areAtRest_44 : decode cX12_areAtRest 44 = .ok (.iload 5, 2) := by decide +kernel
theorem dX12_areAtRest_46 : decode cX12_areAtRest 46 = .ok (.isub, 1) := by decide +kernel
theorem dX12_areAtRest_47 : decode cX12_areAtRest 47 = .ok (.goto 4, 3) := by decide +kernel
theorem dX12_areAtRest_50 : decode cX12_areAtRest 50 = .ok (.iconst 0, 1) := by decide +kernel
theorem dX12_areAtRest_51 : decode cX12_areAtRest 51 = .ok (.istore 6, 2) := by decide +kernel
theorem dX12_areAtRest_53 : decode cX12_areAtRest 53 = .ok (.iload 5, 2) := by decide +kernel
theorem dX12_areAtRest_55 : decode cX12_areAtRest 55 = .ok (.iload_n 0, 1) := by decide +kernel
theorem dX12_areAtRest_56 : decode cX12_areAtRest 56 = .ok (.if_icmp .le 10, 3) := by decide +kernel
theorem dX12_areAtRest_59 : decode cX12_areAtRest 59 = .ok (.iload_n 2, 1) := by decide +kernel
theorem dX12_areAtRest_60 : decode cX12_areAtRest 60 = .ok (.iload 5, 2) := by decide +kernel
theorem dX12_areAtRest_62 : decode cX12_areAtRest 62 = .ok (.isub, 1) := by decide +kernel
theorem dX12_areAtRest_63 : decode cX12_areAtRest 63 = .ok (.goto 4, 3) := by decide +kernel
theorem dX12_areAtRest_66 : decode cX12_areAtRest 66 = .ok (.iconst 0, 1) := by decide +kernel
theorem dX12_areAtRest_67 : decode cX12_areAtRest 67 = .ok (.istore 7, 2) := by decide +kernel
theorem dX12_areAtRest_69 : decode cX12_areAtRest 69 = .ok (.iload 6, 2) := by decide +kernel
theorem dX12_areAtRest_71 : decode cX12_areAtRest 71 = .ok (.iload_n 3, 1) := by decide +kernel
theorem dX12_areAtRest_72 : decode cX12_areAtRest 72 = .ok (.if_icmp .gt 10, 3) := by decide +kernel
theorem dX12_areAtRest_75 : decode cX12_areAtRest 75 = .ok (.iload 7, 2) := by decide +kernel
theorem dX12_areAtRest_77 : decode cX12_areAtRest 77 = .ok (.iload 4, 2) := by decide +kernel
theorem dX12_areAtRest_79 : decode cX12_areAtRest 79 = .ok (.if_icmp .le 5, 3) := by decide +kernel
theorem dX12_areAtRest_82 : decode cX12_areAtRest 82 = .ok (.iconst 0, 1) := by decide +kernel
theorem dX12_areAtRest_83 : decode cX12_areAtRest 83 = .ok (.ireturn, 1) := by decide +kernel
theorem dX12_areAtRest_84 : decode cX12_areAtRest 84 = .ok (.iinc 5 1, 3) := by decide +kernel
theorem dX12_areAtRest_87 : decode cX12_areAtRest 87 = .ok (.goto (-57), 3) := by decide +kernel
theorem dX12_areAtRest_90 : decode cX12_areAtRest 90 = .ok (.iconst 1, 1) := by decide +kernel
theorem dX12_areAtRest_91 : decode cX12_areAtRest 91 = .ok (.ireturn, 1) := by decide +kernel
theorem dX12_dams_0 : decode cX12_dams 0 = .ok (.aload_n 0, 1) := by decide +kernel
theorem dX12_dams_1 : decode cX12_dams 1 = .ok (.iload_n 1, 1) := by decide +kernel
theorem dX12_dams_2 : decode cX12_dams 2 = .ok (.iload_n 2, 1) := by decide +kernel
theorem dX12_dams_3 : decode cX12_dams 3 = .ok (.invokevirtual 238, 3) := by decide +kernel
theorem dX12_dams_6 : decode cX12_dams 6 = .ok (.ifCond .eq 12, 3) := by decide +kernel
theorem dX12_dams_9 : decode cX12_dams 9 = .ok (.iload_n 3, 1) := by decide +kernel
theorem dX12_dams_10 : decode cX12_dams 10 = .ok (.ifCond .lt 8, 3) := by decide +kernel
theorem dX12_dams_13 : decode cX12_dams 13 = .ok (.iload_n 3, 1) := by decide +kernel
theorem dX12_dams_14 : decode cX12_dams 14 = .ok (.iconst 1, 1) := by decide +kernel
theorem dX12_dams_15 : decode cX12_dams 15 = .ok (.if_icmp .le 5, 3) := by decide +kernel
theorem dX12_dams_18 : decode cX12_dams 18 = .ok (.iconst (-1), 1) := by decide +kernel
theorem dX12_dams_19 : decode cX12_dams 19 = .ok (.ireturn, 1) := by decide +kernel
theorem dX12_dams_20 : decode cX12_dams 20 = .ok (.aload_n 0, 1) := by decide +kernel
theorem dX12_dams_21 : decode cX12_dams 21 = .ok (.getfield 19, 3) := by decide +kernel
theorem dX12_dams_24 : decode cX12_dams 24 = .ok (.iconst 1, 1) := by decide +kernel
theorem dX12_dams_25 : decode cX12_dams 25 = .ok (.iload_n 1, 1) := by decide +kernel
theorem dX12_dams_26 : decode cX12_dams 26 = .ok (.ishl, 1) := by decide +kernel
theorem dX12_dams_27 : decode cX12_dams 27 = .ok (.aload_n 0, 1) := by decide +kernel
theorem dX12_dams_28 : decode cX12_dams 28 = .ok (.invokevirtual 226, 3) := by decide +kernel
theorem dX12_dams_31 : decode cX12_dams 31 = .ok (.invokevirtual 184, 3) := by decide +kernel
theorem dX12_dams_34 : decode cX12_dams 34 = .ok (.bipush 20, 2) := by decide +kernel
theorem dX12_dams_36 : decode cX12_dams 36 = .ok (.invokestatic 395, 3) := by decide +kernel
theorem dX12_dams_39 : decode cX12_dams 39 = .ok (.istore 4, 2) := by decide +kernel
theorem dX12_dams_41 : decode cX12_dams 41 = .ok (.aload_n 0, 1) := by decide +kernel
theorem dX12_dams_42 : decode cX12_dams 42 = .ok (.getfield 19, 3) := by decide +kernel
theorem dX12_dams_45 : decode cX12_dams 45 = .ok (.iconst 1, 1) := by decide +kernel
theorem dX12_dams_46 : decode cX12_dams 46 = .ok (.iload_n 2, 1) := by decide +kernel
theorem dX12_dams_47 : decode cX12_dams 47 = .ok (.ishl, 1) := by decide +kernel
theorem dX12_dams_48 : decode cX12_dams 48 = .ok (.aload_n 0, 1) := by decide +kernel
theorem dX12_dams_49 : decode cX12_dams 49 = .ok (.invokevirtual 226, 3) := by decide +kernel
theorem dX12_dams_52 : decode cX12_dams 52 = .ok (.invokevirtual 184, 3) := by decide +kernel
theorem dX12_dams_55 : decode cX12_dams 55 = .ok (.bipush 20, 2) := by decide +kernel
theorem dX12_dams_57 : decode cX12_dams 57 = .ok (.invokestatic 395, 3) := by decide +kernel
theorem dX12_dams_60 : decode cX12_dams 60 = .ok (.istore 5, 2) := by decide +kernel
theorem dX12_dams_62 : decode cX12_dams 62 = .ok (.iload 4, 2) := by decide +kernel
theorem dX12_dams_64 : decode cX12_dams 64 = .ok (.iload 5, 2) := by decide +kernel
theorem dX12_dams_66 : decode cX12_dams 66 = .ok (.invokestatic 400, 3) := by decide +kernel
theorem dX12_dams_69 : decode cX12_dams 69 = .ok (.istore 6, 2) := by decide +kernel
theorem dX12_dams_71 : decode cX12_dams 71 = .ok (.iload_n 3, 1) := by decide +kernel
theorem dX12_dams_72 : decode cX12_dams 72 = .ok (.iconst 1, 1) := by decide +kernel
theorem dX12_dams_73 : decode cX12_dams 73 = .ok (.if_icmp .ne 6, 3) := by decide +kernel
theorem dX12_dams_76 : decode cX12_dams 76 = .ok (.iload 6, 2) := by decide +kernel
theorem dX12_dams_78 : decode cX12_dams 78 = .ok (.ireturn, 1) := by decide +kernel
theorem dX12_dams_79 : decode cX12_dams 79 = .ok (.iload 6, 2) := by decide +kernel
theorem dX12_dams_81 : decode cX12_dams 81 = .ok (.iconst (-1), 1) := by decide +kernel
theorem dX12_dams_82 : decode cX12_dams 82 = .ok (.if_icmp .ne 7, 3) := by decide +kernel
theorem dX12_dams_85 : decode cX12_dams 85 = .ok (.iconst 0, 1) := by decide +kernel
theorem dX12_dams_86 : decode cX12_dams 86 = .ok (.goto 4, 3) := by decide +kernel
theorem dX12_dams_89 : decode cX12_dams 89 = .ok (.iconst 1, 1) := by decide +kernel
theorem dX12_dams_90 : decode cX12_dams 90 = .ok (.ireturn, 1) := by decide +kernel
theorem dX12_winningTake_0 : decode cX12_winningTake 0 = .ok (.iconst 1, 1) := by decide +kernel
theorem dX12_winningTake_1 : decode cX12_winningTake 1 = .ok (.istore_n 2, 1) := by decide +kernel
theorem dX12_winningTake_2 : decode cX12_winningTake 2 = .ok (.iload_n 2, 1) := by decide +kernel
theorem dX12_winningTake_3 : decode cX12_winningTake 3 = .ok (.iconst 3, 1) := by decide +kernel
theorem dX12_winningTake_4 : decode cX12_winningTake 4 = .ok (.if_icmp .gt 27, 3) := by decide +kernel
theorem dX12_winningTake_7 : decode cX12_winningTake 7 = .ok (.iload_n 2, 1) := by decide +kernel
theorem dX12_winningTake_8 : decode cX12_winningTake 8 = .ok (.iload_n 0, 1) := by decide +kernel
theorem dX12_winningTake_9 : decode cX12_winningTake 9 = .ok (.if_icmp .gt 16, 3) := by decide +kernel
theorem dX12_winningTake_12 : decode cX12_winningTake 12 = .ok (.iload_n 0, 1) := by decide +kernel
theorem dX12_winningTake_13 : decode cX12_winningTake 13 = .ok (.iload_n 2, 1) := by decide +kernel
theorem dX12_winningTake_14 : decode cX12_winningTake 14 = .ok (.isub, 1) := by decide +kernel
theorem dX12_winningTake_15 : decode cX12_winningTake 15 = .ok (.iconst 4, 1) := by decide +kernel
theorem dX12_winningTake_16 : decode cX12_winningTake 16 = .ok (.irem, 1) := by decide +kernel
theorem dX12_winningTake_17 : decode cX12_winningTake 17 = .ok (.iload_n 1, 1) := by decide +kernel
theorem dX12_winningTake_18 : decode cX12_winningTake 18 = .ok (.iconst 4, 1) := by decide +kernel
theorem dX12_winningTake_19 : decode cX12_winningTake 19 = .ok (.irem, 1) := by decide +kernel
theorem dX12_winningTake_20 : decode cX12_winningTake 20 = .ok (.if_icmp .ne 5, 3) := by decide +kernel
theorem dX12_winningTake_23 : decode cX12_winningTake 23 = .ok (.iload_n 2, 1) := by decide +kernel
theorem dX12_winningTake_24 : decode cX12_winningTake 24 = .ok (.ireturn, 1) := by decide +kernel
theorem dX12_winningTake_25 : decode cX12_winningTake 25 = .ok (.iinc 2 1, 3) := by decide +kernel
theorem dX12_winningTake_28 : decode cX12_winningTake 28 = .ok (.goto (-26), 3) := by decide +kernel
theorem dX12_winningTake_31 : decode cX12_winningTake 31 = .ok (.iconst 1, 1) := by decide +kernel
theorem dX12_winningTake_32 : decode cX12_winningTake 32 = .ok (.istore_n 2, 1) := by decide +kernel
theorem dX12_winningTake_33 : decode cX12_winningTake 33 = .ok (.iload_n 2, 1) := by decide +kernel
theorem dX12_winningTake_34 : decode cX12_winningTake 34 = .ok (.iconst 3, 1) := by decide +kernel
theorem dX12_winningTake_35 : decode cX12_winningTake 35 = .ok (.if_icmp .gt 29, 3) := by decide +kernel
theorem dX12_winningTake_38 : decode cX12_winningTake 38 = .ok (.iload_n 2, 1) := by decide +kernel
theorem dX12_winningTake_39 : decode cX12_winningTake 39 = .ok (.iload_n 1, 1) := by decide +kernel
theorem dX12_winningTake_40 : decode cX12_winningTake 40 = .ok (.if_icmp .gt 18, 3) := by decide +kernel
theorem dX12_winningTake_43 : decode cX12_winningTake 43 = .ok (.iload_n 1, 1) := by decide +kernel
theorem dX12_winningTake_44 : decode cX12_winningTake 44 = .ok (.iload_n 2, 1) := by decide +kernel
theorem dX12_winningTake_45 : decode cX12_winningTake 45 = .ok (.isub, 1) := by decide +kernel
theorem dX12_winningTake_46 : decode cX12_winningTake 46 = .ok (.iconst 4, 1) := by decide +kernel
theorem dX12_winningTake_47 : decode cX12_winningTake 47 = .ok (.irem, 1) := by decide +kernel
theorem dX12_winningTake_48 : decode cX12_winningTake 48 = .ok (.iload_n 0, 1) := by decide +kernel
theorem dX12_winningTake_49 : decode cX12_winningTake 49 = .ok (.iconst 4, 1) := by decide +kernel
theorem dX12_winningTake_50 : decode cX12_winningTake 50 = .ok (.irem, 1) := by decide +kernel
theorem dX12_winningTake_51 : decode cX12_winningTake 51 = .ok (.if_icmp .ne 7, 3) := by decide +kernel
theorem dX12_winningTake_54 : decode cX12_winningTake 54 = .ok (.iload_n 2, 1) := by decide +kernel
theorem dX12_winningTake_55 : decode cX12_winningTake 55 = .ok (.iconst 3, 1) := by decide +kernel
theorem dX12_winningTake_56 : decode cX12_winningTake 56 = .ok (.iadd, 1) := by decide +kernel
theorem dX12_winningTake_57 : decode cX12_winningTake 57 = .ok (.ireturn, 1) := by decide +kernel
theorem dX12_winningTake_58 : decode cX12_winningTake 58 = .ok (.iinc 2 1, 3) := by decide +kernel
theorem dX12_winningTake_61 : decode cX12_winningTake 61 = .ok (.goto (-28), 3) := by decide +kernel
theorem dX12_winningTake_64 : decode cX12_winningTake 64 = .ok (.iconst (-1), 1) := by decide +kernel
theorem dX12_winningTake_65 : decode cX12_winningTake 65 = .ok (.ireturn, 1) := by decide +kernel
theorem dX12_centuries_0 : decode cX12_centuries 0 = .ok (.iload_n 1, 1) := by decide +kernel
theorem dX12_centuries_1 : decode cX12_centuries 1 = .ok (.ifCond .lt 21, 3) := by decide +kernel
theorem dX12_centuries_4 : decode cX12_centuries 4 = .ok (.iload_n 1, 1) := by decide +kernel
theorem dX12_centuries_5 : decode cX12_centuries 5 = .ok (.sipush 9999, 3) := by decide +kernel
theorem dX12_centuries_8 : decode cX12_centuries 8 = .ok (.if_icmp .gt 14, 3) := by decide +kernel
theorem dX12_centuries_11 : decode cX12_centuries 11 = .ok (.iload_n 2, 1) := by decide +kernel
theorem dX12_centuries_12 : decode cX12_centuries 12 = .ok (.iconst 1, 1) := by decide +kernel
theorem dX12_centuries_13 : decode cX12_centuries 13 = .ok (.if_icmp .lt 9, 3) := by decide +kernel
theorem dX12_centuries_16 : decode cX12_centuries 16 = .ok (.iload_n 2, 1) := by decide +kernel
theorem dX12_centuries_17 : decode cX12_centuries 17 = .ok (.bipush 100, 2) := by decide +kernel
theorem dX12_centuries_19 : decode cX12_centuries 19 = .ok (.if_icmp .le 5, 3) := by decide +kernel
theorem dX12_centuries_22 : decode cX12_centuries 22 = .ok (.iconst (-1), 1) := by decide +kernel
theorem dX12_centuries_23 : decode cX12_centuries 23 = .ok (.ireturn, 1) := by decide +kernel
theorem dX12_centuries_24 : decode cX12_centuries 24 = .ok (.iload_n 3, 1) := by decide +kernel
theorem dX12_centuries_25 : decode cX12_centuries 25 = .ok (.ifCond .lt 18, 3) := by decide +kernel
theorem dX12_centuries_28 : decode cX12_centuries 28 = .ok (.iload_n 3, 1) := by decide +kernel
theorem dX12_centuries_29 : decode cX12_centuries 29 = .ok (.iconst 2, 1) := by decide +kernel
theorem dX12_centuries_30 : decode cX12_centuries 30 = .ok (.if_icmp .gt 13, 3) := by decide +kernel
theorem dX12_centuries_33 : decode cX12_centuries 33 = .ok (.aload_n 0, 1) := by decide +kernel
theorem dX12_centuries_34 : decode cX12_centuries 34 = .ok (.getfield 19, 3) := by decide +kernel
theorem dX12_centuries_37 : decode cX12_centuries 37 = .ok (.getfield 151, 3) := by decide +kernel
theorem dX12_centuries_40 : decode cX12_centuries 40 = .ok (.ifCond .ne 5, 3) := by decide +kernel
theorem dX12_centuries_43 : decode cX12_centuries 43 = .ok (.iconst (-1), 1) := by decide +kernel
theorem dX12_centuries_44 : decode cX12_centuries 44 = .ok (.ireturn, 1) := by decide +kernel
theorem dX12_centuries_45 : decode cX12_centuries 45 = .ok (.aload_n 0, 1) := by decide +kernel
theorem dX12_centuries_46 : decode cX12_centuries 46 = .ok (.invokevirtual 177, 3) := by decide +kernel
theorem dX12_centuries_49 : decode cX12_centuries 49 = .ok (.pop, 1) := by decide +kernel
theorem dX12_centuries_50 : decode cX12_centuries 50 = .ok (.iload_n 1, 1) := by decide +kernel
theorem dX12_centuries_51 : decode cX12_centuries 51 = .ok (.i2l, 1) := by decide +kernel
theorem dX12_centuries_52 : decode cX12_centuries 52 = .ok (.lstore 4, 2) := by decide +kernel
theorem dX12_centuries_54 : decode cX12_centuries 54 = .ok (.iconst 0, 1) := by decide +kernel
theorem dX12_centuries_55 : decode cX12_centuries 55 = .ok (.istore 6, 2) := by decide +kernel
theorem dX12_centuries_57 : decode cX12_centuries 57 = .ok (.iconst 0, 1) := by decide +kernel
theorem dX12_centuries_58 : decode cX12_centuries 58 = .ok (.istore 7, 2) := by decide +kernel
theorem dX12_centuries_60 : decode cX12_centuries 60 = .ok (.iconst 0, 1) := by decide +kernel
theorem dX12_centuries_61 : decode cX12_centuries 61 = .ok (.istore 8, 2) := by decide +kernel
theorem dX12_centuries_63 : decode cX12_centuries 63 = .ok (.iload 8, 2) := by decide +kernel
theorem dX12_centuries_65 : decode cX12_centuries 65 = .ok (.iload_n 2, 1) := by decide +kernel
theorem dX12_centuries_66 : decode cX12_centuries 66 = .ok (.if_icmp .ge 94, 3) := by decide +kernel
theorem dX12_centuries_69 : decode cX12_centuries 69 = .ok (.lload 4, 2) := by decide +kernel
theorem dX12_centuries_71 : decode cX12_centuries 71 = .ok (.invokestatic 403, 3) := by decide +kernel
theorem dX12_centuries_74 : decode cX12_centuries 74 = .ok (.lstore 4, 2) := by decide +kernel
theorem dX12_centuries_76 : decode cX12_centuries 76 = .ok (.lload 4, 2) := by decide +kernel
theorem dX12_centuries_78 : decode cX12_centuries 78 = .ok (.bipush 10, 2) := by decide +kernel
theorem dX12_centuries_80 : decode cX12_centuries 80 = .ok (.invokestatic 407, 3) := by decide +kernel
theorem dX12_centuries_83 : decode cX12_centuries 83 = .ok (.istore 9, 2) := by decide +kernel
theorem dX12_centuries_85 : decode cX12_centuries 85 = .ok (.aload_n 0, 1) := by decide +kernel
theorem dX12_centuries_86 : decode cX12_centuries 86 = .ok (.iload 9, 2) := by decide +kernel
theorem dX12_centuries_88 : decode cX12_centuries 88 = .ok (.lload 4, 2) := by decide +kernel
theorem dX12_centuries_90 : decode cX12_centuries 90 = .ok (.invokevirtual 411, 3) := by decide +kernel
theorem dX12_centuries_93 : decode cX12_centuries 93 = .ok (.lstore 4, 2) := by decide +kernel
theorem dX12_centuries_95 : decode cX12_centuries 95 = .ok (.aload_n 0, 1) := by decide +kernel
theorem dX12_centuries_96 : decode cX12_centuries 96 = .ok (.getfield 38, 3) := by decide +kernel
theorem dX12_centuries_99 : decode cX12_centuries 99 = .ok (.getfield 167, 3) := by decide +kernel
theorem dX12_centuries_102 : decode cX12_centuries 102 = .ok (.iload 8, 2) := by decide +kernel
theorem dX12_centuries_104 : decode cX12_centuries 104 = .ok (.iadd, 1) := by decide +kernel
theorem dX12_centuries_105 : decode cX12_centuries 105 = .ok (.iconst 4, 1) := by decide +kernel
theorem dX12_centuries_106 : decode cX12_centuries 106 = .ok (.irem, 1) := by decide +kernel
theorem dX12_centuries_107 : decode cX12_centuries 107 = .ok (.iload 9, 2) := by decide +kernel
theorem dX12_centuries_109 : decode cX12_centuries 109 = .ok (.ifCond .ne 7, 3) := by decide +kernel
theorem dX12_centuries_112 : decode cX12_centuries 112 = .ok (.iconst 4, 1) := by decide +kernel
theorem dX12_centuries_113 : decode cX12_centuries 113 = .ok (.goto 4, 3) := by decide +kernel
theorem dX12_centuries_116 : decode cX12_centuries 116 = .ok (.iconst 0, 1) := by decide +kernel
theorem dX12_centuries_117 : decode cX12_centuries 117 = .ok (.iadd, 1) := by decide +kernel
theorem dX12_centuries_118 : decode cX12_centuries 118 = .ok (.istore 10, 2) := by decide +kernel
theorem dX12_centuries_120 : decode cX12_centuries 120 = .ok (.iload 6, 2) := by decide +kernel
theorem dX12_centuries_122 : decode cX12_centuries 122 = .ok (.aload_n 0, 1) := by decide +kernel
theorem dX12_centuries_123 : decode cX12_centuries 123 = .ok (.getfield 58, 3) := by decide +kernel
theorem dX12_centuries_126 : decode cX12_centuries 126 = .ok (.iload 10, 2) := by decide +kernel
theorem dX12_centuries_128 : decode cX12_centuries 128 = .ok (.invokevirtual 229, 3) := by decide +kernel
theorem dX12_centuries_131 : decode cX12_centuries 131 = .ok (.invokestatic 312, 3) := by decide +kernel
theorem dX12_centuries_134 : decode cX12_centuries 134 = .ok (.iadd, 1) := by decide +kernel
theorem dX12_centuries_135 : decode cX12_centuries 135 = .ok (.istore 6, 2) := by decide +kernel
theorem dX12_centuries_137 : decode cX12_centuries 137 = .ok (.iload 7, 2) := by decide +kernel
theorem dX12_centuries_139 : decode cX12_centuries 139 = .ok (.aload_n 0, 1) := by decide +kernel
theorem dX12_centuries_140 : decode cX12_centuries 140 = .ok (.getfield 58, 3) := by decide +kernel
theorem dX12_centuries_143 : decode cX12_centuries 143 = .ok (.iload 10, 2) := by decide +kernel
theorem dX12_centuries_145 : decode cX12_centuries 145 = .ok (.invokevirtual 232, 3) := by decide +kernel
theorem dX12_centuries_148 : decode cX12_centuries 148 = .ok (.invokestatic 312, 3) := by decide +kernel
theorem dX12_centuries_151 : decode cX12_centuries 151 = .ok (.iadd, 1) := by decide +kernel
theorem dX12_centuries_152 : decode cX12_centuries 152 = .ok (.istore 7, 2) := by decide +kernel
theorem dX12_centuries_154 : decode cX12_centuries 154 = .ok (.iinc 8 1, 3) := by decide +kernel
theorem dX12_centuries_157 : decode cX12_centuries 157 = .ok (.goto (-94), 3) := by decide +kernel
theorem dX12_centuries_160 : decode cX12_centuries 160 = .ok (.iload_n 3, 1) := by decide +kernel
theorem dX12_centuries_161 : decode cX12_centuries 161 = .ok (.iconst 2, 1) := by decide +kernel
theorem dX12_centuries_162 : decode cX12_centuries 162 = .ok (.if_icmp .ne 11, 3) := by decide +kernel
theorem dX12_centuries_165 : decode cX12_centuries 165 = .ok (.aload_n 0, 1) := by decide +kernel
theorem dX12_centuries_166 : decode cX12_centuries 166 = .ok (.getfield 58, 3) := by decide +kernel
theorem dX12_centuries_169 : decode cX12_centuries 169 = .ok (.invokevirtual 296, 3) := by decide +kernel
theorem dX12_centuries_172 : decode cX12_centuries 172 = .ok (.ireturn, 1) := by decide +kernel
theorem dX12_centuries_173 : decode cX12_centuries 173 = .ok (.iload_n 3, 1) := by decide +kernel
theorem dX12_centuries_174 : decode cX12_centuries 174 = .ok (.ifCond .ne 8, 3) := by decide +kernel
theorem dX12_centuries_177 : decode cX12_centuries 177 = .ok (.iload 6, 2) := by decide +kernel
theorem dX12_centuries_179 : decode cX12_centuries 179 = .ok (.goto 5, 3) := by decide +kernel
theorem dX12_centuries_182 : decode cX12_centuries 182 = .ok (.iload 7, 2) := by decide +kernel
theorem dX12_centuries_184 : decode cX12_centuries 184 = .ok (.ireturn, 1) := by decide +kernel
theorem dX12_befall_0 : decode cX12_befall 0 = .ok (.lload_n 2, 1) := by decide +kernel
theorem dX12_befall_1 : decode cX12_befall 1 = .ok (.lstore 4, 2) := by decide +kernel
theorem dX12_befall_3 : decode cX12_befall 3 = .ok (.iload_n 1, 1) := by decide +kernel
theorem dX12_befall_4 : decode cX12_befall 4 = .ok (.iconst 1, 1) := by decide +kernel
theorem dX12_befall_5 : decode cX12_befall 5 = .ok (.if_icmp .ne 73, 3) := by decide +kernel
theorem dX12_befall_8 : decode cX12_befall 8 = .ok (.lload 4, 2) := by decide +kernel
theorem dX12_befall_10 : decode cX12_befall 10 = .ok (.invokestatic 403, 3) := by decide +kernel
theorem dX12_befall_13 : decode cX12_befall 13 = .ok (.lstore 4, 2) := by decide +kernel
theorem dX12_befall_15 : decode cX12_befall 15 = .ok (.lload 4, 2) := by decide +kernel
theorem dX12_befall_17 : decode cX12_befall 17 = .ok (.aload_n 0, 1) := by decide +kernel
theorem dX12_befall_18 : decode cX12_befall 18 = .ok (.getfield 19, 3) := by decide +kernel
theorem dX12_befall_21 : decode cX12_befall 21 = .ok (.getfield 151, 3) := by decide +kernel
theorem dX12_befall_24 : decode cX12_befall 24 = .ok (.invokestatic 407, 3) := by decide +kernel
theorem dX12_befall_27 : decode cX12_befall 27 = .ok (.istore 6, 2) := by decide +kernel
theorem dX12_befall_29 : decode cX12_befall 29 = .ok (.lload 4, 2) := by decide +kernel
theorem dX12_befall_31 : decode cX12_befall 31 = .ok (.invokestatic 403, 3) := by decide +kernel
theorem dX12_befall_34 : decode cX12_befall 34 = .ok (.lstore 4, 2) := by decide +kernel
theorem dX12_befall_36 : decode cX12_befall 36 = .ok (.lload 4, 2) := by decide +kernel
theorem dX12_befall_38 : decode cX12_befall 38 = .ok (.aload_n 0, 1) := by decide +kernel
theorem dX12_befall_39 : decode cX12_befall 39 = .ok (.getfield 19, 3) := by decide +kernel
theorem dX12_befall_42 : decode cX12_befall 42 = .ok (.getfield 151, 3) := by decide +kernel
theorem dX12_befall_45 : decode cX12_befall 45 = .ok (.invokestatic 407, 3) := by decide +kernel
theorem dX12_befall_48 : decode cX12_befall 48 = .ok (.istore 7, 2) := by decide +kernel
theorem dX12_befall_50 : decode cX12_befall 50 = .ok (.aload_n 0, 1) := by decide +kernel
theorem dX12_befall_51 : decode cX12_befall 51 = .ok (.getfield 58, 3) := by decide +kernel
theorem dX12_befall_54 : decode cX12_befall 54 = .ok (.iload 6, 2) := by decide +kernel
theorem dX12_befall_56 : decode cX12_befall 56 = .ok (.iload 7, 2) := by decide +kernel
theorem dX12_befall_58 : decode cX12_befall 58 = .ok (.invokevirtual 245, 3) := by decide +kernel
theorem dX12_befall_61 : decode cX12_befall 61 = .ok (.ifCond .eq 14, 3) := by decide +kernel
theorem dX12_befall_64 : decode cX12_befall 64 = .ok (.aload_n 0, 1) := by decide +kernel
theorem dX12_befall_65 : decode cX12_befall 65 = .ok (.getfield 58, 3) := by decide +kernel
theorem dX12_befall_68 : decode cX12_befall 68 = .ok (.iload 6, 2) := by decide +kernel
theorem dX12_befall_70 : decode cX12_befall 70 = .ok (.iload 7, 2) := by decide +kernel
theorem dX12_befall_72 : decode cX12_befall 72 = .ok (.invokevirtual 302, 3) := by decide +kernel
theorem dX12_befall_75 : decode cX12_befall 75 = .ok (.goto 35, 3) := by decide +kernel
theorem dX12_befall_78 : decode cX12_befall 78 = .ok (.iload_n 1, 1) := by decide +kernel
theorem dX12_befall_79 : decode cX12_befall 79 = .ok (.iconst 2, 1) := by decide +kernel
theorem dX12_befall_80 : decode cX12_befall 80 = .ok (.if_icmp .ne 30, 3) := by decide +kernel
theorem dX12_befall_83 : decode cX12_befall 83 = .ok (.lload 4, 2) := by decide +kernel
theorem dX12_befall_85 : decode cX12_befall 85 = .ok (.invokestatic 403, 3) := by decide +kernel
theorem dX12_befall_88 : decode cX12_befall 88 = .ok (.lstore 4, 2) := by decide +kernel
theorem dX12_befall_90 : decode cX12_befall 90 = .ok (.aload_n 0, 1) := by decide +kernel
theorem dX12_befall_91 : decode cX12_befall 91 = .ok (.getfield 58, 3) := by decide +kernel
theorem dX12_befall_94 : decode cX12_befall 94 = .ok (.lload 4, 2) := by decide +kernel
theorem dX12_befall_96 : decode cX12_befall 96 = .ok (.aload_n 0, 1) := by decide +kernel
theorem dX12_befall_97 : decode cX12_befall 97 = .ok (.getfield 19, 3) := by decide +kernel
theorem dX12_befall_100 : decode cX12_befall 100 = .ok (.getfield 151, 3) := by decide +kernel
theorem dX12_befall_103 : decode cX12_befall 103 = .ok (.invokestatic 407, 3) := by decide +kernel
theorem dX12_befall_106 : decode cX12_befall 106 = .ok (.invokevirtual 299, 3) := by decide +kernel
theorem dX12_befall_109 : decode cX12_befall 109 = .ok (.pop, 1) := by decide +kernel
theorem dX12_befall_110 : decode cX12_befall 110 = .ok (.lload 4, 2) := by decide +kernel
theorem dX12_befall_112 : decode cX12_befall 112 = .ok (.lreturn, 1) := by decide +kernel
theorem dX12_stir_0 : decode cX12_stir 0 = .ok (.lload_n 0, 1) := by decide +kernel
theorem dX12_stir_1 : decode cX12_stir 1 = .ok (.ldc2_w 415, 3) := by decide +kernel
theorem dX12_stir_4 : decode cX12_stir 4 = .ok (.lmul, 1) := by decide +kernel
theorem dX12_stir_5 : decode cX12_stir 5 = .ok (.ldc2_w 417, 3) := by decide +kernel
theorem dX12_stir_8 : decode cX12_stir 8 = .ok (.ladd, 1) := by decide +kernel
theorem dX12_stir_9 : decode cX12_stir 9 = .ok (.ldc2_w 419, 3) := by decide +kernel
theorem dX12_stir_12 : decode cX12_stir 12 = .ok (.lrem, 1) := by decide +kernel
theorem dX12_stir_13 : decode cX12_stir 13 = .ok (.lreturn, 1) := by decide +kernel
theorem dX12_drawn_0 : decode cX12_drawn 0 = .ok (.iload_n 2, 1) := by decide +kernel
theorem dX12_drawn_1 : decode cX12_drawn 1 = .ok (.ifCond .le 15, 3) := by decide +kernel
theorem dX12_drawn_4 : decode cX12_drawn 4 = .ok (.lload_n 0, 1) := by decide +kernel
theorem dX12_drawn_5 : decode cX12_drawn 5 = .ok (.ldc2_w 421, 3) := by decide +kernel
theorem dX12_drawn_8 : decode cX12_drawn 8 = .ok (.ldiv, 1) := by decide +kernel
theorem dX12_drawn_9 : decode cX12_drawn 9 = .ok (.iload_n 2, 1) := by decide +kernel
theorem dX12_drawn_10 : decode cX12_drawn 10 = .ok (.i2l, 1) := by decide +kernel
theorem dX12_drawn_11 : decode cX12_drawn 11 = .ok (.lrem, 1) := by decide +kernel
theorem dX12_drawn_12 : decode cX12_drawn 12 = .ok (.l2i, 1) := by decide +kernel
theorem dX12_drawn_13 : decode cX12_drawn 13 = .ok (.goto 4, 3) := by decide +kernel
theorem dX12_drawn_16 : decode cX12_drawn 16 = .ok (.iconst 0, 1) := by decide +kernel
theorem dX12_drawn_17 : decode cX12_drawn 17 = .ok (.ireturn, 1) := by decide +kernel
theorem dX12_count_0 : decode cX12_count 0 = .ok (.iload_n 1, 1) := by decide +kernel
theorem dX12_count_1 : decode cX12_count 1 = .ok (.tableswitch 129 0 9 #[55, 63, 71, 79, 87, 92, 100, 108, 116, 121], 55) := by decide +kernel
theorem dX12_count_56 : decode cX12_count 56 = .ok (.aload_n 0, 1) := by decide +kernel
theorem dX12_count_57 : decode cX12_count 57 = .ok (.getfield 19, 3) := by decide +kernel
theorem dX12_count_60 : decode cX12_count 60 = .ok (.getfield 151, 3) := by decide +kernel
theorem dX12_count_63 : decode cX12_count 63 = .ok (.ireturn, 1) := by decide +kernel
theorem dX12_count_64 : decode cX12_count 64 = .ok (.aload_n 0, 1) := by decide +kernel
theorem dX12_count_65 : decode cX12_count 65 = .ok (.getfield 19, 3) := by decide +kernel
theorem dX12_count_68 : decode cX12_count 68 = .ok (.getfield 423, 3) := by decide +kernel
theorem dX12_count_71 : decode cX12_count 71 = .ok (.ireturn, 1) := by decide +kernel
theorem dX12_count_72 : decode cX12_count 72 = .ok (.aload_n 0, 1) := by decide +kernel
theorem dX12_count_73 : decode cX12_count 73 = .ok (.getfield 38, 3) := by decide +kernel
theorem dX12_count_76 : decode cX12_count 76 = .ok (.getfield 167, 3) := by decide +kernel
theorem dX12_count_79 : decode cX12_count 79 = .ok (.ireturn, 1) := by decide +kernel
theorem dX12_count_80 : decode cX12_count 80 = .ok (.aload_n 0, 1) := by decide +kernel
theorem dX12_count_81 : decode cX12_count 81 = .ok (.invokevirtual 177, 3) := by decide +kernel
theorem dX12_count_84 : decode cX12_count 84 = .ok (.invokevirtual 296, 3) := by decide +kernel
theorem dX12_count_87 : decode cX12_count 87 = .ok (.ireturn, 1) := by decide +kernel
theorem dX12_count_88 : decode cX12_count 88 = .ok (.aload_n 0, 1) := by decide +kernel
theorem dX12_count_89 : decode cX12_count 89 = .ok (.getfield 86, 3) := by decide +kernel
theorem dX12_count_92 : decode cX12_count 92 = .ok (.ireturn, 1) := by decide +kernel
theorem dX12_count_93 : decode cX12_count 93 = .ok (.aload_n 0, 1) := by decide +kernel
theorem dX12_count_94 : decode cX12_count 94 = .ok (.getfield 38, 3) := by decide +kernel
theorem dX12_count_97 : decode cX12_count 97 = .ok (.getfield 146, 3) := by decide +kernel
theorem dX12_count_100 : decode cX12_count 100 = .ok (.ireturn, 1) := by decide +kernel
theorem dX12_count_101 : decode cX12_count 101 = .ok (.aload_n 0, 1) := by decide +kernel
theorem dX12_count_102 : decode cX12_count 102 = .ok (.getfield 38, 3) := by decide +kernel
theorem dX12_count_105 : decode cX12_count 105 = .ok (.getfield 373, 3) := by decide +kernel
theorem dX12_count_108 : decode cX12_count 108 = .ok (.ireturn, 1) := by decide +kernel
theorem dX12_count_109 : decode cX12_count 109 = .ok (.aload_n 0, 1) := by decide +kernel
theorem dX12_count_110 : decode cX12_count 110 = .ok (.getfield 19, 3) := by decide +kernel
theorem dX12_count_113 : decode cX12_count 113 = .ok (.getfield 426, 3) := by decide +kernel
theorem dX12_count_116 : decode cX12_count 116 = .ok (.ireturn, 1) := by decide +kernel
theorem dX12_count_117 : decode cX12_count 117 = .ok (.aload_n 0, 1) := by decide +kernel
theorem dX12_count_118 : decode cX12_count 118 = .ok (.getfield 93, 3) := by decide +kernel
theorem dX12_count_121 : decode cX12_count 121 = .ok (.ireturn, 1) := by decide +kernel
theorem dX12_count_122 : decode cX12_count 122 = .ok (.aload_n 0, 1) := by decide +kernel
theorem dX12_count_123 : decode cX12_count 123 = .ok (.getfield 10, 3) := by decide +kernel
theorem dX12_count_126 : decode cX12_count 126 = .ok (.getfield 100, 3) := by decide +kernel
theorem dX12_count_129 : decode cX12_count 129 = .ok (.ireturn, 1) := by decide +kernel
theorem dX12_count_130 : decode cX12_count 130 = .ok (.iconst (-1), 1) := by decide +kernel
theorem dX12_count_131 : decode cX12_count 131 = .ok (.ireturn, 1) := by decide +kernel
theorem dJ6_bitCount_0f7a4_0 : decode cJ6_bitCount_0f7a4 0 = .ok (.iload_n 0, 1) := by decide +kernel
theorem dJ6_bitCount_0f7a4_1 : decode cJ6_bitCount_0f7a4 1 = .ok (.iload_n 0, 1) := by decide +kernel
theorem dJ6_bitCount_0f7a4_2 : decode cJ6_bitCount_0f7a4 2 = .ok (.iconst 1, 1) := by decide +kernel
theorem dJ6_bitCount_0f7a4_3 : decode cJ6_bitCount_0f7a4 3 = .ok (.iushr, 1) := by decide +kernel
theorem dJ6_bitCount_0f7a4_4 : decode cJ6_bitCount_0f7a4 4 = .ok (.ldc_w 265, 3) := by decide +kernel
theorem dJ6_bitCount_0f7a4_7 : decode cJ6_bitCount_0f7a4 7 = .ok (.iand, 1) := by decide +kernel
theorem dJ6_bitCount_0f7a4_8 : decode cJ6_bitCount_0f7a4 8 = .ok (.isub, 1) := by decide +kernel
theorem dJ6_bitCount_0f7a4_9 : decode cJ6_bitCount_0f7a4 9 = .ok (.istore_n 0, 1) := by decide +kernel
theorem dJ6_bitCount_0f7a4_10 : decode cJ6_bitCount_0f7a4 10 = .ok (.iload_n 0, 1) := by decide +kernel
theorem dJ6_bitCount_0f7a4_11 : decode cJ6_bitCount_0f7a4 11 = .ok (.ldc_w 266, 3) := by decide +kernel
theorem dJ6_bitCount_0f7a4_14 : decode cJ6_bitCount_0f7a4 14 = .ok (.iand, 1) := by decide +kernel
theorem dJ6_bitCount_0f7a4_15 : decode cJ6_bitCount_0f7a4 15 = .ok (.iload_n 0, 1) := by decide +kernel
theorem dJ6_bitCount_0f7a4_16 : decode cJ6_bitCount_0f7a4 16 = .ok (.iconst 2, 1) := by decide +kernel
theorem dJ6_bitCount_0f7a4_17 : decode cJ6_bitCount_0f7a4 17 = .ok (.iushr, 1) := by decide +kernel
theorem dJ6_bitCount_0f7a4_18 : decode cJ6_bitCount_0f7a4 18 = .ok (.ldc_w 266, 3) := by decide +kernel
theorem dJ6_bitCount_0f7a4_21 : decode cJ6_bitCount_0f7a4 21 = .ok (.iand, 1) := by decide +kernel
theorem dJ6_bitCount_0f7a4_22 : decode cJ6_bitCount_0f7a4 22 = .ok (.iadd, 1) := by decide +kernel
theorem dJ6_bitCount_0f7a4_23 : decode cJ6_bitCount_0f7a4 23 = .ok (.istore_n 0, 1) := by decide +kernel
theorem dJ6_bitCount_0f7a4_24 : decode cJ6_bitCount_0f7a4 24 = .ok (.iload_n 0, 1) := by decide +kernel
theorem dJ6_bitCount_0f7a4_25 : decode cJ6_bitCount_0f7a4 25 = .ok (.iload_n 0, 1) := by decide +kernel
theorem dJ6_bitCount_0f7a4_26 : decode cJ6_bitCount_0f7a4 26 = .ok (.iconst 4, 1) := by decide +kernel
theorem dJ6_bitCount_0f7a4_27 : decode cJ6_bitCount_0f7a4 27 = .ok (.iushr, 1) := by decide +kernel
