theorem dX13_dig_0 : decode cX13_dig 0 = .ok (.aload_n 0, 1) := by decide +kernel
theorem dX13_dig_1 : decode cX13_dig 1 = .ok (.iconst 0, 1) := by decide +kernel
theorem dX13_dig_2 : decode cX13_dig 2 = .ok (.putfield 1, 3) := by decide +kernel
theorem dX13_dig_5 : decode cX13_dig 5 = .ok (.aload_n 0, 1) := by decide +kernel
theorem dX13_dig_6 : decode cX13_dig 6 = .ok (.iload_n 1, 1) := by decide +kernel
theorem dX13_dig_7 : decode cX13_dig 7 = .ok (.invokevirtual 336, 3) := by decide +kernel
theorem dX13_dig_10 : decode cX13_dig 10 = .ok (.ifCond .eq 25, 3) := by decide +kernel
theorem dX13_dig_13 : decode cX13_dig 13 = .ok (.aload_n 0, 1) := by decide +kernel
theorem dX13_dig_14 : decode cX13_dig 14 = .ok (.iload_n 2, 1) := by decide +kernel
theorem dX13_dig_15 : decode cX13_dig 15 = .ok (.invokevirtual 336, 3) := by decide +kernel
theorem dX13_dig_18 : decode cX13_dig 18 = .ok (.ifCond .eq 17, 3) := by decide +kernel
theorem dX13_dig_21 : decode cX13_dig 21 = .ok (.iload_n 1, 1) := by decide +kernel
theorem dX13_dig_22 : decode cX13_dig 22 = .ok (.iload_n 2, 1) := by decide +kernel
theorem dX13_dig_23 : decode cX13_dig 23 = .ok (.if_icmp .eq 12, 3) := by decide +kernel
theorem dX13_dig_26 : decode cX13_dig 26 = .ok (.aload_n 0, 1) := by decide +kernel
theorem dX13_dig_27 : decode cX13_dig 27 = .ok (.iload_n 1, 1) := by decide +kernel
theorem dX13_dig_28 : decode cX13_dig 28 = .ok (.iload_n 2, 1) := by decide +kernel
theorem dX13_dig_29 : decode cX13_dig 29 = .ok (.invokevirtual 358, 3) := by decide +kernel
theorem dX13_dig_32 : decode cX13_dig 32 = .ok (.goto 4, 3) := by decide +kernel
theorem dX13_dig_35 : decode cX13_dig 35 = .ok (.iconst (-1), 1) := by decide +kernel
theorem dX13_dig_36 : decode cX13_dig 36 = .ok (.ireturn, 1) := by decide +kernel
theorem dX13_may_0 : decode cX13_may 0 = .ok (.aload_n 0, 1) := by decide +kernel
theorem dX13_may_1 : decode cX13_may 1 = .ok (.iconst 0, 1) := by decide +kernel
theorem dX13_may_2 : decode cX13_may 2 = .ok (.putfield 1, 3) := by decide +kernel
theorem dX13_may_5 : decode cX13_may 5 = .ok (.aload_n 0, 1) := by decide +kernel
theorem dX13_may_6 : decode cX13_may 6 = .ok (.iload_n 1, 1) := by decide +kernel
theorem dX13_may_7 : decode cX13_may 7 = .ok (.invokevirtual 336, 3) := by decide +kernel
theorem dX13_may_10 : decode cX13_may 10 = .ok (.ifCond .eq 12, 3) := by decide +kernel
theorem dX13_may_13 : decode cX13_may 13 = .ok (.aload_n 0, 1) := by decide +kernel
theorem dX13_may_14 : decode cX13_may 14 = .ok (.iconst 0, 1) := by decide +kernel
theorem dX13_may_15 : decode cX13_may 15 = .ok (.iload_n 1, 1) := by decide +kernel
theorem dX13_may_16 : decode cX13_may 16 = .ok (.invokevirtual 364, 3) := by decide +kernel
theorem dX13_may_19 : decode cX13_may 19 = .ok (.goto 4, 3) := by decide +kernel
theorem dX13_may_22 : decode cX13_may 22 = .ok (.iconst (-1), 1) := by decide +kernel
theorem dX13_may_23 : decode cX13_may 23 = .ok (.ireturn, 1) := by decide +kernel
theorem dX13_ends_0 : decode cX13_ends 0 = .ok (.aload_n 0, 1) := by decide +kernel
theorem dX13_ends_1 : decode cX13_ends 1 = .ok (.iconst 0, 1) := by decide +kernel
theorem dX13_ends_2 : decode cX13_ends 2 = .ok (.putfield 1, 3) := by decide +kernel
theorem dX13_ends_5 : decode cX13_ends 5 = .ok (.aload_n 0, 1) := by decide +kernel
theorem dX13_ends_6 : decode cX13_ends 6 = .ok (.sipush 1260, 3) := by decide +kernel
theorem dX13_ends_9 : decode cX13_ends 9 = .ok (.invokevirtual 286, 3) := by decide +kernel
theorem dX13_ends_12 : decode cX13_ends 12 = .ok (.iconst 0, 1) := by decide +kernel
theorem dX13_ends_13 : decode cX13_ends 13 = .ok (.istore_n 1, 1) := by decide +kernel
theorem dX13_ends_14 : decode cX13_ends 14 = .ok (.iconst 0, 1) := by decide +kernel
theorem dX13_ends_15 : decode cX13_ends 15 = .ok (.istore_n 2, 1) := by decide +kernel
theorem dX13_ends_16 : decode cX13_ends 16 = .ok (.iload_n 2, 1) := by decide +kernel
theorem dX13_ends_17 : decode cX13_ends 17 = .ok (.aload_n 0, 1) := by decide +kernel
theorem dX13_ends_18 : decode cX13_ends 18 = .ok (.invokevirtual 296, 3) := by decide +kernel
theorem dX13_ends_21 : decode cX13_ends 21 = .ok (.if_icmp .ge 34, 3) := by decide +kernel
theorem dX13_ends_24 : decode cX13_ends 24 = .ok (.aload_n 0, 1) := by decide +kernel
theorem dX13_ends_25 : decode cX13_ends 25 = .ok (.sipush 1260, 3) := by decide +kernel
theorem dX13_ends_28 : decode cX13_ends 28 = .ok (.iload_n 2, 1) := by decide +kernel
theorem dX13_ends_29 : decode cX13_ends 29 = .ok (.invokevirtual 364, 3) := by decide +kernel
theorem dX13_ends_32 : decode cX13_ends 32 = .ok (.istore_n 3, 1) := by decide +kernel
theorem dX13_ends_33 : decode cX13_ends 33 = .ok (.iload_n 1, 1) := by decide +kernel
theorem dX13_ends_34 : decode cX13_ends 34 = .ok (.iload_n 3, 1) := by decide +kernel
theorem dX13_ends_35 : decode cX13_ends 35 = .ok (.ifCond .ne 7, 3) := by decide +kernel
theorem dX13_ends_38 : decode cX13_ends 38 = .ok (.iconst 0, 1) := by decide +kernel
theorem dX13_ends_39 : decode cX13_ends 39 = .ok (.goto 8, 3) := by decide +kernel
theorem dX13_ends_42 : decode cX13_ends 42 = .ok (.iload_n 3, 1) := by decide +kernel
theorem dX13_ends_43 : decode cX13_ends 43 = .ok (.iconst 1, 1) := by decide +kernel
theorem dX13_ends_44 : decode cX13_ends 44 = .ok (.iload_n 2, 1) := by decide +kernel
theorem dX13_ends_45 : decode cX13_ends 45 = .ok (.ishl, 1) := by decide +kernel
theorem dX13_ends_46 : decode cX13_ends 46 = .ok (.ior, 1) := by decide +kernel
theorem dX13_ends_47 : decode cX13_ends 47 = .ok (.ior, 1) := by decide +kernel
theorem dX13_ends_48 : decode cX13_ends 48 = .ok (.istore_n 1, 1) := by decide +kernel
theorem dX13_ends_49 : decode cX13_ends 49 = .ok (.iinc 2 1, 3) := by decide +kernel
theorem dX13_ends_52 : decode cX13_ends 52 = .ok (.goto (-36), 3) := by decide +kernel
theorem dX13_ends_55 : decode cX13_ends 55 = .ok (.iconst 1, 1) := by decide +kernel
theorem dX13_ends_56 : decode cX13_ends 56 = .ok (.aload_n 0, 1) := by decide +kernel
theorem dX13_ends_57 : decode cX13_ends 57 = .ok (.invokevirtual 296, 3) := by decide +kernel
theorem dX13_ends_60 : decode cX13_ends 60 = .ok (.ishl, 1) := by decide +kernel
theorem dX13_ends_61 : decode cX13_ends 61 = .ok (.iconst 1, 1) := by decide +kernel
theorem dX13_ends_62 : decode cX13_ends 62 = .ok (.isub, 1) := by decide +kernel
theorem dX13_ends_63 : decode cX13_ends 63 = .ok (.iload_n 1, 1) := by decide +kernel
theorem dX13_ends_64 : decode cX13_ends 64 = .ok (.iconst (-1), 1) := by decide +kernel
theorem dX13_ends_65 : decode cX13_ends 65 = .ok (.ixor, 1) := by decide +kernel
theorem dX13_ends_66 : decode cX13_ends 66 = .ok (.iand, 1) := by decide +kernel
theorem dX13_ends_67 : decode cX13_ends 67 = .ok (.ireturn, 1) := by decide +kernel
theorem dX13_wed_0 : decode cX13_wed 0 = .ok (.aload_n 0, 1) := by decide +kernel
theorem dX13_wed_1 : decode cX13_wed 1 = .ok (.iconst 0, 1) := by decide +kernel
theorem dX13_wed_2 : decode cX13_wed 2 = .ok (.putfield 1, 3) := by decide +kernel
theorem dX13_wed_5 : decode cX13_wed 5 = .ok (.aload_n 0, 1) := by decide +kernel
theorem dX13_wed_6 : decode cX13_wed 6 = .ok (.iload_n 1, 1) := by decide +kernel
theorem dX13_wed_7 : decode cX13_wed 7 = .ok (.invokevirtual 336, 3) := by decide +kernel
theorem dX13_wed_10 : decode cX13_wed 10 = .ok (.ifCond .eq 21, 3) := by decide +kernel
theorem dX13_wed_13 : decode cX13_wed 13 = .ok (.aload_n 0, 1) := by decide +kernel
theorem dX13_wed_14 : decode cX13_wed 14 = .ok (.iload_n 2, 1) := by decide +kernel
theorem dX13_wed_15 : decode cX13_wed 15 = .ok (.invokevirtual 336, 3) := by decide +kernel
theorem dX13_wed_18 : decode cX13_wed 18 = .ok (.ifCond .eq 13, 3) := by decide +kernel
theorem dX13_wed_21 : decode cX13_wed 21 = .ok (.aload_n 0, 1) := by decide +kernel
theorem dX13_wed_22 : decode cX13_wed 22 = .ok (.iconst 0, 1) := by decide +kernel
theorem dX13_wed_23 : decode cX13_wed 23 = .ok (.iload_n 1, 1) := by decide +kernel
theorem dX13_wed_24 : decode cX13_wed 24 = .ok (.iload_n 2, 1) := by decide +kernel
theorem dX13_wed_25 : decode cX13_wed 25 = .ok (.invokevirtual 361, 3) := by decide +kernel
theorem dX13_wed_28 : decode cX13_wed 28 = .ok (.ifCond .ne 5, 3) := by decide +kernel
theorem dX13_wed_31 : decode cX13_wed 31 = .ok (.iconst (-1), 1) := by decide +kernel
theorem dX13_wed_32 : decode cX13_wed 32 = .ok (.ireturn, 1) := by decide +kernel
theorem dX13_wed_33 : decode cX13_wed 33 = .ok (.aload_n 0, 1) := by decide +kernel
theorem dX13_wed_34 : decode cX13_wed 34 = .ok (.invokevirtual 376, 3) := by decide +kernel
theorem dX13_wed_37 : decode cX13_wed 37 = .ok (.aload_n 0, 1) := by decide +kernel
theorem dX13_wed_38 : decode cX13_wed 38 = .ok (.iconst 0, 1) := by decide +kernel
theorem dX13_wed_39 : decode cX13_wed 39 = .ok (.iload_n 1, 1) := by decide +kernel
theorem dX13_wed_40 : decode cX13_wed 40 = .ok (.iload_n 2, 1) := by decide +kernel
theorem dX13_wed_41 : decode cX13_wed 41 = .ok (.invokevirtual 379, 3) := by decide +kernel
theorem dX13_wed_44 : decode cX13_wed 44 = .ok (.ireturn, 1) := by decide +kernel
theorem dX13_part_0 : decode cX13_part 0 = .ok (.aload_n 0, 1) := by decide +kernel
theorem dX13_part_1 : decode cX13_part 1 = .ok (.iconst 0, 1) := by decide +kernel
theorem dX13_part_2 : decode cX13_part 2 = .ok (.putfield 1, 3) := by decide +kernel
theorem dX13_part_5 : decode cX13_part 5 = .ok (.aload_n 0, 1) := by decide +kernel
theorem dX13_part_6 : decode cX13_part 6 = .ok (.iload_n 1, 1) := by decide +kernel
theorem dX13_part_7 : decode cX13_part 7 = .ok (.invokevirtual 336, 3) := by decide +kernel
theorem dX13_part_10 : decode cX13_part 10 = .ok (.ifCond .eq 12, 3) := by decide +kernel
theorem dX13_part_13 : decode cX13_part 13 = .ok (.aload_n 0, 1) := by decide +kernel
theorem dX13_part_14 : decode cX13_part 14 = .ok (.iconst 0, 1) := by decide +kernel
theorem dX13_part_15 : decode cX13_part 15 = .ok (.iload_n 1, 1) := by decide +kernel
theorem dX13_part_16 : decode cX13_part 16 = .ok (.invokevirtual 303, 3) := by decide +kernel
theorem dX13_part_19 : decode cX13_part 19 = .ok (.ifCond .ge 5, 3) := by decide +kernel
theorem dX13_part_22 : decode cX13_part 22 = .ok (.iconst 0, 1) := by decide +kernel
theorem dX13_part_23 : decode cX13_part 23 = .ok (.ireturn, 1) := by decide +kernel
theorem dX13_part_24 : decode cX13_part 24 = .ok (.aload_n 0, 1) := by decide +kernel
theorem dX13_part_25 : decode cX13_part 25 = .ok (.invokevirtual 376, 3) := by decide +kernel
theorem dX13_part_28 : decode cX13_part 28 = .ok (.aload_n 0, 1) := by decide +kernel
theorem dX13_part_29 : decode cX13_part 29 = .ok (.getfield 126, 3) := by decide +kernel
theorem dX13_part_32 : decode cX13_part 32 = .ok (.iconst 1, 1) := by decide +kernel
theorem dX13_part_33 : decode cX13_part 33 = .ok (.iload_n 1, 1) := by decide +kernel
theorem dX13_part_34 : decode cX13_part 34 = .ok (.iadd, 1) := by decide +kernel
theorem dX13_part_35 : decode cX13_part 35 = .ok (.iconst (-1), 1) := by decide +kernel
theorem dX13_part_36 : decode cX13_part 36 = .ok (.iastore, 1) := by decide +kernel
theorem dX13_part_37 : decode cX13_part 37 = .ok (.iconst 1, 1) := by decide +kernel
theorem dX13_part_38 : decode cX13_part 38 = .ok (.ireturn, 1) := by decide +kernel
theorem dX13_keeps_0 : decode cX13_keeps 0 = .ok (.aload_n 0, 1) := by decide +kernel
theorem dX13_keeps_1 : decode cX13_keeps 1 = .ok (.getfield 289, 3) := by decide +kernel
theorem dX13_keeps_4 : decode cX13_keeps 4 = .ok (.bipush 16, 2) := by decide +kernel
theorem dX13_keeps_6 : decode cX13_keeps 6 = .ok (.if_icmp .ne 47, 3) := by decide +kernel
theorem dX13_keeps_9 : decode cX13_keeps 9 = .ok (.iconst 1, 1) := by decide +kernel
theorem dX13_keeps_10 : decode cX13_keeps 10 = .ok (.istore_n 1, 1) := by decide +kernel
theorem dX13_keeps_11 : decode cX13_keeps 11 = .ok (.iload_n 1, 1) := by decide +kernel
theorem dX13_keeps_12 : decode cX13_keeps 12 = .ok (.bipush 16, 2) := by decide +kernel
theorem dX13_keeps_14 : decode cX13_keeps 14 = .ok (.if_icmp .ge 29, 3) := by decide +kernel
theorem dX13_keeps_17 : decode cX13_keeps 17 = .ok (.aload_n 0, 1) := by decide +kernel
theorem dX13_keeps_18 : decode cX13_keeps 18 = .ok (.bipush 60, 2) := by decide +kernel
theorem dX13_keeps_20 : decode cX13_keeps 20 = .ok (.iconst 5, 1) := by decide +kernel
theorem dX13_keeps_21 : decode cX13_keeps 21 = .ok (.iload_n 1, 1) := by decide +kernel
theorem dX13_keeps_22 : decode cX13_keeps 22 = .ok (.iadd, 1) := by decide +kernel
theorem dX13_keeps_23 : decode cX13_keeps 23 = .ok (.imul, 1) := by decide +kernel
theorem dX13_keeps_24 : decode cX13_keeps 24 = .ok (.bipush 60, 2) := by decide +kernel
theorem dX13_keeps_26 : decode cX13_keeps 26 = .ok (.iconst 5, 1) := by decide +kernel
theorem dX13_keeps_27 : decode cX13_keeps 27 = .ok (.iload_n 1, 1) := by decide +kernel
theorem dX13_keeps_28 : decode cX13_keeps 28 = .ok (.iadd, 1) := by decide +kernel
theorem dX13_keeps_29 : decode cX13_keeps 29 = .ok (.iconst 1, 1) := by decide +kernel
theorem dX13_keeps_30 : decode cX13_keeps 30 = .ok (.isub, 1) := by decide +kernel
theorem dX13_keeps_31 : decode cX13_keeps 31 = .ok (.imul, 1) := by decide +kernel
theorem dX13_keeps_32 : decode cX13_keeps 32 = .ok (.bipush 19, 2) := by decide +kernel
theorem dX13_keeps_34 : decode cX13_keeps 34 = .ok (.invokevirtual 292, 3) := by decide +kernel
theorem dX13_keeps_37 : decode cX13_keeps 37 = .ok (.iinc 1 1, 3) := by decide +kernel
theorem dX13_keeps_40 : decode cX13_keeps 40 = .ok (.goto (-29), 3) := by decide +kernel
theorem dX13_keeps_43 : decode cX13_keeps 43 = .ok (.aload_n 0, 1) := by decide +kernel
theorem dX13_keeps_44 : decode cX13_keeps 44 = .ok (.dup, 1) := by decide +kernel
theorem dX13_keeps_45 : decode cX13_keeps 45 = .ok (.getfield 289, 3) := by decide +kernel
theorem dX13_keeps_48 : decode cX13_keeps 48 = .ok (.iconst 1, 1) := by decide +kernel
theorem dX13_keeps_49 : decode cX13_keeps 49 = .ok (.isub, 1) := by decide +kernel
theorem dX13_keeps_50 : decode cX13_keeps 50 = .ok (.putfield 289, 3) := by decide +kernel
theorem dX13_keeps_53 : decode cX13_keeps 53 = .ok (.aload_n 0, 1) := by decide +kernel
theorem dX13_keeps_54 : decode cX13_keeps 54 = .ok (.iconst 0, 1) := by decide +kernel
theorem dX13_keeps_55 : decode cX13_keeps 55 = .ok (.bipush 60, 2) := by decide +kernel
theorem dX13_keeps_57 : decode cX13_keeps 57 = .ok (.iconst 5, 1) := by decide +kernel
theorem dX13_keeps_58 : decode cX13_keeps 58 = .ok (.aload_n 0, 1) := by decide +kernel
theorem dX13_keeps_59 : decode cX13_keeps 59 = .ok (.getfield 289, 3) := by decide +kernel
theorem dX13_keeps_62 : decode cX13_keeps 62 = .ok (.iadd, 1) := by decide +kernel
theorem dX13_keeps_63 : decode cX13_keeps 63 = .ok (.imul, 1) := by decide +kernel
theorem dX13_keeps_64 : decode cX13_keeps 64 = .ok (.bipush 19, 2) := by decide +kernel
theorem dX13_keeps_66 : decode cX13_keeps 66 = .ok (.invokevirtual 292, 3) := by decide +kernel
theorem dX13_keeps_69 : decode cX13_keeps 69 = .ok (.aload_n 0, 1) := by decide +kernel
theorem dX13_keeps_70 : decode cX13_keeps 70 = .ok (.dup, 1) := by decide +kernel
theorem dX13_keeps_71 : decode cX13_keeps 71 = .ok (.getfield 289, 3) := by decide +kernel
theorem dX13_keeps_74 : decode cX13_keeps 74 = .ok (.iconst 1, 1) := by decide +kernel
theorem dX13_keeps_75 : decode cX13_keeps 75 = .ok (.iadd, 1) := by decide +kernel
theorem dX13_keeps_76 : decode cX13_keeps 76 = .ok (.putfield 289, 3) := by decide +kernel
theorem dX13_keeps_79 : decode cX13_keeps 79 = .ok (.return_, 1) := by decide +kernel
theorem dX13_copies_0 : decode cX13_copies 0 = .ok (.iconst 0, 1) := by decide +kernel
theorem dX13_copies_1 : decode cX13_copies 1 = .ok (.istore 4, 2) := by decide +kernel
theorem dX13_copies_3 : decode cX13_copies 3 = .ok (.iload 4, 2) := by decide +kernel
theorem dX13_copies_5 : decode cX13_copies 5 = .ok (.iload_n 3, 1) := by decide +kernel
theorem dX13_copies_6 : decode cX13_copies 6 = .ok (.if_icmp .ge 27, 3) := by decide +kernel
theorem dX13_copies_9 : decode cX13_copies 9 = .ok (.aload_n 0, 1) := by decide +kernel
theorem dX13_copies_10 : decode cX13_copies 10 = .ok (.getfield 126, 3) := by decide +kernel
theorem dX13_copies_13 : decode cX13_copies 13 = .ok (.iload_n 2, 1) := by decide +kernel
theorem dX13_copies_14 : decode cX13_copies 14 = .ok (.iload 4, 2) := by decide +kernel
theorem dX13_copies_16 : decode cX13_copies 16 = .ok (.iadd, 1) := by decide +kernel
theorem dX13_copies_17 : decode cX13_copies 17 = .ok (.aload_n 0, 1) := by decide +kernel
theorem dX13_copies_18 : decode cX13_copies 18 = .ok (.getfield 126, 3) := by decide +kernel
theorem dX13_copies_21 : decode cX13_copies 21 = .ok (.iload_n 1, 1) := by decide +kernel
theorem dX13_copies_22 : decode cX13_copies 22 = .ok (.iload 4, 2) := by decide +kernel
theorem dX13_copies_24 : decode cX13_copies 24 = .ok (.iadd, 1) := by decide +kernel
theorem dX13_copies_25 : decode cX13_copies 25 = .ok (.iaload, 1) := by decide +kernel
theorem dX13_copies_26 : decode cX13_copies 26 = .ok (.iastore, 1) := by decide +kernel
theorem dX13_copies_27 : decode cX13_copies 27 = .ok (.iinc 4 1, 3) := by decide +kernel
theorem dX13_copies_30 : decode cX13_copies 30 = .ok (.goto (-27), 3) := by decide +kernel
theorem dX13_copies_33 : decode cX13_copies 33 = .ok (.return_, 1) := by decide +kernel
theorem dX13_passes_0 : decode cX13_passes 0 = .ok (.iconst 0, 1) := by decide +kernel
theorem dX13_passes_1 : decode cX13_passes 1 = .ok (.istore_n 2, 1) := by decide +kernel
theorem dX13_passes_2 : decode cX13_passes 2 = .ok (.iload_n 2, 1) := by decide +kernel
theorem dX13_passes_3 : decode cX13_passes 3 = .ok (.aload_n 0, 1) := by decide +kernel
theorem dX13_passes_4 : decode cX13_passes 4 = .ok (.invokevirtual 296, 3) := by decide +kernel
theorem dX13_passes_7 : decode cX13_passes 7 = .ok (.if_icmp .ge 41, 3) := by decide +kernel
theorem dX13_passes_10 : decode cX13_passes 10 = .ok (.aload_n 0, 1) := by decide +kernel
theorem dX13_passes_11 : decode cX13_passes 11 = .ok (.getfield 126, 3) := by decide +kernel
theorem dX13_passes_14 : decode cX13_passes 14 = .ok (.iload_n 1, 1) := by decide +kernel
theorem dX13_passes_15 : decode cX13_passes 15 = .ok (.bipush 13, 2) := by decide +kernel
theorem dX13_passes_17 : decode cX13_passes 17 = .ok (.iadd, 1) := by decide +kernel
theorem dX13_passes_18 : decode cX13_passes 18 = .ok (.iload_n 2, 1) := by decide +kernel
theorem dX13_passes_19 : decode cX13_passes 19 = .ok (.iadd, 1) := by decide +kernel
theorem dX13_passes_20 : decode cX13_passes 20 = .ok (.dup2, 1) := by decide +kernel
theorem dX13_passes_21 : decode cX13_passes 21 = .ok (.iaload, 1) := by decide +kernel
theorem dX13_passes_22 : decode cX13_passes 22 = .ok (.aload_n 0, 1) := by decide +kernel
theorem dX13_passes_23 : decode cX13_passes 23 = .ok (.iconst 1, 1) := by decide +kernel
theorem dX13_passes_24 : decode cX13_passes 24 = .ok (.iload_n 2, 1) := by decide +kernel
theorem dX13_passes_25 : decode cX13_passes 25 = .ok (.aload_n 0, 1) := by decide +kernel
theorem dX13_passes_26 : decode cX13_passes 26 = .ok (.iload_n 1, 1) := by decide +kernel
theorem dX13_passes_27 : decode cX13_passes 27 = .ok (.iload_n 2, 1) := by decide +kernel
theorem dX13_passes_28 : decode cX13_passes 28 = .ok (.aload_n 0, 1) := by decide +kernel
theorem dX13_passes_29 : decode cX13_passes 29 = .ok (.iload_n 1, 1) := by decide +kernel
theorem dX13_passes_30 : decode cX13_passes 30 = .ok (.invokevirtual 349, 3) := by decide +kernel
theorem dX13_passes_33 : decode cX13_passes 33 = .ok (.invokevirtual 370, 3) := by decide +kernel
theorem dX13_passes_36 : decode cX13_passes 36 = .ok (.iconst 0, 1) := by decide +kernel
theorem dX13_passes_37 : decode cX13_passes 37 = .ok (.invokevirtual 373, 3) := by decide +kernel
theorem dX13_passes_40 : decode cX13_passes 40 = .ok (.iadd, 1) := by decide +kernel
theorem dX13_passes_41 : decode cX13_passes 41 = .ok (.iastore, 1) := by decide +kernel
theorem dX13_passes_42 : decode cX13_passes 42 = .ok (.iinc 2 1, 3) := by decide +kernel
theorem dX13_passes_45 : decode cX13_passes 45 = .ok (.goto (-43), 3) := by decide +kernel
theorem dX13_passes_48 : decode cX13_passes 48 = .ok (.aload_n 0, 1) := by decide +kernel
theorem dX13_passes_49 : decode cX13_passes 49 = .ok (.getfield 126, 3) := by decide +kernel
theorem dX13_passes_52 : decode cX13_passes 52 = .ok (.iload_n 1, 1) := by decide +kernel
theorem dX13_passes_53 : decode cX13_passes 53 = .ok (.iconst 0, 1) := by decide +kernel
theorem dX13_passes_54 : decode cX13_passes 54 = .ok (.iadd, 1) := by decide +kernel
theorem dX13_passes_55 : decode cX13_passes 55 = .ok (.dup2, 1) := by decide +kernel
theorem dX13_passes_56 : decode cX13_passes 56 = .ok (.iaload, 1) := by decide +kernel
theorem dX13_passes_57 : decode cX13_passes 57 = .ok (.iconst 1, 1) := by decide +kernel
theorem dX13_passes_58 : decode cX13_passes 58 = .ok (.iadd, 1) := by decide +kernel
theorem dX13_passes_59 : decode cX13_passes 59 = .ok (.iastore, 1) := by decide +kernel
theorem dX13_passes_60 : decode cX13_passes 60 = .ok (.return_, 1) := by decide +kernel
theorem dX13_seasons_0 : decode cX13_seasons 0 = .ok (.aload_n 0, 1) := by decide +kernel
theorem dX13_seasons_1 : decode cX13_seasons 1 = .ok (.iconst 0, 1) := by decide +kernel
theorem dX13_seasons_2 : decode cX13_seasons 2 = .ok (.putfield 1, 3) := by decide +kernel
theorem dX13_seasons_5 : decode cX13_seasons 5 = .ok (.iload_n 1, 1) := by decide +kernel
theorem dX13_seasons_6 : decode cX13_seasons 6 = .ok (.iconst 1, 1) := by decide +kernel
theorem dX13_seasons_7 : decode cX13_seasons 7 = .ok (.bipush 100, 2) := by decide +kernel
theorem dX13_seasons_9 : decode cX13_seasons 9 = .ok (.invokestatic 339, 3) := by decide +kernel
theorem dX13_seasons_12 : decode cX13_seasons 12 = .ok (.ifCond .ne 5, 3) := by decide +kernel
theorem dX13_seasons_15 : decode cX13_seasons 15 = .ok (.iconst (-1), 1) := by decide +kernel
theorem dX13_seasons_16 : decode cX13_seasons 16 = .ok (.ireturn, 1) := by decide +kernel
theorem dX13_seasons_17 : decode cX13_seasons 17 = .ok (.aload_n 0, 1) := by decide +kernel
theorem dX13_seasons_18 : decode cX13_seasons 18 = .ok (.invokevirtual 376, 3) := by decide +kernel
theorem dX13_seasons_21 : decode cX13_seasons 21 = .ok (.iconst 0, 1) := by decide +kernel
theorem dX13_seasons_22 : decode cX13_seasons 22 = .ok (.istore_n 2, 1) := by decide +kernel
theorem dX13_seasons_23 : decode cX13_seasons 23 = .ok (.iload_n 2, 1) := by decide +kernel
theorem dX13_seasons_24 : decode cX13_seasons 24 = .ok (.iload_n 1, 1) := by decide +kernel
theorem dX13_seasons_25 : decode cX13_seasons 25 = .ok (.if_icmp .ge 14, 3) := by decide +kernel
theorem dX13_seasons_28 : decode cX13_seasons 28 = .ok (.aload_n 0, 1) := by decide +kernel
theorem dX13_seasons_29 : decode cX13_seasons 29 = .ok (.iconst 0, 1) := by decide +kernel
theorem dX13_seasons_30 : decode cX13_seasons 30 = .ok (.invokevirtual 382, 3) := by decide +kernel
theorem dX13_seasons_33 : decode cX13_seasons 33 = .ok (.iinc 2 1, 3) := by decide +kernel
theorem dX13_seasons_36 : decode cX13_seasons 36 = .ok (.goto (-13), 3) := by decide +kernel
theorem dX13_seasons_39 : decode cX13_seasons 39 = .ok (.aload_n 0, 1) := by decide +kernel
theorem dX13_seasons_40 : decode cX13_seasons 40 = .ok (.getfield 126, 3) := by decide +kernel
theorem dX13_seasons_43 : decode cX13_seasons 43 = .ok (.iconst 0, 1) := by decide +kernel
theorem dX13_seasons_44 : decode cX13_seasons 44 = .ok (.iaload, 1) := by decide +kernel
theorem dX13_seasons_45 : decode cX13_seasons 45 = .ok (.ireturn, 1) := by decide +kernel
theorem dX13_undo_0 : decode cX13_undo 0 = .ok (.aload_n 0, 1) := by decide +kernel
theorem dX13_undo_1 : decode cX13_undo 1 = .ok (.iconst 0, 1) := by decide +kernel
theorem dX13_undo_2 : decode cX13_undo 2 = .ok (.putfield 1, 3) := by decide +kernel
theorem dX13_undo_5 : decode cX13_undo 5 = .ok (.aload_n 0, 1) := by decide +kernel
theorem dX13_undo_6 : decode cX13_undo 6 = .ok (.getfield 289, 3) := by decide +kernel
theorem dX13_undo_9 : decode cX13_undo 9 = .ok (.ifCond .ne 5, 3) := by decide +kernel
theorem dX13_undo_12 : decode cX13_undo 12 = .ok (.iconst 0, 1) := by decide +kernel
theorem dX13_undo_13 : decode cX13_undo 13 = .ok (.ireturn, 1) := by decide +kernel
theorem dX13_undo_14 : decode cX13_undo 14 = .ok (.aload_n 0, 1) := by decide +kernel
theorem dX13_undo_15 : decode cX13_undo 15 = .ok (.dup, 1) := by decide +kernel
theorem dX13_undo_16 : decode cX13_undo 16 = .ok (.getfield 289, 3) := by decide +kernel
theorem dX13_undo_19 : decode cX13_undo 19 = .ok (.iconst 1, 1) := by decide +kernel
theorem dX13_undo_20 : decode cX13_undo 20 = .ok (.isub, 1) := by decide +kernel
theorem dX13_undo_21 : decode cX13_undo 21 = .ok (.putfield 289, 3) := by decide +kernel
theorem dX13_undo_24 : decode cX13_undo 24 = .ok (.aload_n 0, 1) := by decide +kernel
theorem dX13_undo_25 : decode cX13_undo 25 = .ok (.bipush 60, 2) := by decide +kernel
theorem dX13_undo_27 : decode cX13_undo 27 = .ok (.iconst 5, 1) := by decide +kernel
theorem dX13_undo_28 : decode cX13_undo 28 = .ok (.aload_n 0, 1) := by decide +kernel
theorem dX13_undo_29 : decode cX13_undo 29 = .ok (.getfield 289, 3) := by decide +kernel
theorem dX13_undo_32 : decode cX13_undo 32 = .ok (.iadd, 1) := by decide +kernel
theorem dX13_undo_33 : decode cX13_undo 33 = .ok (.imul, 1) := by decide +kernel
theorem dX13_undo_34 : decode cX13_undo 34 = .ok (.iconst 0, 1) := by decide +kernel
theorem dX13_undo_35 : decode cX13_undo 35 = .ok (.bipush 19, 2) := by decide +kernel
theorem dX13_undo_37 : decode cX13_undo 37 = .ok (.invokevirtual 292, 3) := by decide +kernel
theorem dX13_undo_40 : decode cX13_undo 40 = .ok (.iconst 1, 1) := by decide +kernel
theorem dX13_undo_41 : decode cX13_undo 41 = .ok (.ireturn, 1) := by decide +kernel
theorem dX13_weddings_0 : decode cX13_weddings 0 = .ok (.iconst 0, 1) := by decide +kernel
theorem dX13_weddings_1 : decode cX13_weddings 1 = .ok (.istore_n 2, 1) := by decide +kernel
theorem dX13_weddings_2 : decode cX13_weddings 2 = .ok (.iconst 0, 1) := by decide +kernel
theorem dX13_weddings_3 : decode cX13_weddings 3 = .ok (.istore_n 3, 1) := by decide +kernel
theorem dX13_weddings_4 : decode cX13_weddings 4 = .ok (.iload_n 3, 1) := by decide +kernel
theorem dX13_weddings_5 : decode cX13_weddings 5 = .ok (.aload_n 0, 1) := by decide +kernel
theorem dX13_weddings_6 : decode cX13_weddings 6 = .ok (.invokevirtual 296, 3) := by decide +kernel
theorem dX13_weddings_9 : decode cX13_weddings 9 = .ok (.if_icmp .ge 26, 3) := by decide +kernel
theorem dX13_weddings_12 : decode cX13_weddings 12 = .ok (.iload_n 2, 1) := by decide +kernel
theorem dX13_weddings_13 : decode cX13_weddings 13 = .ok (.aload_n 0, 1) := by decide +kernel
theorem dX13_weddings_14 : decode cX13_weddings 14 = .ok (.iload_n 1, 1) := by decide +kernel
theorem dX13_weddings_15 : decode cX13_weddings 15 = .ok (.iload_n 3, 1) := by decide +kernel
theorem dX13_weddings_16 : decode cX13_weddings 16 = .ok (.invokevirtual 303, 3) := by decide +kernel
theorem dX13_weddings_19 : decode cX13_weddings 19 = .ok (.ifCond .lt 7, 3) := by decide +kernel
theorem dX13_weddings_22 : decode cX13_weddings 22 = .ok (.iconst 1, 1) := by decide +kernel
theorem dX13_weddings_23 : decode cX13_weddings 23 = .ok (.goto 4, 3) := by decide +kernel
theorem dX13_weddings_26 : decode cX13_weddings 26 = .ok (.iconst 0, 1) := by decide +kernel
theorem dX13_weddings_27 : decode cX13_weddings 27 = .ok (.iadd, 1) := by decide +kernel
theorem dX13_weddings_28 : decode cX13_weddings 28 = .ok (.istore_n 2, 1) := by decide +kernel
theorem dX13_weddings_29 : decode cX13_weddings 29 = .ok (.iinc 3 1, 3) := by decide +kernel
theorem dX13_weddings_32 : decode cX13_weddings 32 = .ok (.goto (-28), 3) := by decide +kernel
theorem dX13_weddings_35 : decode cX13_weddings 35 = .ok (.iload_n 2, 1) := by decide +kernel
theorem dX13_weddings_36 : decode cX13_weddings 36 = .ok (.ireturn, 1) := by decide +kernel
theorem dX13_judged_0 : decode cX13_judged 0 = .ok (.aload_n 0, 1) := by decide +kernel
theorem dX13_judged_1 : decode cX13_judged 1 = .ok (.iconst 0, 1) := by decide +kernel
theorem dX13_judged_2 : decode cX13_judged 2 = .ok (.putfield 1, 3) := by decide +kernel
theorem dX13_judged_5 : decode cX13_judged 5 = .ok (.iload_n 1, 1) := by decide +kernel
theorem dX13_judged_6 : decode cX13_judged 6 = .ok (.iconst 0, 1) := by decide +kernel
theorem dX13_judged_7 : decode cX13_judged 7 = .ok (.iconst 2, 1) := by decide +kernel
theorem dX13_judged_8 : decode cX13_judged 8 = .ok (.invokestatic 339, 3) := by decide +kernel
theorem dX13_judged_11 : decode cX13_judged 11 = .ok (.ifCond .ne 6, 3) := by decide +kernel
theorem dX13_judged_14 : decode cX13_judged 14 = .ok (.bipush (-2), 2) := by decide +kernel
theorem dX13_judged_16 : decode cX13_judged 16 = .ok (.ireturn, 1) := by decide +kernel
theorem dX13_judged_17 : decode cX13_judged 17 = .ok (.aload_n 0, 1) := by decide +kernel
theorem dX13_judged_18 : decode cX13_judged 18 = .ok (.sipush 1260, 3) := by decide +kernel
theorem dX13_judged_21 : decode cX13_judged 21 = .ok (.invokevirtual 286, 3) := by decide +kernel
theorem dX13_judged_24 : decode cX13_judged 24 = .ok (.iconst (-1), 1) := by decide +kernel
theorem dX13_judged_25 : decode cX13_judged 25 = .ok (.istore_n 2, 1) := by decide +kernel
theorem dX13_judged_26 : decode cX13_judged 26 = .ok (.iconst (-1), 1) := by decide +kernel
theorem dX13_judged_27 : decode cX13_judged 27 = .ok (.istore_n 3, 1) := by decide +kernel
theorem dX13_judged_28 : decode cX13_judged 28 = .ok (.iconst 0, 1) := by decide +kernel
theorem dX13_judged_29 : decode cX13_judged 29 = .ok (.istore 4, 2) := by decide +kernel
theorem dX13_judged_31 : decode cX13_judged 31 = .ok (.iload 4, 2) := by decide +kernel
theorem dX13_judged_33 : decode cX13_judged 33 = .ok (.aload_n 0, 1) := by decide +kernel
theorem dX13_judged_34 : decode cX13_judged 34 = .ok (.getfield 114, 3) := by decide +kernel
theorem dX13_judged_37 : decode cX13_judged 37 = .ok (.iconst 0, 1) := by decide +kernel
theorem dX13_judged_38 : decode cX13_judged 38 = .ok (.iaload, 1) := by decide +kernel
theorem dX13_judged_39 : decode cX13_judged 39 = .ok (.if_icmp .ge 207, 3) := by decide +kernel
theorem dX13_judged_42 : decode cX13_judged 42 = .ok (.aload_n 0, 1) := by decide +kernel
theorem dX13_judged_43 : decode cX13_judged 43 = .ok (.getfield 114, 3) := by decide +kernel
theorem dX13_judged_46 : decode cX13_judged 46 = .ok (.iconst 1, 1) := by decide +kernel
theorem dX13_judged_47 : decode cX13_judged 47 = .ok (.iconst 3, 1) := by decide +kernel
theorem dX13_judged_48 : decode cX13_judged 48 = .ok (.iload 4, 2) := by decide +kernel
theorem dX13_judged_50 : decode cX13_judged 50 = .ok (.imul, 1) := by decide +kernel
theorem dX13_judged_51 : decode cX13_judged 51 = .ok (.iadd, 1) := by decide +kernel
theorem dX13_judged_52 : decode cX13_judged 52 = .ok (.iaload, 1) := by decide +kernel
theorem dX13_judged_53 : decode cX13_judged 53 = .ok (.istore 5, 2) := by decide +kernel
theorem dX13_judged_55 : decode cX13_judged 55 = .ok (.aload_n 0, 1) := by decide +kernel
theorem dX13_judged_56 : decode cX13_judged 56 = .ok (.getfield 114, 3) := by decide +kernel
theorem dX13_judged_59 : decode cX13_judged 59 = .ok (.iconst 2, 1) := by decide +kernel
theorem dX13_judged_60 : decode cX13_judged 60 = .ok (.iconst 3, 1) := by decide +kernel
theorem dX13_judged_61 : decode cX13_judged 61 = .ok (.iload 4, 2) := by decide +kernel
theorem dX13_judged_63 : decode cX13_judged 63 = .ok (.imul, 1) := by decide +kernel
theorem dX13_judged_64 : decode cX13_judged 64 = .ok (.iadd, 1) := by decide +kernel
theorem dX13_judged_65 : decode cX13_judged 65 = .ok (.iaload, 1) := by decide +kernel
theorem dX13_judged_66 : decode cX13_judged 66 = .ok (.istore 6, 2) := by decide +kernel
theorem dX13_judged_68 : decode cX13_judged 68 = .ok (.aload_n 0, 1) := by decide +kernel
theorem dX13_judged_69 : decode cX13_judged 69 = .ok (.getfield 114, 3) := by decide +kernel
theorem dX13_judged_72 : decode cX13_judged 72 = .ok (.iconst 3, 1) := by decide +kernel
theorem dX13_judged_73 : decode cX13_judged 73 = .ok (.iconst 3, 1) := by decide +kernel
theorem dX13_judged_74 : decode cX13_judged 74 = .ok (.iload 4, 2) := by decide +kernel
theorem dX13_judged_76 : decode cX13_judged 76 = .ok (.imul, 1) := by decide +kernel
theorem dX13_judged_77 : decode cX13_judged 77 = .ok (.iadd, 1) := by decide +kernel
theorem dX13_judged_78 : decode cX13_judged 78 = .ok (.iaload, 1) := by decide +kernel
theorem dX13_judged_79 : decode cX13_judged 79 = .ok (.istore 7, 2) := by decide +kernel
theorem dX13_judged_81 : decode cX13_judged 81 = .ok (.iload 5, 2) := by decide +kernel
theorem dX13_judged_83 : decode cX13_judged 83 = .ok (.iconst 2, 1) := by decide +kernel
theorem dX13_judged_84 : decode cX13_judged 84 = .ok (.if_icmp .eq 37, 3) := by decide +kernel
theorem dX13_judged_87 : decode cX13_judged 87 = .ok (.iload 5, 2) := by decide +kernel
theorem dX13_judged_89 : decode cX13_judged 89 = .ok (.ifCond .ne 20, 3) := by decide +kernel
theorem dX13_judged_92 : decode cX13_judged 92 = .ok (.aload_n 0, 1) := by decide +kernel
theorem dX13_judged_93 : decode cX13_judged 93 = .ok (.sipush 1260, 3) := by decide +kernel
theorem dX13_judged_96 : decode cX13_judged 96 = .ok (.iload 6, 2) := by decide +kernel
theorem dX13_judged_98 : decode cX13_judged 98 = .ok (.iload 7, 2) := by decide +kernel
theorem dX13_judged_100 : decode cX13_judged 100 = .ok (.invokevirtual 361, 3) := by decide +kernel
theorem dX13_judged_103 : decode cX13_judged 103 = .ok (.ifCond .eq 22, 3) := by decide +kernel
theorem dX13_judged_106 : decode cX13_judged 106 = .ok (.goto 15, 3) := by decide +kernel
theorem dX13_judged_109 : decode cX13_judged 109 = .ok (.aload_n 0, 1) := by decide +kernel
theorem dX13_judged_110 : decode cX13_judged 110 = .ok (.sipush 1260, 3) := by decide +kernel
theorem dX13_judged_113 : decode cX13_judged 113 = .ok (.iload 6, 2) := by decide +kernel
theorem dX13_judged_115 : decode cX13_judged 115 = .ok (.invokevirtual 303, 3) := by decide +kernel
theorem dX13_judged_118 : decode cX13_judged 118 = .ok (.ifCond .lt 7, 3) := by decide +kernel
theorem dX13_judged_121 : decode cX13_judged 121 = .ok (.iconst 1, 1) := by decide +kernel
theorem dX13_judged_122 : decode cX13_judged 122 = .ok (.goto 4, 3) := by decide +kernel
theorem dX13_judged_125 : decode cX13_judged 125 = .ok (.iconst 0, 1) := by decide +kernel
theorem dX13_judged_126 : decode cX13_judged 126 = .ok (.istore 8, 2) := by decide +kernel
theorem dX13_judged_128 : decode cX13_judged 128 = .ok (.iload 8, 2) := by decide +kernel
theorem dX13_judged_130 : decode cX13_judged 130 = .ok (.ifCond .eq 23, 3) := by decide +kernel
theorem dX13_judged_133 : decode cX13_judged 133 = .ok (.iload 5, 2) := by decide +kernel
theorem dX13_judged_135 : decode cX13_judged 135 = .ok (.ifCond .ne 18, 3) := by decide +kernel
theorem dX13_judged_138 : decode cX13_judged 138 = .ok (.aload_n 0, 1) := by decide +kernel
theorem dX13_judged_139 : decode cX13_judged 139 = .ok (.sipush 1260, 3) := by decide +kernel
theorem dX13_judged_142 : decode cX13_judged 142 = .ok (.iload 6, 2) := by decide +kernel
theorem dX13_judged_144 : decode cX13_judged 144 = .ok (.iload 7, 2) := by decide +kernel
theorem dX13_judged_146 : decode cX13_judged 146 = .ok (.invokevirtual 379, 3) := by decide +kernel
theorem dX13_judged_149 : decode cX13_judged 149 = .ok (.pop, 1) := by decide +kernel
theorem dX13_judged_150 : decode cX13_judged 150 = .ok (.goto 41, 3) := by decide +kernel
theorem dX13_judged_153 : decode cX13_judged 153 = .ok (.iload 8, 2) := by decide +kernel
theorem dX13_judged_155 : decode cX13_judged 155 = .ok (.ifCond .eq 24, 3) := by decide +kernel
theorem dX13_judged_158 : decode cX13_judged 158 = .ok (.iload 5, 2) := by decide +kernel
theorem dX13_judged_160 : decode cX13_judged 160 = .ok (.iconst 1, 1) := by decide +kernel
theorem dX13_judged_161 : decode cX13_judged 161 = .ok (.if_icmp .ne 18, 3) := by decide +kernel
theorem dX13_judged_164 : decode cX13_judged 164 = .ok (.aload_n 0, 1) := by decide +kernel
theorem dX13_judged_165 : decode cX13_judged 165 = .ok (.getfield 126, 3) := by decide +kernel
theorem dX13_judged_168 : decode cX13_judged 168 = .ok (.sipush 1261, 3) := by decide +kernel
theorem dX13_judged_171 : decode cX13_judged 171 = .ok (.iload 6, 2) := by decide +kernel
theorem dX13_judged_173 : decode cX13_judged 173 = .ok (.iadd, 1) := by decide +kernel
theorem dX13_judged_174 : decode cX13_judged 174 = .ok (.iconst (-1), 1) := by decide +kernel
theorem dX13_judged_175 : decode cX13_judged 175 = .ok (.iastore, 1) := by decide +kernel
theorem dX13_judged_176 : decode cX13_judged 176 = .ok (.goto 15, 3) := by decide +kernel
theorem dX13_judged_179 : decode cX13_judged 179 = .ok (.iload 8, 2) := by decide +kernel
theorem dX13_judged_181 : decode cX13_judged 181 = .ok (.ifCond .eq 10, 3) := by decide +kernel
theorem dX13_judged_184 : decode cX13_judged 184 = .ok (.aload_n 0, 1) := by decide +kernel
theorem dX13_judged_185 : decode cX13_judged 185 = .ok (.sipush 1260, 3) := by decide +kernel
theorem dX13_judged_188 : decode cX13_judged 188 = .ok (.invokevirtual 382, 3) := by decide +kernel
theorem dX13_judged_191 : decode cX13_judged 191 = .ok (.iload 8, 2) := by decide +kernel
theorem dX13_judged_193 : decode cX13_judged 193 = .ok (.ifCond .ne 12, 3) := by decide +kernel
theorem dX13_judged_196 : decode cX13_judged 196 = .ok (.iload_n 2, 1) := by decide +kernel
theorem dX13_judged_197 : decode cX13_judged 197 = .ok (.ifCond .ge 8, 3) := by decide +kernel
theorem dX13_judged_200 : decode cX13_judged 200 = .ok (.iload 4, 2) := by decide +kernel
theorem dX13_judged_202 : decode cX13_judged 202 = .ok (.goto 4, 3) := by decide +kernel
theorem dX13_judged_205 : decode cX13_judged 205 = .ok (.iload_n 2, 1) := by decide +kernel
theorem dX13_judged_206 : decode cX13_judged 206 = .ok (.istore_n 2, 1) := by decide +kernel
theorem dX13_judged_207 : decode cX13_judged 207 = .ok (.iload 8, 2) := by decide +kernel
theorem dX13_judged_209 : decode cX13_judged 209 = .ok (.ifCond .eq 29, 3) := by decide +kernel
theorem dX13_judged_212 : decode cX13_judged 212 = .ok (.iload_n 3, 1) := by decide +kernel
theorem dX13_judged_213 : decode cX13_judged 213 = .ok (.ifCond .ge 25, 3) := by decide +kernel
theorem dX13_judged_216 : decode cX13_judged 216 = .ok (.aload_n 0, 1) := by decide +kernel
theorem dX13_judged_217 : decode cX13_judged 217 = .ok (.sipush 1260, 3) := by decide +kernel
theorem dX13_judged_220 : decode cX13_judged 220 = .ok (.aload_n 0, 1) := by decide +kernel
theorem dX13_judged_221 : decode cX13_judged 221 = .ok (.sipush 1260, 3) := by decide +kernel
theorem dX13_judged_224 : decode cX13_judged 224 = .ok (.invokevirtual 349, 3) := by decide +kernel
theorem dX13_judged_227 : decode cX13_judged 227 = .ok (.invokevirtual 385, 3) := by decide +kernel
theorem dX13_judged_230 : decode cX13_judged 230 = .ok (.ifCond .ne 8, 3) := by decide +kernel
theorem dX13_judged_233 : decode cX13_judged 233 = .ok (.iload 4, 2) := by decide +kernel
theorem dX13_judged_235 : decode cX13_judged 235 = .ok (.goto 4, 3) := by decide +kernel
theorem dX13_judged_238 : decode cX13_judged 238 = .ok (.iload_n 3, 1) := by decide +kernel
theorem dX13_judged_239 : decode cX13_judged 239 = .ok (.istore_n 3, 1) := by decide +kernel
theorem dX13_judged_240 : decode cX13_judged 240 = .ok (.iinc 4 1, 3) := by decide +kernel
theorem dX13_judged_243 : decode cX13_judged 243 = .ok (.goto (-212), 3) := by decide +kernel
theorem dX13_judged_246 : decode cX13_judged 246 = .ok (.iload_n 1, 1) := by decide +kernel
theorem dX13_judged_247 : decode cX13_judged 247 = .ok (.ifCond .ne 7, 3) := by decide +kernel
theorem dX13_judged_250 : decode cX13_judged 250 = .ok (.iload_n 2, 1) := by decide +kernel
theorem dX13_judged_251 : decode cX13_judged 251 = .ok (.goto 19, 3) := by decide +kernel
theorem dX13_judged_254 : decode cX13_judged 254 = .ok (.iload_n 1, 1) := by decide +kernel
theorem dX13_judged_255 : decode cX13_judged 255 = .ok (.iconst 1, 1) := by decide +kernel
theorem dX13_judged_256 : decode cX13_judged 256 = .ok (.if_icmp .ne 7, 3) := by decide +kernel
theorem dX13_judged_259 : decode cX13_judged 259 = .ok (.iload_n 3, 1) := by decide +kernel
theorem dX13_judged_260 : decode cX13_judged 260 = .ok (.goto 10, 3) := by decide +kernel
theorem dX13_judged_263 : decode cX13_judged 263 = .ok (.aload_n 0, 1) := by decide +kernel
theorem dX13_judged_264 : decode cX13_judged 264 = .ok (.sipush 1260, 3) := by decide +kernel
theorem dX13_judged_267 : decode cX13_judged 267 = .ok (.invokevirtual 388, 3) := by decide +kernel
theorem dX13_judged_270 : decode cX13_judged 270 = .ok (.ireturn, 1) := by decide +kernel
theorem dX13_worn_0 : decode cX13_worn 0 = .ok (.aload_n 0, 1) := by decide +kernel
theorem dX13_worn_1 : decode cX13_worn 1 = .ok (.iconst 0, 1) := by decide +kernel
theorem dX13_worn_2 : decode cX13_worn 2 = .ok (.putfield 1, 3) := by decide +kernel
theorem dX13_worn_5 : decode cX13_worn 5 = .ok (.aload_n 0, 1) := by decide +kernel
theorem dX13_worn_6 : decode cX13_worn 6 = .ok (.iload_n 1, 1) := by decide +kernel
theorem dX13_worn_7 : decode cX13_worn 7 = .ok (.invokevirtual 336, 3) := by decide +kernel
theorem dX13_worn_10 : decode cX13_worn 10 = .ok (.ifCond .eq 25, 3) := by decide +kernel
theorem dX13_worn_13 : decode cX13_worn 13 = .ok (.aload_n 0, 1) := by decide +kernel
theorem dX13_worn_14 : decode cX13_worn 14 = .ok (.iload_n 2, 1) := by decide +kernel
theorem dX13_worn_15 : decode cX13_worn 15 = .ok (.invokevirtual 336, 3) := by decide +kernel
theorem dX13_worn_18 : decode cX13_worn 18 = .ok (.ifCond .eq 17, 3) := by decide +kernel
theorem dX13_worn_21 : decode cX13_worn 21 = .ok (.iload_n 1, 1) := by decide +kernel
theorem dX13_worn_22 : decode cX13_worn 22 = .ok (.iload_n 2, 1) := by decide +kernel
theorem dX13_worn_23 : decode cX13_worn 23 = .ok (.if_icmp .eq 12, 3) := by decide +kernel
theorem dX13_worn_26 : decode cX13_worn 26 = .ok (.aload_n 0, 1) := by decide +kernel
theorem dX13_worn_27 : decode cX13_worn 27 = .ok (.iload_n 1, 1) := by decide +kernel
theorem dX13_worn_28 : decode cX13_worn 28 = .ok (.iload_n 2, 1) := by decide +kernel
theorem dX13_worn_29 : decode cX13_worn 29 = .ok (.invokevirtual 391, 3) := by decide +kernel
theorem dX13_worn_32 : decode cX13_worn 32 = .ok (.goto 4, 3) := by decide +kernel
theorem dX13_worn_35 : decode cX13_worn 35 = .ok (.iconst (-1), 1) := by decide +kernel
theorem dX13_worn_36 : decode cX13_worn 36 = .ok (.ireturn, 1) := by decide +kernel
theorem dX13_love_0 : decode cX13_love 0 = .ok (.aload_n 0, 1) := by decide +kernel
theorem dX13_love_1 : decode cX13_love 1 = .ok (.iconst 0, 1) := by decide +kernel
theorem dX13_love_2 : decode cX13_love 2 = .ok (.putfield 1, 3) := by decide +kernel
theorem dX13_love_5 : decode cX13_love 5 = .ok (.iconst (-1), 1) := by decide +kernel
theorem dX13_love_6 : decode cX13_love 6 = .ok (.istore_n 2, 1) := by decide +kernel
theorem dX13_love_7 : decode cX13_love 7 = .ok (.iconst 0, 1) := by decide +kernel
theorem dX13_love_8 : decode cX13_love 8 = .ok (.istore_n 3, 1) := by decide +kernel
theorem dX13_love_9 : decode cX13_love 9 = .ok (.iconst 0, 1) := by decide +kernel
theorem dX13_love_10 : decode cX13_love 10 = .ok (.istore 4, 2) := by decide +kernel
theorem dX13_love_12 : decode cX13_love 12 = .ok (.iload 4, 2) := by decide +kernel
theorem dX13_love_14 : decode cX13_love 14 = .ok (.aload_n 0, 1) := by decide +kernel
theorem dX13_love_15 : decode cX13_love 15 = .ok (.invokevirtual 296, 3) := by decide +kernel
theorem dX13_love_18 : decode cX13_love 18 = .ok (.if_icmp .ge 67, 3) := by decide +kernel
theorem dX13_love_21 : decode cX13_love 21 = .ok (.aload_n 0, 1) := by decide +kernel
theorem dX13_love_22 : decode cX13_love 22 = .ok (.iload_n 1, 1) := by decide +kernel
theorem dX13_love_23 : decode cX13_love 23 = .ok (.invokevirtual 336, 3) := by decide +kernel
theorem dX13_love_26 : decode cX13_love 26 = .ok (.ifCond .eq 59, 3) := by decide +kernel
theorem dX13_love_29 : decode cX13_love 29 = .ok (.iload 4, 2) := by decide +kernel
theorem dX13_love_31 : decode cX13_love 31 = .ok (.iload_n 1, 1) := by decide +kernel
theorem dX13_love_32 : decode cX13_love 32 = .ok (.if_icmp .eq 13, 3) := by decide +kernel
theorem dX13_love_35 : decode cX13_love 35 = .ok (.aload_n 0, 1) := by decide +kernel
theorem dX13_love_36 : decode cX13_love 36 = .ok (.iload_n 1, 1) := by decide +kernel
theorem dX13_love_37 : decode cX13_love 37 = .ok (.iload 4, 2) := by decide +kernel
theorem dX13_love_39 : decode cX13_love 39 = .ok (.invokevirtual 355, 3) := by decide +kernel
theorem dX13_love_42 : decode cX13_love 42 = .ok (.ifCond .ne 7, 3) := by decide +kernel
theorem dX13_love_45 : decode cX13_love 45 = .ok (.iconst (-1), 1) := by decide +kernel
theorem dX13_love_46 : decode cX13_love 46 = .ok (.goto 10, 3) := by decide +kernel
theorem dX13_love_49 : decode cX13_love 49 = .ok (.aload_n 0, 1) := by decide +kernel
theorem dX13_love_50 : decode cX13_love 50 = .ok (.iload_n 1, 1) := by decide +kernel
theorem dX13_love_51 : decode cX13_love 51 = .ok (.iload 4, 2) := by decide +kernel
theorem dX13_love_53 : decode cX13_love 53 = .ok (.invokevirtual 391, 3) := by decide +kernel
theorem dX13_love_56 : decode cX13_love 56 = .ok (.istore 5, 2) := by decide +kernel
theorem dX13_love_58 : decode cX13_love 58 = .ok (.iload 5, 2) := by decide +kernel
theorem dX13_love_60 : decode cX13_love 60 = .ok (.ifCond .lt 19, 3) := by decide +kernel
theorem dX13_love_63 : decode cX13_love 63 = .ok (.iload_n 2, 1) := by decide +kernel
theorem dX13_love_64 : decode cX13_love 64 = .ok (.ifCond .lt 9, 3) := by decide +kernel
theorem dX13_love_67 : decode cX13_love 67 = .ok (.iload 5, 2) := by decide +kernel
theorem dX13_love_69 : decode cX13_love 69 = .ok (.iload_n 3, 1) := by decide +kernel
theorem dX13_love_70 : decode cX13_love 70 = .ok (.if_icmp .ge 9, 3) := by decide +kernel
theorem dX13_love_73 : decode cX13_love 73 = .ok (.iload 4, 2) := by decide +kernel
theorem dX13_love_75 : decode cX13_love 75 = .ok (.istore_n 2, 1) := by decide +kernel
theorem dX13_love_76 : decode cX13_love 76 = .ok (.iload 5, 2) := by decide +kernel
theorem dX13_love_78 : decode cX13_love 78 = .ok (.istore_n 3, 1) := by decide +kernel
theorem dX13_love_79 : decode cX13_love 79 = .ok (.iinc 4 1, 3) := by decide +kernel
theorem dX13_love_82 : decode cX13_love 82 = .ok (.goto (-70), 3) := by decide +kernel
theorem dX13_love_85 : decode cX13_love 85 = .ok (.iload_n 2, 1) := by decide +kernel
theorem dX13_love_86 : decode cX13_love 86 = .ok (.ireturn, 1) := by decide +kernel
theorem dX13_hyphen_0 : decode cX13_hyphen 0 = .ok (.aload_n 0, 1) := by decide +kernel
theorem dX13_hyphen_1 : decode cX13_hyphen 1 = .ok (.iconst 0, 1) := by decide +kernel
theorem dX13_hyphen_2 : decode cX13_hyphen 2 = .ok (.putfield 1, 3) := by decide +kernel
theorem dX13_hyphen_5 : decode cX13_hyphen 5 = .ok (.aload_n 0, 1) := by decide +kernel
theorem dX13_hyphen_6 : decode cX13_hyphen 6 = .ok (.iload_n 1, 1) := by decide +kernel
theorem dX13_hyphen_7 : decode cX13_hyphen 7 = .ok (.invokevirtual 336, 3) := by decide +kernel
theorem dX13_hyphen_10 : decode cX13_hyphen 10 = .ok (.ifCond .ne 5, 3) := by decide +kernel
theorem dX13_hyphen_13 : decode cX13_hyphen 13 = .ok (.iconst (-1), 1) := by decide +kernel
theorem dX13_hyphen_14 : decode cX13_hyphen 14 = .ok (.ireturn, 1) := by decide +kernel
theorem dX13_hyphen_15 : decode cX13_hyphen 15 = .ok (.aload_n 0, 1) := by decide +kernel
theorem dX13_hyphen_16 : decode cX13_hyphen 16 = .ok (.iconst 0, 1) := by decide +kernel
theorem dX13_hyphen_17 : decode cX13_hyphen 17 = .ok (.iload_n 1, 1) := by decide +kernel
theorem dX13_hyphen_18 : decode cX13_hyphen 18 = .ok (.aload_n 0, 1) := by decide +kernel
theorem dX13_hyphen_19 : decode cX13_hyphen 19 = .ok (.iload_n 1, 1) := by decide +kernel
theorem dX13_hyphen_20 : decode cX13_hyphen 20 = .ok (.invokevirtual 313, 3) := by decide +kernel
theorem dX13_hyphen_23 : decode cX13_hyphen 23 = .ok (.invokevirtual 319, 3) := by decide +kernel
theorem dX13_hyphen_26 : decode cX13_hyphen 26 = .ok (.istore_n 2, 1) := by decide +kernel
theorem dX13_hyphen_27 : decode cX13_hyphen 27 = .ok (.iload_n 2, 1) := by decide +kernel
theorem dX13_hyphen_28 : decode cX13_hyphen 28 = .ok (.invokestatic 394, 3) := by decide +kernel
theorem dX13_hyphen_31 : decode cX13_hyphen 31 = .ok (.iconst 1, 1) := by decide +kernel
theorem dX13_hyphen_32 : decode cX13_hyphen 32 = .ok (.isub, 1) := by decide +kernel
theorem dX13_hyphen_33 : decode cX13_hyphen 33 = .ok (.istore_n 3, 1) := by decide +kernel
theorem dX13_hyphen_34 : decode cX13_hyphen 34 = .ok (.iconst 0, 1) := by decide +kernel
theorem dX13_hyphen_35 : decode cX13_hyphen 35 = .ok (.istore 4, 2) := by decide +kernel
theorem dX13_hyphen_37 : decode cX13_hyphen 37 = .ok (.iload 4, 2) := by decide +kernel
theorem dX13_hyphen_39 : decode cX13_hyphen 39 = .ok (.aload_n 0, 1) := by decide +kernel
theorem dX13_hyphen_40 : decode cX13_hyphen 40 = .ok (.invokevirtual 296, 3) := by decide +kernel
theorem dX13_hyphen_43 : decode cX13_hyphen 43 = .ok (.if_icmp .ge 34, 3) := by decide +kernel
theorem dX13_hyphen_46 : decode cX13_hyphen 46 = .ok (.iload_n 3, 1) := by decide +kernel
theorem dX13_hyphen_47 : decode cX13_hyphen 47 = .ok (.iload_n 2, 1) := by decide +kernel
theorem dX13_hyphen_48 : decode cX13_hyphen 48 = .ok (.iload 4, 2) := by decide +kernel
theorem dX13_hyphen_50 : decode cX13_hyphen 50 = .ok (.ishr, 1) := by decide +kernel
theorem dX13_hyphen_51 : decode cX13_hyphen 51 = .ok (.iconst 1, 1) := by decide +kernel
theorem dX13_hyphen_52 : decode cX13_hyphen 52 = .ok (.iand, 1) := by decide +kernel
theorem dX13_hyphen_53 : decode cX13_hyphen 53 = .ok (.iconst 1, 1) := by decide +kernel
theorem dX13_hyphen_54 : decode cX13_hyphen 54 = .ok (.if_icmp .ne 14, 3) := by decide +kernel
theorem dX13_hyphen_57 : decode cX13_hyphen 57 = .ok (.aload_n 0, 1) := by decide +kernel
theorem dX13_hyphen_58 : decode cX13_hyphen 58 = .ok (.iload 4, 2) := by decide +kernel
theorem dX13_hyphen_60 : decode cX13_hyphen 60 = .ok (.bipush 13, 2) := by decide +kernel
theorem dX13_hyphen_62 : decode cX13_hyphen 62 = .ok (.invokevirtual 300, 3) := by decide +kernel
theorem dX13_hyphen_65 : decode cX13_hyphen 65 = .ok (.goto 4, 3) := by decide +kernel
theorem dX13_hyphen_68 : decode cX13_hyphen 68 = .ok (.iconst 0, 1) := by decide +kernel
theorem dX13_hyphen_69 : decode cX13_hyphen 69 = .ok (.iadd, 1) := by decide +kernel
theorem dX13_hyphen_70 : decode cX13_hyphen 70 = .ok (.istore_n 3, 1) := by decide +kernel
theorem dX13_hyphen_71 : decode cX13_hyphen 71 = .ok (.iinc 4 1, 3) := by decide +kernel
theorem dX13_hyphen_74 : decode cX13_hyphen 74 = .ok (.goto (-37), 3) := by decide +kernel
theorem dX13_hyphen_77 : decode cX13_hyphen 77 = .ok (.iload_n 3, 1) := by decide +kernel
theorem dX13_hyphen_78 : decode cX13_hyphen 78 = .ok (.ireturn, 1) := by decide +kernel
theorem dX13_areServed_0 : decode cX13_areServed 0 = .ok (.iconst 1, 1) := by decide +kernel
theorem dX13_areServed_1 : decode cX13_areServed 1 = .ok (.istore_n 3, 1) := by decide +kernel
theorem dX13_areServed_2 : decode cX13_areServed 2 = .ok (.iconst 0, 1) := by decide +kernel
theorem dX13_areServed_3 : decode cX13_areServed 3 = .ok (.istore 4, 2) := by decide +kernel
theorem dX13_areServed_5 : decode cX13_areServed 5 = .ok (.iload 4, 2) := by decide +kernel
theorem dX13_areServed_7 : decode cX13_areServed 7 = .ok (.aload_n 0, 1) := by decide +kernel
theorem dX13_areServed_8 : decode cX13_areServed 8 = .ok (.invokevirtual 296, 3) := by decide +kernel
theorem dX13_areServed_11 : decode cX13_areServed 11 = .ok (.if_icmp .ge 41, 3) := by decide +kernel
theorem dX13_areServed_14 : decode cX13_areServed 14 = .ok (.iload_n 3, 1) := by decide +kernel
theorem dX13_areServed_15 : decode cX13_areServed 15 = .ok (.ifCond .eq 37, 3) := by decide +kernel
theorem dX13_areServed_18 : decode cX13_areServed 18 = .ok (.aload_n 0, 1) := by decide +kernel
theorem dX13_areServed_19 : decode cX13_areServed 19 = .ok (.iload_n 1, 1) := by decide +kernel
theorem dX13_areServed_20 : decode cX13_areServed 20 = .ok (.iload 4, 2) := by decide +kernel
theorem dX13_areServed_22 : decode cX13_areServed 22 = .ok (.iload_n 2, 1) := by decide +kernel
theorem dX13_areServed_23 : decode cX13_areServed 23 = .ok (.invokevirtual 329, 3) := by decide +kernel
theorem dX13_areServed_26 : decode cX13_areServed 26 = .ok (.ifCond .ne 18, 3) := by decide +kernel
theorem dX13_areServed_29 : decode cX13_areServed 29 = .ok (.aload_n 0, 1) := by decide +kernel
theorem dX13_areServed_30 : decode cX13_areServed 30 = .ok (.iload_n 1, 1) := by decide +kernel
theorem dX13_areServed_31 : decode cX13_areServed 31 = .ok (.iload 4, 2) := by decide +kernel
theorem dX13_areServed_33 : decode cX13_areServed 33 = .ok (.iload_n 2, 1) := by decide +kernel
theorem dX13_areServed_34 : decode cX13_areServed 34 = .ok (.invokevirtual 333, 3) := by decide +kernel
theorem dX13_areServed_37 : decode cX13_areServed 37 = .ok (.ifCond .ne 7, 3) := by decide +kernel
theorem dX13_areServed_40 : decode cX13_areServed 40 = .ok (.iconst 1, 1) := by decide +kernel
theorem dX13_areServed_41 : decode cX13_areServed 41 = .ok (.goto 4, 3) := by decide +kernel
theorem dX13_areServed_44 : decode cX13_areServed 44 = .ok (.iconst 0, 1) := by decide +kernel
theorem dX13_areServed_45 : decode cX13_areServed 45 = .ok (.istore_n 3, 1) := by decide +kernel
theorem dX13_areServed_46 : decode cX13_areServed 46 = .ok (.iinc 4 1, 3) := by decide +kernel
theorem dX13_areServed_49 : decode cX13_areServed 49 = .ok (.goto (-44), 3) := by decide +kernel
theorem dX13_areServed_52 : decode cX13_areServed 52 = .ok (.iload_n 3, 1) := by decide +kernel
theorem dX13_areServed_53 : decode cX13_areServed 53 = .ok (.ireturn, 1) := by decide +kernel
theorem dX13_isServedAlways_0 : decode cX13_isServedAlways 0 = .ok (.iconst 1, 1) := by decide +kernel
theorem dX13_isServedAlways_1 : decode cX13_isServedAlways 1 = .ok (.istore_n 1, 1) := by decide +kernel
theorem dX13_isServedAlways_2 : decode cX13_isServedAlways 2 = .ok (.iconst 0, 1) := by decide +kernel
theorem dX13_isServedAlways_3 : decode cX13_isServedAlways 3 = .ok (.istore_n 2, 1) := by decide +kernel
theorem dX13_isServedAlways_4 : decode cX13_isServedAlways 4 = .ok (.iload_n 2, 1) := by decide +kernel
theorem dX13_isServedAlways_5 : decode cX13_isServedAlways 5 = .ok (.iconst 4, 1) := by decide +kernel
theorem dX13_isServedAlways_6 : decode cX13_isServedAlways 6 = .ok (.if_icmp .ge 22, 3) := by decide +kernel
theorem dX13_isServedAlways_9 : decode cX13_isServedAlways 9 = .ok (.iload_n 1, 1) := by decide +kernel
theorem dX13_isServedAlways_10 : decode cX13_isServedAlways 10 = .ok (.ifCond .eq 18, 3) := by decide +kernel
theorem dX13_isServedAlways_13 : decode cX13_isServedAlways 13 = .ok (.aload_n 0, 1) := by decide +kernel
theorem dX13_isServedAlways_14 : decode cX13_isServedAlways 14 = .ok (.sipush 1260, 3) := by decide +kernel
theorem dX13_isServedAlways_17 : decode cX13_isServedAlways 17 = .ok (.iload_n 2, 1) := by decide +kernel
theorem dX13_isServedAlways_18 : decode cX13_isServedAlways 18 = .ok (.invokevirtual 385, 3) := by decide +kernel
theorem dX13_isServedAlways_21 : decode cX13_isServedAlways 21 = .ok (.istore_n 1, 1) := by decide +kernel
theorem dX13_isServedAlways_22 : decode cX13_isServedAlways 22 = .ok (.iinc 2 1, 3) := by decide +kernel
theorem dX13_isServedAlways_25 : decode cX13_isServedAlways 25 = .ok (.goto (-21), 3) := by decide +kernel
theorem dX13_isServedAlways_28 : decode cX13_isServedAlways 28 = .ok (.iload_n 1, 1) := by decide +kernel
theorem dX13_isServedAlways_29 : decode cX13_isServedAlways 29 = .ok (.ireturn, 1) := by decide +kernel
theorem dX13_digsIn_0 : decode cX13_digsIn 0 = .ok (.iconst 0, 1) := by decide +kernel
theorem dX13_digsIn_1 : decode cX13_digsIn 1 = .ok (.istore_n 2, 1) := by decide +kernel
theorem dX13_digsIn_2 : decode cX13_digsIn 2 = .ok (.iconst 0, 1) := by decide +kernel
theorem dX13_digsIn_3 : decode cX13_digsIn 3 = .ok (.istore_n 3, 1) := by decide +kernel
theorem dX13_digsIn_4 : decode cX13_digsIn 4 = .ok (.iload_n 3, 1) := by decide +kernel
theorem dX13_digsIn_5 : decode cX13_digsIn 5 = .ok (.aload_n 0, 1) := by decide +kernel
theorem dX13_digsIn_6 : decode cX13_digsIn 6 = .ok (.invokevirtual 296, 3) := by decide +kernel
theorem dX13_digsIn_9 : decode cX13_digsIn 9 = .ok (.if_icmp .ge 36, 3) := by decide +kernel
theorem dX13_digsIn_12 : decode cX13_digsIn 12 = .ok (.iload_n 2, 1) := by decide +kernel
theorem dX13_digsIn_13 : decode cX13_digsIn 13 = .ok (.aload_n 0, 1) := by decide +kernel
theorem dX13_digsIn_14 : decode cX13_digsIn 14 = .ok (.iload_n 1, 1) := by decide +kernel
theorem dX13_digsIn_15 : decode cX13_digsIn 15 = .ok (.iload_n 3, 1) := by decide +kernel
theorem dX13_digsIn_16 : decode cX13_digsIn 16 = .ok (.invokevirtual 303, 3) := by decide +kernel
theorem dX13_digsIn_19 : decode cX13_digsIn 19 = .ok (.ifCond .lt 17, 3) := by decide +kernel
theorem dX13_digsIn_22 : decode cX13_digsIn 22 = .ok (.aload_n 0, 1) := by decide +kernel
theorem dX13_digsIn_23 : decode cX13_digsIn 23 = .ok (.iload_n 3, 1) := by decide +kernel
theorem dX13_digsIn_24 : decode cX13_digsIn 24 = .ok (.aload_n 0, 1) := by decide +kernel
theorem dX13_digsIn_25 : decode cX13_digsIn 25 = .ok (.iload_n 1, 1) := by decide +kernel
theorem dX13_digsIn_26 : decode cX13_digsIn 26 = .ok (.iload_n 3, 1) := by decide +kernel
theorem dX13_digsIn_27 : decode cX13_digsIn 27 = .ok (.invokevirtual 303, 3) := by decide +kernel
theorem dX13_digsIn_30 : decode cX13_digsIn 30 = .ok (.invokevirtual 358, 3) := by decide +kernel
theorem dX13_digsIn_33 : decode cX13_digsIn 33 = .ok (.goto 4, 3) := by decide +kernel
theorem dX13_digsIn_36 : decode cX13_digsIn 36 = .ok (.iconst 0, 1) := by decide +kernel
theorem dX13_digsIn_37 : decode cX13_digsIn 37 = .ok (.iadd, 1) := by decide +kernel
theorem dX13_digsIn_38 : decode cX13_digsIn 38 = .ok (.istore_n 2, 1) := by decide +kernel
theorem dX13_digsIn_39 : decode cX13_digsIn 39 = .ok (.iinc 3 1, 3) := by decide +kernel
theorem dX13_digsIn_42 : decode cX13_digsIn 42 = .ok (.goto (-38), 3) := by decide +kernel
theorem dX13_digsIn_45 : decode cX13_digsIn 45 = .ok (.iload_n 2, 1) := by decide +kernel
theorem dX13_digsIn_46 : decode cX13_digsIn 46 = .ok (.ireturn, 1) := by decide +kernel
theorem dX13_fitsTold_0 : decode cX13_fitsTold 0 = .ok (.iconst 1, 1) := by decide +kernel
theorem dX13_fitsTold_1 : decode cX13_fitsTold 1 = .ok (.istore_n 1, 1) := by decide +kernel
theorem dX13_fitsTold_2 : decode cX13_fitsTold 2 = .ok (.iconst 0, 1) := by decide +kernel
theorem dX13_fitsTold_3 : decode cX13_fitsTold 3 = .ok (.istore_n 2, 1) := by decide +kernel
theorem dX13_fitsTold_4 : decode cX13_fitsTold 4 = .ok (.iload_n 2, 1) := by decide +kernel
theorem dX13_fitsTold_5 : decode cX13_fitsTold 5 = .ok (.aload_n 0, 1) := by decide +kernel
theorem dX13_fitsTold_6 : decode cX13_fitsTold 6 = .ok (.getfield 126, 3) := by decide +kernel
theorem dX13_fitsTold_9 : decode cX13_fitsTold 9 = .ok (.bipush 26, 2) := by decide +kernel
theorem dX13_fitsTold_11 : decode cX13_fitsTold 11 = .ok (.iaload, 1) := by decide +kernel
theorem dX13_fitsTold_12 : decode cX13_fitsTold 12 = .ok (.if_icmp .ge 58, 3) := by decide +kernel
theorem dX13_fitsTold_15 : decode cX13_fitsTold 15 = .ok (.iload_n 1, 1) := by decide +kernel
theorem dX13_fitsTold_16 : decode cX13_fitsTold 16 = .ok (.ifCond .eq 54, 3) := by decide +kernel
theorem dX13_fitsTold_19 : decode cX13_fitsTold 19 = .ok (.bipush 27, 2) := by decide +kernel
theorem dX13_fitsTold_21 : decode cX13_fitsTold 21 = .ok (.iconst 3, 1) := by decide +kernel
theorem dX13_fitsTold_22 : decode cX13_fitsTold 22 = .ok (.iload_n 2, 1) := by decide +kernel
theorem dX13_fitsTold_23 : decode cX13_fitsTold 23 = .ok (.imul, 1) := by decide +kernel
theorem dX13_fitsTold_24 : decode cX13_fitsTold 24 = .ok (.iadd, 1) := by decide +kernel
theorem dX13_fitsTold_25 : decode cX13_fitsTold 25 = .ok (.istore_n 3, 1) := by decide +kernel
theorem dX13_fitsTold_26 : decode cX13_fitsTold 26 = .ok (.aload_n 0, 1) := by decide +kernel
theorem dX13_fitsTold_27 : decode cX13_fitsTold 27 = .ok (.sipush 1260, 3) := by decide +kernel
theorem dX13_fitsTold_30 : decode cX13_fitsTold 30 = .ok (.aload_n 0, 1) := by decide +kernel
theorem dX13_fitsTold_31 : decode cX13_fitsTold 31 = .ok (.getfield 126, 3) := by decide +kernel
theorem dX13_fitsTold_34 : decode cX13_fitsTold 34 = .ok (.iload_n 3, 1) := by decide +kernel
theorem dX13_fitsTold_35 : decode cX13_fitsTold 35 = .ok (.iaload, 1) := by decide +kernel
theorem dX13_fitsTold_36 : decode cX13_fitsTold 36 = .ok (.aload_n 0, 1) := by decide +kernel
theorem dX13_fitsTold_37 : decode cX13_fitsTold 37 = .ok (.getfield 126, 3) := by decide +kernel
theorem dX13_fitsTold_40 : decode cX13_fitsTold 40 = .ok (.iload_n 3, 1) := by decide +kernel
theorem dX13_fitsTold_41 : decode cX13_fitsTold 41 = .ok (.iconst 1, 1) := by decide +kernel
theorem dX13_fitsTold_42 : decode cX13_fitsTold 42 = .ok (.iadd, 1) := by decide +kernel
theorem dX13_fitsTold_43 : decode cX13_fitsTold 43 = .ok (.iaload, 1) := by decide +kernel
theorem dX13_fitsTold_44 : decode cX13_fitsTold 44 = .ok (.invokevirtual 370, 3) := by decide +kernel
theorem dX13_fitsTold_47 : decode cX13_fitsTold 47 = .ok (.aload_n 0, 1) := by decide +kernel
theorem dX13_fitsTold_48 : decode cX13_fitsTold 48 = .ok (.getfield 126, 3) := by decide +kernel
theorem dX13_fitsTold_51 : decode cX13_fitsTold 51 = .ok (.iload_n 3, 1) := by decide +kernel
theorem dX13_fitsTold_52 : decode cX13_fitsTold 52 = .ok (.iconst 2, 1) := by decide +kernel
theorem dX13_fitsTold_53 : decode cX13_fitsTold 53 = .ok (.iadd, 1) := by decide +kernel
theorem dX13_fitsTold_54 : decode cX13_fitsTold 54 = .ok (.iaload, 1) := by decide +kernel
theorem dX13_fitsTold_55 : decode cX13_fitsTold 55 = .ok (.if_icmp .ne 7, 3) := by decide +kernel
theorem dX13_fitsTold_58 : decode cX13_fitsTold 58 = .ok (.iconst 1, 1) := by decide +kernel
theorem dX13_fitsTold_59 : decode cX13_fitsTold 59 = .ok (.goto 4, 3) := by decide +kernel
theorem dX13_fitsTold_62 : decode cX13_fitsTold 62 = .ok (.iconst 0, 1) := by decide +kernel
theorem dX13_fitsTold_63 : decode cX13_fitsTold 63 = .ok (.istore_n 1, 1) := by decide +kernel
theorem dX13_fitsTold_64 : decode cX13_fitsTold 64 = .ok (.iinc 2 1, 3) := by decide +kernel
theorem dX13_fitsTold_67 : decode cX13_fitsTold 67 = .ok (.goto (-63), 3) := by decide +kernel
theorem dX13_fitsTold_70 : decode cX13_fitsTold 70 = .ok (.iload_n 1, 1) := by decide +kernel
theorem dX13_fitsTold_71 : decode cX13_fitsTold 71 = .ok (.ireturn, 1) := by decide +kernel
theorem dX13_looks_0 : decode cX13_looks 0 = .ok (.aload_n 0, 1) := by decide +kernel
theorem dX13_looks_1 : decode cX13_looks 1 = .ok (.getfield 397, 3) := by decide +kernel
theorem dX13_looks_4 : decode cX13_looks 4 = .ok (.ifCond .ne 13, 3) := by decide +kernel
theorem dX13_looks_7 : decode cX13_looks 7 = .ok (.aload_n 0, 1) := by decide +kernel
theorem dX13_looks_8 : decode cX13_looks 8 = .ok (.invokevirtual 400, 3) := by decide +kernel
theorem dX13_looks_11 : decode cX13_looks 11 = .ok (.ifCond .ne 14, 3) := by decide +kernel
theorem dX13_looks_14 : decode cX13_looks 14 = .ok (.goto 10, 3) := by decide +kernel
theorem dX13_looks_17 : decode cX13_looks 17 = .ok (.aload_n 0, 1) := by decide +kernel
theorem dX13_looks_18 : decode cX13_looks 18 = .ok (.invokevirtual 403, 3) := by decide +kernel
theorem dX13_looks_21 : decode cX13_looks 21 = .ok (.ifCond .ne 4, 3) := by decide +kernel
theorem dX13_looks_24 : decode cX13_looks 24 = .ok (.return_, 1) := by decide +kernel
theorem dX13_looks_25 : decode cX13_looks 25 = .ok (.aload_n 0, 1) := by decide +kernel
theorem dX13_looks_26 : decode cX13_looks 26 = .ok (.getfield 397, 3) := by decide +kernel
theorem dX13_looks_29 : decode cX13_looks 29 = .ok (.ifCond .ne 13, 3) := by decide +kernel
theorem dX13_looks_32 : decode cX13_looks 32 = .ok (.aload_n 0, 1) := by decide +kernel
theorem dX13_looks_33 : decode cX13_looks 33 = .ok (.sipush 1260, 3) := by decide +kernel
theorem dX13_looks_36 : decode cX13_looks 36 = .ok (.invokevirtual 406, 3) := by decide +kernel
theorem dX13_looks_39 : decode cX13_looks 39 = .ok (.goto 4, 3) := by decide +kernel
theorem dX13_looks_42 : decode cX13_looks 42 = .ok (.iconst 0, 1) := by decide +kernel
theorem dX13_looks_43 : decode cX13_looks 43 = .ok (.istore_n 1, 1) := by decide +kernel
theorem dX13_looks_44 : decode cX13_looks 44 = .ok (.aload_n 0, 1) := by decide +kernel
theorem dX13_looks_45 : decode cX13_looks 45 = .ok (.sipush 1260, 3) := by decide +kernel
theorem dX13_looks_48 : decode cX13_looks 48 = .ok (.invokevirtual 388, 3) := by decide +kernel
theorem dX13_looks_51 : decode cX13_looks 51 = .ok (.istore_n 2, 1) := by decide +kernel
theorem dX13_looks_52 : decode cX13_looks 52 = .ok (.aload_n 0, 1) := by decide +kernel
theorem dX13_looks_53 : decode cX13_looks 53 = .ok (.getfield 409, 3) := by decide +kernel
theorem dX13_looks_56 : decode cX13_looks 56 = .ok (.ifCond .eq 27, 3) := by decide +kernel
theorem dX13_looks_59 : decode cX13_looks 59 = .ok (.iload_n 1, 1) := by decide +kernel
theorem dX13_looks_60 : decode cX13_looks 60 = .ok (.aload_n 0, 1) := by decide +kernel
theorem dX13_looks_61 : decode cX13_looks 61 = .ok (.getfield 412, 3) := by decide +kernel
theorem dX13_looks_64 : decode cX13_looks 64 = .ok (.if_icmp .lt 19, 3) := by decide +kernel
theorem dX13_looks_67 : decode cX13_looks 67 = .ok (.iload_n 1, 1) := by decide +kernel
theorem dX13_looks_68 : decode cX13_looks 68 = .ok (.aload_n 0, 1) := by decide +kernel
theorem dX13_looks_69 : decode cX13_looks 69 = .ok (.getfield 412, 3) := by decide +kernel
theorem dX13_looks_72 : decode cX13_looks 72 = .ok (.if_icmp .ne 15, 3) := by decide +kernel
theorem dX13_looks_75 : decode cX13_looks 75 = .ok (.iload_n 2, 1) := by decide +kernel
theorem dX13_looks_76 : decode cX13_looks 76 = .ok (.aload_n 0, 1) := by decide +kernel
theorem dX13_looks_77 : decode cX13_looks 77 = .ok (.getfield 415, 3) := by decide +kernel
theorem dX13_looks_80 : decode cX13_looks 80 = .ok (.if_icmp .ge 7, 3) := by decide +kernel
theorem dX13_looks_83 : decode cX13_looks 83 = .ok (.iconst 1, 1) := by decide +kernel
theorem dX13_looks_84 : decode cX13_looks 84 = .ok (.goto 4, 3) := by decide +kernel
theorem dX13_looks_87 : decode cX13_looks 87 = .ok (.iconst 0, 1) := by decide +kernel
theorem dX13_looks_88 : decode cX13_looks 88 = .ok (.istore_n 3, 1) := by decide +kernel
theorem dX13_looks_89 : decode cX13_looks 89 = .ok (.iconst 0, 1) := by decide +kernel
theorem dX13_looks_90 : decode cX13_looks 90 = .ok (.istore 4, 2) := by decide +kernel
theorem dX13_looks_92 : decode cX13_looks 92 = .ok (.iload 4, 2) := by decide +kernel
theorem dX13_looks_94 : decode cX13_looks 94 = .ok (.aload_n 0, 1) := by decide +kernel
theorem dX13_looks_95 : decode cX13_looks 95 = .ok (.invokevirtual 296, 3) := by decide +kernel
theorem dX13_looks_98 : decode cX13_looks 98 = .ok (.if_icmp .ge 131, 3) := by decide +kernel
theorem dX13_looks_101 : decode cX13_looks 101 = .ok (.aload_n 0, 1) := by decide +kernel
theorem dX13_looks_102 : decode cX13_looks 102 = .ok (.sipush 1260, 3) := by decide +kernel
theorem dX13_looks_105 : decode cX13_looks 105 = .ok (.iload 4, 2) := by decide +kernel
theorem dX13_looks_107 : decode cX13_looks 107 = .ok (.invokevirtual 303, 3) := by decide +kernel
theorem dX13_looks_110 : decode cX13_looks 110 = .ok (.istore 5, 2) := by decide +kernel
theorem dX13_looks_112 : decode cX13_looks 112 = .ok (.aload_n 0, 1) := by decide +kernel
theorem dX13_looks_113 : decode cX13_looks 113 = .ok (.getfield 139, 3) := by decide +kernel
theorem dX13_looks_116 : decode cX13_looks 116 = .ok (.iload 4, 2) := by decide +kernel
theorem dX13_looks_118 : decode cX13_looks 118 = .ok (.aload_n 0, 1) := by decide +kernel
theorem dX13_looks_119 : decode cX13_looks 119 = .ok (.getfield 409, 3) := by decide +kernel
theorem dX13_looks_122 : decode cX13_looks 122 = .ok (.ifCond .eq 15, 3) := by decide +kernel
theorem dX13_looks_125 : decode cX13_looks 125 = .ok (.aload_n 0, 1) := by decide +kernel
theorem dX13_looks_126 : decode cX13_looks 126 = .ok (.getfield 139, 3) := by decide +kernel
theorem dX13_looks_129 : decode cX13_looks 129 = .ok (.iload 4, 2) := by decide +kernel
theorem dX13_looks_131 : decode cX13_looks 131 = .ok (.iaload, 1) := by decide +kernel
theorem dX13_looks_132 : decode cX13_looks 132 = .ok (.iload 5, 2) := by decide +kernel
theorem dX13_looks_134 : decode cX13_looks 134 = .ok (.if_icmp .ne 8, 3) := by decide +kernel
theorem dX13_looks_137 : decode cX13_looks 137 = .ok (.iload 5, 2) := by decide +kernel
theorem dX13_looks_139 : decode cX13_looks 139 = .ok (.goto 5, 3) := by decide +kernel
theorem dX13_looks_142 : decode cX13_looks 142 = .ok (.bipush (-2), 2) := by decide +kernel
theorem dX13_looks_144 : decode cX13_looks 144 = .ok (.iastore, 1) := by decide +kernel
theorem dX13_looks_145 : decode cX13_looks 145 = .ok (.aload_n 0, 1) := by decide +kernel
theorem dX13_looks_146 : decode cX13_looks 146 = .ok (.getfield 136, 3) := by decide +kernel
theorem dX13_looks_149 : decode cX13_looks 149 = .ok (.iload 4, 2) := by decide +kernel
theorem dX13_looks_151 : decode cX13_looks 151 = .ok (.iload_n 3, 1) := by decide +kernel
theorem dX13_looks_152 : decode cX13_looks 152 = .ok (.ifCond .eq 8, 3) := by decide +kernel
theorem dX13_looks_155 : decode cX13_looks 155 = .ok (.iload 5, 2) := by decide +kernel
theorem dX13_looks_157 : decode cX13_looks 157 = .ok (.goto 10, 3) := by decide +kernel
theorem dX13_looks_160 : decode cX13_looks 160 = .ok (.aload_n 0, 1) := by decide +kernel
theorem dX13_looks_161 : decode cX13_looks 161 = .ok (.getfield 136, 3) := by decide +kernel
theorem dX13_looks_164 : decode cX13_looks 164 = .ok (.iload 4, 2) := by decide +kernel
theorem dX13_looks_166 : decode cX13_looks 166 = .ok (.iaload, 1) := by decide +kernel
theorem dX13_looks_167 : decode cX13_looks 167 = .ok (.iastore, 1) := by decide +kernel
theorem dX13_looks_168 : decode cX13_looks 168 = .ok (.iconst 0, 1) := by decide +kernel
theorem dX13_looks_169 : decode cX13_looks 169 = .ok (.istore 6, 2) := by decide +kernel
theorem dX13_looks_171 : decode cX13_looks 171 = .ok (.iload 6, 2) := by decide +kernel
theorem dX13_looks_173 : decode cX13_looks 173 = .ok (.iconst 4, 1) := by decide +kernel
theorem dX13_looks_174 : decode cX13_looks 174 = .ok (.if_icmp .ge 49, 3) := by decide +kernel
theorem dX13_looks_177 : decode cX13_looks 177 = .ok (.aload_n 0, 1) := by decide +kernel
theorem dX13_looks_178 : decode cX13_looks 178 = .ok (.getfield 397, 3) := by decide +kernel
theorem dX13_looks_181 : decode cX13_looks 181 = .ok (.iconst 1, 1) := by decide +kernel
theorem dX13_looks_182 : decode cX13_looks 182 = .ok (.if_icmp .ne 41, 3) := by decide +kernel
theorem dX13_looks_185 : decode cX13_looks 185 = .ok (.aload_n 0, 1) := by decide +kernel
theorem dX13_looks_186 : decode cX13_looks 186 = .ok (.getfield 142, 3) := by decide +kernel
theorem dX13_looks_189 : decode cX13_looks 189 = .ok (.sipush 600, 3) := by decide +kernel
theorem dX13_looks_192 : decode cX13_looks 192 = .ok (.iconst 4, 1) := by decide +kernel
theorem dX13_looks_193 : decode cX13_looks 193 = .ok (.iload 4, 2) := by decide +kernel
theorem dX13_looks_195 : decode cX13_looks 195 = .ok (.imul, 1) := by decide +kernel
theorem dX13_looks_196 : decode cX13_looks 196 = .ok (.iload 6, 2) := by decide +kernel
theorem dX13_looks_198 : decode cX13_looks 198 = .ok (.iadd, 1) := by decide +kernel
theorem dX13_looks_199 : decode cX13_looks 199 = .ok (.imul, 1) := by decide +kernel
theorem dX13_looks_200 : decode cX13_looks 200 = .ok (.aload_n 0, 1) := by decide +kernel
theorem dX13_looks_201 : decode cX13_looks 201 = .ok (.sipush 1260, 3) := by decide +kernel
theorem dX13_looks_204 : decode cX13_looks 204 = .ok (.iload 4, 2) := by decide +kernel
theorem dX13_looks_206 : decode cX13_looks 206 = .ok (.iload 6, 2) := by decide +kernel
theorem dX13_looks_208 : decode cX13_looks 208 = .ok (.invokevirtual 370, 3) := by decide +kernel
theorem dX13_looks_211 : decode cX13_looks 211 = .ok (.iadd, 1) := by decide +kernel
theorem dX13_looks_212 : decode cX13_looks 212 = .ok (.dup2, 1) := by decide +kernel
theorem dX13_looks_213 : decode cX13_looks 213 = .ok (.iaload, 1) := by decide +kernel
theorem dX13_looks_214 : decode cX13_looks 214 = .ok (.iconst 1, 1) := by decide +kernel
theorem dX13_looks_215 : decode cX13_looks 215 = .ok (.iadd, 1) := by decide +kernel
theorem dX13_looks_216 : decode cX13_looks 216 = .ok (.iastore, 1) := by decide +kernel
theorem dX13_looks_217 : decode cX13_looks 217 = .ok (.iinc 6 1, 3) := by decide +kernel
theorem dX13_looks_220 : decode cX13_looks 220 = .ok (.goto (-49), 3) := by decide +kernel
theorem dX13_looks_223 : decode cX13_looks 223 = .ok (.iinc 4 1, 3) := by decide +kernel
theorem dX13_looks_226 : decode cX13_looks 226 = .ok (.goto (-134), 3) := by decide +kernel
theorem dX13_looks_229 : decode cX13_looks 229 = .ok (.aload_n 0, 1) := by decide +kernel
theorem dX13_looks_230 : decode cX13_looks 230 = .ok (.iload_n 3, 1) := by decide +kernel
theorem dX13_looks_231 : decode cX13_looks 231 = .ok (.ifCond .eq 7, 3) := by decide +kernel
theorem dX13_looks_234 : decode cX13_looks 234 = .ok (.iload_n 1, 1) := by decide +kernel
theorem dX13_looks_235 : decode cX13_looks 235 = .ok (.goto 7, 3) := by decide +kernel
theorem dX13_looks_238 : decode cX13_looks 238 = .ok (.aload_n 0, 1) := by decide +kernel
theorem dX13_looks_239 : decode cX13_looks 239 = .ok (.getfield 412, 3) := by decide +kernel
theorem dX13_looks_242 : decode cX13_looks 242 = .ok (.putfield 412, 3) := by decide +kernel
theorem dX13_looks_245 : decode cX13_looks 245 = .ok (.aload_n 0, 1) := by decide +kernel
theorem dX13_looks_246 : decode cX13_looks 246 = .ok (.iload_n 3, 1) := by decide +kernel
theorem dX13_looks_247 : decode cX13_looks 247 = .ok (.ifCond .eq 7, 3) := by decide +kernel
theorem dX13_looks_250 : decode cX13_looks 250 = .ok (.iload_n 2, 1) := by decide +kernel
theorem dX13_looks_251 : decode cX13_looks 251 = .ok (.goto 7, 3) := by decide +kernel
theorem dX13_looks_254 : decode cX13_looks 254 = .ok (.aload_n 0, 1) := by decide +kernel
theorem dX13_looks_255 : decode cX13_looks 255 = .ok (.getfield 415, 3) := by decide +kernel
theorem dX13_looks_258 : decode cX13_looks 258 = .ok (.putfield 415, 3) := by decide +kernel
theorem dX13_looks_261 : decode cX13_looks 261 = .ok (.aload_n 0, 1) := by decide +kernel
theorem dX13_looks_262 : decode cX13_looks 262 = .ok (.dup, 1) := by decide +kernel
theorem dX13_looks_263 : decode cX13_looks 263 = .ok (.getfield 409, 3) := by decide +kernel
theorem dX13_looks_266 : decode cX13_looks 266 = .ok (.iconst 1, 1) := by decide +kernel
theorem dX13_looks_267 : decode cX13_looks 267 = .ok (.iadd, 1) := by decide +kernel
theorem dX13_looks_268 : decode cX13_looks 268 = .ok (.putfield 409, 3) := by decide +kernel
theorem dX13_looks_271 : decode cX13_looks 271 = .ok (.return_, 1) := by decide +kernel
theorem dX13_goesThrough_0 : decode cX13_goesThrough 0 = .ok (.iload_n 1, 1) := by decide +kernel
theorem dX13_goesThrough_1 : decode cX13_goesThrough 1 = .ok (.aload_n 0, 1) := by decide +kernel
theorem dX13_goesThrough_2 : decode cX13_goesThrough 2 = .ok (.invokevirtual 296, 3) := by decide +kernel
theorem dX13_goesThrough_5 : decode cX13_goesThrough 5 = .ok (.if_icmp .ne 8, 3) := by decide +kernel
theorem dX13_goesThrough_8 : decode cX13_goesThrough 8 = .ok (.aload_n 0, 1) := by decide +kernel
theorem dX13_goesThrough_9 : decode cX13_goesThrough 9 = .ok (.invokevirtual 418, 3) := by decide +kernel
theorem dX13_goesThrough_12 : decode cX13_goesThrough 12 = .ok (.return_, 1) := by decide +kernel
theorem dX13_goesThrough_13 : decode cX13_goesThrough 13 = .ok (.aload_n 0, 1) := by decide +kernel
theorem dX13_goesThrough_14 : decode cX13_goesThrough 14 = .ok (.iload_n 1, 1) := by decide +kernel
theorem dX13_goesThrough_15 : decode cX13_goesThrough 15 = .ok (.iconst 1, 1) := by decide +kernel
theorem dX13_goesThrough_16 : decode cX13_goesThrough 16 = .ok (.iadd, 1) := by decide +kernel
theorem dX13_goesThrough_17 : decode cX13_goesThrough 17 = .ok (.invokevirtual 421, 3) := by decide +kernel
theorem dX13_goesThrough_20 : decode cX13_goesThrough 20 = .ok (.iconst 0, 1) := by decide +kernel
theorem dX13_goesThrough_21 : decode cX13_goesThrough 21 = .ok (.istore_n 2, 1) := by decide +kernel
theorem dX13_goesThrough_22 : decode cX13_goesThrough 22 = .ok (.iload_n 2, 1) := by decide +kernel
theorem dX13_goesThrough_23 : decode cX13_goesThrough 23 = .ok (.aload_n 0, 1) := by decide +kernel
theorem dX13_goesThrough_24 : decode cX13_goesThrough 24 = .ok (.invokevirtual 296, 3) := by decide +kernel
theorem dX13_goesThrough_27 : decode cX13_goesThrough 27 = .ok (.if_icmp .ge 50, 3) := by decide +kernel
theorem dX13_goesThrough_30 : decode cX13_goesThrough 30 = .ok (.aload_n 0, 1) := by decide +kernel
theorem dX13_goesThrough_31 : decode cX13_goesThrough 31 = .ok (.sipush 1260, 3) := by decide +kernel
theorem dX13_goesThrough_34 : decode cX13_goesThrough 34 = .ok (.iload_n 1, 1) := by decide +kernel
theorem dX13_goesThrough_35 : decode cX13_goesThrough 35 = .ok (.iload_n 2, 1) := by decide +kernel
theorem dX13_goesThrough_36 : decode cX13_goesThrough 36 = .ok (.invokevirtual 361, 3) := by decide +kernel
theorem dX13_goesThrough_39 : decode cX13_goesThrough 39 = .ok (.ifCond .eq 32, 3) := by decide +kernel
theorem dX13_goesThrough_42 : decode cX13_goesThrough 42 = .ok (.aload_n 0, 1) := by decide +kernel
theorem dX13_goesThrough_43 : decode cX13_goesThrough 43 = .ok (.getfield 126, 3) := by decide +kernel
theorem dX13_goesThrough_46 : decode cX13_goesThrough 46 = .ok (.sipush 1261, 3) := by decide +kernel
theorem dX13_goesThrough_49 : decode cX13_goesThrough 49 = .ok (.iload_n 1, 1) := by decide +kernel
theorem dX13_goesThrough_50 : decode cX13_goesThrough 50 = .ok (.iadd, 1) := by decide +kernel
theorem dX13_goesThrough_51 : decode cX13_goesThrough 51 = .ok (.iload_n 2, 1) := by decide +kernel
theorem dX13_goesThrough_52 : decode cX13_goesThrough 52 = .ok (.iastore, 1) := by decide +kernel
theorem dX13_goesThrough_53 : decode cX13_goesThrough 53 = .ok (.aload_n 0, 1) := by decide +kernel
theorem dX13_goesThrough_54 : decode cX13_goesThrough 54 = .ok (.iload_n 1, 1) := by decide +kernel
theorem dX13_goesThrough_55 : decode cX13_goesThrough 55 = .ok (.iconst 1, 1) := by decide +kernel
theorem dX13_goesThrough_56 : decode cX13_goesThrough 56 = .ok (.iadd, 1) := by decide +kernel
theorem dX13_goesThrough_57 : decode cX13_goesThrough 57 = .ok (.invokevirtual 421, 3) := by decide +kernel
theorem dX13_goesThrough_60 : decode cX13_goesThrough 60 = .ok (.aload_n 0, 1) := by decide +kernel
theorem dX13_goesThrough_61 : decode cX13_goesThrough 61 = .ok (.getfield 126, 3) := by decide +kernel
theorem dX13_goesThrough_64 : decode cX13_goesThrough 64 = .ok (.sipush 1261, 3) := by decide +kernel
theorem dX13_goesThrough_67 : decode cX13_goesThrough 67 = .ok (.iload_n 1, 1) := by decide +kernel
theorem dX13_goesThrough_68 : decode cX13_goesThrough 68 = .ok (.iadd, 1) := by decide +kernel
theorem dX13_goesThrough_69 : decode cX13_goesThrough 69 = .ok (.iconst (-1), 1) := by decide +kernel
theorem dX13_goesThrough_70 : decode cX13_goesThrough 70 = .ok (.iastore, 1) := by decide +kernel
theorem dX13_goesThrough_71 : decode cX13_goesThrough 71 = .ok (.iinc 2 1, 3) := by decide +kernel
theorem dX13_goesThrough_74 : decode cX13_goesThrough 74 = .ok (.goto (-52), 3) := by decide +kernel
theorem dX13_goesThrough_77 : decode cX13_goesThrough 77 = .ok (.return_, 1) := by decide +kernel
theorem dX13_seeks_0 : decode cX13_seeks 0 = .ok (.aload_n 0, 1) := by decide +kernel
theorem dX13_seeks_1 : decode cX13_seeks 1 = .ok (.iload_n 1, 1) := by decide +kernel
theorem dX13_seeks_2 : decode cX13_seeks 2 = .ok (.putfield 397, 3) := by decide +kernel
theorem dX13_seeks_5 : decode cX13_seeks 5 = .ok (.aload_n 0, 1) := by decide +kernel
theorem dX13_seeks_6 : decode cX13_seeks 6 = .ok (.iconst 0, 1) := by decide +kernel
theorem dX13_seeks_7 : decode cX13_seeks 7 = .ok (.putfield 409, 3) := by decide +kernel
theorem dX13_seeks_10 : decode cX13_seeks 10 = .ok (.aload_n 0, 1) := by decide +kernel
theorem dX13_seeks_11 : decode cX13_seeks 11 = .ok (.sipush 1260, 3) := by decide +kernel
theorem dX13_seeks_14 : decode cX13_seeks 14 = .ok (.invokevirtual 286, 3) := by decide +kernel
theorem dX13_seeks_17 : decode cX13_seeks 17 = .ok (.aload_n 0, 1) := by decide +kernel
theorem dX13_seeks_18 : decode cX13_seeks 18 = .ok (.iconst 0, 1) := by decide +kernel
theorem dX13_seeks_19 : decode cX13_seeks 19 = .ok (.invokevirtual 421, 3) := by decide +kernel
theorem dX13_seeks_22 : decode cX13_seeks 22 = .ok (.return_, 1) := by decide +kernel
theorem dX13_match_0 : decode cX13_match 0 = .ok (.aload_n 0, 1) := by decide +kernel
theorem dX13_match_1 : decode cX13_match 1 = .ok (.iconst 0, 1) := by decide +kernel
theorem dX13_match_2 : decode cX13_match 2 = .ok (.putfield 1, 3) := by decide +kernel
theorem dX13_match_5 : decode cX13_match 5 = .ok (.iload_n 1, 1) := by decide +kernel
theorem dX13_match_6 : decode cX13_match 6 = .ok (.iconst 0, 1) := by decide +kernel
theorem dX13_match_7 : decode cX13_match 7 = .ok (.iconst 2, 1) := by decide +kernel
theorem dX13_match_8 : decode cX13_match 8 = .ok (.aload_n 0, 1) := by decide +kernel
theorem dX13_match_9 : decode cX13_match 9 = .ok (.invokevirtual 296, 3) := by decide +kernel
theorem dX13_match_12 : decode cX13_match 12 = .ok (.iadd, 1) := by decide +kernel
theorem dX13_match_13 : decode cX13_match 13 = .ok (.invokestatic 339, 3) := by decide +kernel
theorem dX13_match_16 : decode cX13_match 16 = .ok (.ifCond .ne 6, 3) := by decide +kernel
theorem dX13_match_19 : decode cX13_match 19 = .ok (.bipush (-2), 2) := by decide +kernel
theorem dX13_match_21 : decode cX13_match 21 = .ok (.ireturn, 1) := by decide +kernel
theorem dX13_match_22 : decode cX13_match 22 = .ok (.aload_n 0, 1) := by decide +kernel
theorem dX13_match_23 : decode cX13_match 23 = .ok (.iconst 0, 1) := by decide +kernel
theorem dX13_match_24 : decode cX13_match 24 = .ok (.invokevirtual 424, 3) := by decide +kernel
theorem dX13_match_27 : decode cX13_match 27 = .ok (.aload_n 0, 1) := by decide +kernel
theorem dX13_match_28 : decode cX13_match 28 = .ok (.getfield 409, 3) := by decide +kernel
theorem dX13_match_31 : decode cX13_match 31 = .ok (.ifCond .ne 6, 3) := by decide +kernel
theorem dX13_match_34 : decode cX13_match 34 = .ok (.bipush (-2), 2) := by decide +kernel
theorem dX13_match_36 : decode cX13_match 36 = .ok (.ireturn, 1) := by decide +kernel
theorem dX13_match_37 : decode cX13_match 37 = .ok (.iload_n 1, 1) := by decide +kernel
theorem dX13_match_38 : decode cX13_match 38 = .ok (.ifCond .ne 10, 3) := by decide +kernel
theorem dX13_match_41 : decode cX13_match 41 = .ok (.aload_n 0, 1) := by decide +kernel
theorem dX13_match_42 : decode cX13_match 42 = .ok (.getfield 412, 3) := by decide +kernel
theorem dX13_match_45 : decode cX13_match 45 = .ok (.goto 35, 3) := by decide +kernel
theorem dX13_match_48 : decode cX13_match 48 = .ok (.iload_n 1, 1) := by decide +kernel
theorem dX13_match_49 : decode cX13_match 49 = .ok (.iconst 1, 1) := by decide +kernel
theorem dX13_match_50 : decode cX13_match 50 = .ok (.if_icmp .ne 10, 3) := by decide +kernel
theorem dX13_match_53 : decode cX13_match 53 = .ok (.aload_n 0, 1) := by decide +kernel
theorem dX13_match_54 : decode cX13_match 54 = .ok (.getfield 415, 3) := by decide +kernel
theorem dX13_match_57 : decode cX13_match 57 = .ok (.goto 23, 3) := by decide +kernel
theorem dX13_match_60 : decode cX13_match 60 = .ok (.iload_n 1, 1) := by decide +kernel
theorem dX13_match_61 : decode cX13_match 61 = .ok (.iconst 2, 1) := by decide +kernel
theorem dX13_match_62 : decode cX13_match 62 = .ok (.if_icmp .ne 10, 3) := by decide +kernel
theorem dX13_match_65 : decode cX13_match 65 = .ok (.aload_n 0, 1) := by decide +kernel
theorem dX13_match_66 : decode cX13_match 66 = .ok (.getfield 409, 3) := by decide +kernel
theorem dX13_match_69 : decode cX13_match 69 = .ok (.goto 11, 3) := by decide +kernel
theorem dX13_match_72 : decode cX13_match 72 = .ok (.aload_n 0, 1) := by decide +kernel
theorem dX13_match_73 : decode cX13_match 73 = .ok (.getfield 136, 3) := by decide +kernel
theorem dX13_match_76 : decode cX13_match 76 = .ok (.iload_n 1, 1) := by decide +kernel
theorem dX13_match_77 : decode cX13_match 77 = .ok (.iconst 3, 1) := by decide +kernel
theorem dX13_match_78 : decode cX13_match 78 = .ok (.isub, 1) := by decide +kernel
theorem dX13_match_79 : decode cX13_match 79 = .ok (.iaload, 1) := by decide +kernel
theorem dX13_match_80 : decode cX13_match 80 = .ok (.ireturn, 1) := by decide +kernel
theorem dX13_chain_0 : decode cX13_chain 0 = .ok (.aload_n 0, 1) := by decide +kernel
theorem dX13_chain_1 : decode cX13_chain 1 = .ok (.iconst 0, 1) := by decide +kernel
theorem dX13_chain_2 : decode cX13_chain 2 = .ok (.putfield 1, 3) := by decide +kernel
theorem dX13_chain_5 : decode cX13_chain 5 = .ok (.aload_n 0, 1) := by decide +kernel
theorem dX13_chain_6 : decode cX13_chain 6 = .ok (.iload_n 1, 1) := by decide +kernel
theorem dX13_chain_7 : decode cX13_chain 7 = .ok (.invokevirtual 336, 3) := by decide +kernel
theorem dX13_chain_10 : decode cX13_chain 10 = .ok (.ifCond .eq 20, 3) := by decide +kernel
theorem dX13_chain_13 : decode cX13_chain 13 = .ok (.aload_n 0, 1) := by decide +kernel
theorem dX13_chain_14 : decode cX13_chain 14 = .ok (.iload_n 2, 1) := by decide +kernel
theorem dX13_chain_15 : decode cX13_chain 15 = .ok (.invokevirtual 336, 3) := by decide +kernel
theorem dX13_chain_18 : decode cX13_chain 18 = .ok (.ifCond .eq 12, 3) := by decide +kernel
theorem dX13_chain_21 : decode cX13_chain 21 = .ok (.iload_n 1, 1) := by decide +kernel
theorem dX13_chain_22 : decode cX13_chain 22 = .ok (.iload_n 2, 1) := by decide +kernel
theorem dX13_chain_23 : decode cX13_chain 23 = .ok (.if_icmp .eq 7, 3) := by decide +kernel
theorem dX13_chain_26 : decode cX13_chain 26 = .ok (.iload_n 3, 1) := by decide +kernel
theorem dX13_chain_27 : decode cX13_chain 27 = .ok (.ifCond .ge 5, 3) := by decide +kernel
theorem dX13_chain_30 : decode cX13_chain 30 = .ok (.iconst (-1), 1) := by decide +kernel
theorem dX13_chain_31 : decode cX13_chain 31 = .ok (.ireturn, 1) := by decide +kernel
theorem dX13_chain_32 : decode cX13_chain 32 = .ok (.aload_n 0, 1) := by decide +kernel
theorem dX13_chain_33 : decode cX13_chain 33 = .ok (.sipush 1260, 3) := by decide +kernel
theorem dX13_chain_36 : decode cX13_chain 36 = .ok (.invokevirtual 286, 3) := by decide +kernel
theorem dX13_chain_39 : decode cX13_chain 39 = .ok (.aload_n 0, 1) := by decide +kernel
theorem dX13_chain_40 : decode cX13_chain 40 = .ok (.iconst (-1), 1) := by decide +kernel
theorem dX13_chain_41 : decode cX13_chain 41 = .ok (.putfield 427, 3) := by decide +kernel
theorem dX13_chain_44 : decode cX13_chain 44 = .ok (.aload_n 0, 1) := by decide +kernel
theorem dX13_chain_45 : decode cX13_chain 45 = .ok (.getfield 145, 3) := by decide +kernel
theorem dX13_chain_48 : decode cX13_chain 48 = .ok (.iconst 0, 1) := by decide +kernel
theorem dX13_chain_49 : decode cX13_chain 49 = .ok (.iload_n 1, 1) := by decide +kernel
theorem dX13_chain_50 : decode cX13_chain 50 = .ok (.iastore, 1) := by decide +kernel
theorem dX13_chain_51 : decode cX13_chain 51 = .ok (.aload_n 0, 1) := by decide +kernel
theorem dX13_chain_52 : decode cX13_chain 52 = .ok (.iconst 0, 1) := by decide +kernel
theorem dX13_chain_53 : decode cX13_chain 53 = .ok (.iload_n 2, 1) := by decide +kernel
theorem dX13_chain_54 : decode cX13_chain 54 = .ok (.iconst 0, 1) := by decide +kernel
theorem dX13_chain_55 : decode cX13_chain 55 = .ok (.invokevirtual 433, 3) := by decide +kernel
theorem dX13_chain_58 : decode cX13_chain 58 = .ok (.aload_n 0, 1) := by decide +kernel
theorem dX13_chain_59 : decode cX13_chain 59 = .ok (.getfield 427, 3) := by decide +kernel
theorem dX13_chain_62 : decode cX13_chain 62 = .ok (.ifCond .lt 13, 3) := by decide +kernel
theorem dX13_chain_65 : decode cX13_chain 65 = .ok (.iload_n 3, 1) := by decide +kernel
theorem dX13_chain_66 : decode cX13_chain 66 = .ok (.iconst 2, 1) := by decide +kernel
theorem dX13_chain_67 : decode cX13_chain 67 = .ok (.aload_n 0, 1) := by decide +kernel
theorem dX13_chain_68 : decode cX13_chain 68 = .ok (.getfield 427, 3) := by decide +kernel
theorem dX13_chain_71 : decode cX13_chain 71 = .ok (.iadd, 1) := by decide +kernel
theorem dX13_chain_72 : decode cX13_chain 72 = .ok (.if_icmp .le 5, 3) := by decide +kernel
theorem dX13_chain_75 : decode cX13_chain 75 = .ok (.iconst (-1), 1) := by decide +kernel
theorem dX13_chain_76 : decode cX13_chain 76 = .ok (.ireturn, 1) := by decide +kernel
theorem dX13_chain_77 : decode cX13_chain 77 = .ok (.iload_n 3, 1) := by decide +kernel
theorem dX13_chain_78 : decode cX13_chain 78 = .ok (.ifCond .ne 10, 3) := by decide +kernel
theorem dX13_chain_81 : decode cX13_chain 81 = .ok (.aload_n 0, 1) := by decide +kernel
theorem dX13_chain_82 : decode cX13_chain 82 = .ok (.getfield 430, 3) := by decide +kernel
theorem dX13_chain_85 : decode cX13_chain 85 = .ok (.goto 23, 3) := by decide +kernel
theorem dX13_chain_88 : decode cX13_chain 88 = .ok (.iload_n 3, 1) := by decide +kernel
theorem dX13_chain_89 : decode cX13_chain 89 = .ok (.iconst 1, 1) := by decide +kernel
theorem dX13_chain_90 : decode cX13_chain 90 = .ok (.if_icmp .ne 10, 3) := by decide +kernel
theorem dX13_chain_93 : decode cX13_chain 93 = .ok (.aload_n 0, 1) := by decide +kernel
theorem dX13_chain_94 : decode cX13_chain 94 = .ok (.getfield 427, 3) := by decide +kernel
theorem dX13_chain_97 : decode cX13_chain 97 = .ok (.goto 11, 3) := by decide +kernel
theorem dX13_chain_100 : decode cX13_chain 100 = .ok (.aload_n 0, 1) := by decide +kernel
theorem dX13_chain_101 : decode cX13_chain 101 = .ok (.getfield 148, 3) := by decide +kernel
theorem dX13_chain_104 : decode cX13_chain 104 = .ok (.iload_n 3, 1) := by decide +kernel
theorem dX13_chain_105 : decode cX13_chain 105 = .ok (.iconst 2, 1) := by decide +kernel
theorem dX13_chain_106 : decode cX13_chain 106 = .ok (.isub, 1) := by decide +kernel
theorem dX13_chain_107 : decode cX13_chain 107 = .ok (.iaload, 1) := by decide +kernel
theorem dX13_chain_108 : decode cX13_chain 108 = .ok (.ireturn, 1) := by decide +kernel
theorem dX13_peace_0 : decode cX13_peace 0 = .ok (.aload_n 0, 1) := by decide +kernel
theorem dX13_peace_1 : decode cX13_peace 1 = .ok (.iconst 0, 1) := by decide +kernel
theorem dX13_peace_2 : decode cX13_peace 2 = .ok (.putfield 1, 3) := by decide +kernel
theorem dX13_peace_5 : decode cX13_peace 5 = .ok (.iconst (-1), 1) := by decide +kernel
theorem dX13_peace_6 : decode cX13_peace 6 = .ok (.istore_n 1, 1) := by decide +kernel
theorem dX13_peace_7 : decode cX13_peace 7 = .ok (.iconst 0, 1) := by decide +kernel
theorem dX13_peace_8 : decode cX13_peace 8 = .ok (.istore_n 2, 1) := by decide +kernel
theorem dX13_peace_9 : decode cX13_peace 9 = .ok (.iload_n 2, 1) := by decide +kernel
theorem dX13_peace_10 : decode cX13_peace 10 = .ok (.iconst 1, 1) := by decide +kernel
theorem dX13_peace_11 : decode cX13_peace 11 = .ok (.aload_n 0, 1) := by decide +kernel
theorem dX13_peace_12 : decode cX13_peace 12 = .ok (.invokevirtual 296, 3) := by decide +kernel
theorem dX13_peace_15 : decode cX13_peace 15 = .ok (.ishl, 1) := by decide +kernel
theorem dX13_peace_16 : decode cX13_peace 16 = .ok (.if_icmp .ge 117, 3) := by decide +kernel
theorem dX13_peace_19 : decode cX13_peace 19 = .ok (.iconst 1, 1) := by decide +kernel
theorem dX13_peace_20 : decode cX13_peace 20 = .ok (.istore_n 3, 1) := by decide +kernel
theorem dX13_peace_21 : decode cX13_peace 21 = .ok (.aload_n 0, 1) := by decide +kernel
theorem dX13_peace_22 : decode cX13_peace 22 = .ok (.iconst 0, 1) := by decide +kernel
theorem dX13_peace_23 : decode cX13_peace 23 = .ok (.sipush 1260, 3) := by decide +kernel
theorem dX13_peace_26 : decode cX13_peace 26 = .ok (.bipush 19, 2) := by decide +kernel
theorem dX13_peace_28 : decode cX13_peace 28 = .ok (.invokevirtual 292, 3) := by decide +kernel
theorem dX13_peace_31 : decode cX13_peace 31 = .ok (.iconst 0, 1) := by decide +kernel
theorem dX13_peace_32 : decode cX13_peace 32 = .ok (.istore 4, 2) := by decide +kernel
theorem dX13_peace_34 : decode cX13_peace 34 = .ok (.iload 4, 2) := by decide +kernel
theorem dX13_peace_36 : decode cX13_peace 36 = .ok (.aload_n 0, 1) := by decide +kernel
theorem dX13_peace_37 : decode cX13_peace 37 = .ok (.invokevirtual 296, 3) := by decide +kernel
theorem dX13_peace_40 : decode cX13_peace 40 = .ok (.if_icmp .ge 51, 3) := by decide +kernel
theorem dX13_peace_43 : decode cX13_peace 43 = .ok (.iload_n 2, 1) := by decide +kernel
theorem dX13_peace_44 : decode cX13_peace 44 = .ok (.iload 4, 2) := by decide +kernel
theorem dX13_peace_46 : decode cX13_peace 46 = .ok (.ishr, 1) := by decide +kernel
theorem dX13_peace_47 : decode cX13_peace 47 = .ok (.iconst 1, 1) := by decide +kernel
theorem dX13_peace_48 : decode cX13_peace 48 = .ok (.iand, 1) := by decide +kernel
theorem dX13_peace_49 : decode cX13_peace 49 = .ok (.iconst 1, 1) := by decide +kernel
theorem dX13_peace_50 : decode cX13_peace 50 = .ok (.if_icmp .ne 35, 3) := by decide +kernel
theorem dX13_peace_53 : decode cX13_peace 53 = .ok (.iload_n 3, 1) := by decide +kernel
theorem dX13_peace_54 : decode cX13_peace 54 = .ok (.ifCond .eq 17, 3) := by decide +kernel
theorem dX13_peace_57 : decode cX13_peace 57 = .ok (.aload_n 0, 1) := by decide +kernel
theorem dX13_peace_58 : decode cX13_peace 58 = .ok (.iconst 0, 1) := by decide +kernel
theorem dX13_peace_59 : decode cX13_peace 59 = .ok (.iload 4, 2) := by decide +kernel
theorem dX13_peace_61 : decode cX13_peace 61 = .ok (.invokevirtual 303, 3) := by decide +kernel
theorem dX13_peace_64 : decode cX13_peace 64 = .ok (.ifCond .lt 7, 3) := by decide +kernel
theorem dX13_peace_67 : decode cX13_peace 67 = .ok (.iconst 1, 1) := by decide +kernel
theorem dX13_peace_68 : decode cX13_peace 68 = .ok (.goto 4, 3) := by decide +kernel
theorem dX13_peace_71 : decode cX13_peace 71 = .ok (.iconst 0, 1) := by decide +kernel
theorem dX13_peace_72 : decode cX13_peace 72 = .ok (.istore_n 3, 1) := by decide +kernel
theorem dX13_peace_73 : decode cX13_peace 73 = .ok (.aload_n 0, 1) := by decide +kernel
theorem dX13_peace_74 : decode cX13_peace 74 = .ok (.getfield 126, 3) := by decide +kernel
theorem dX13_peace_77 : decode cX13_peace 77 = .ok (.sipush 1261, 3) := by decide +kernel
theorem dX13_peace_80 : decode cX13_peace 80 = .ok (.iload 4, 2) := by decide +kernel
theorem dX13_peace_82 : decode cX13_peace 82 = .ok (.iadd, 1) := by decide +kernel
theorem dX13_peace_83 : decode cX13_peace 83 = .ok (.iconst (-1), 1) := by decide +kernel
theorem dX13_peace_84 : decode cX13_peace 84 = .ok (.iastore, 1) := by decide +kernel
theorem dX13_peace_85 : decode cX13_peace 85 = .ok (.iinc 4 1, 3) := by decide +kernel
theorem dX13_peace_88 : decode cX13_peace 88 = .ok (.goto (-54), 3) := by decide +kernel
theorem dX13_peace_91 : decode cX13_peace 91 = .ok (.iload_n 3, 1) := by decide +kernel
theorem dX13_peace_92 : decode cX13_peace 92 = .ok (.ifCond .eq 35, 3) := by decide +kernel
theorem dX13_peace_95 : decode cX13_peace 95 = .ok (.iload_n 1, 1) := by decide +kernel
theorem dX13_peace_96 : decode cX13_peace 96 = .ok (.ifCond .lt 14, 3) := by decide +kernel
theorem dX13_peace_99 : decode cX13_peace 99 = .ok (.iload_n 2, 1) := by decide +kernel
theorem dX13_peace_100 : decode cX13_peace 100 = .ok (.invokestatic 394, 3) := by decide +kernel
theorem dX13_peace_103 : decode cX13_peace 103 = .ok (.iload_n 1, 1) := by decide +kernel
theorem dX13_peace_104 : decode cX13_peace 104 = .ok (.invokestatic 394, 3) := by decide +kernel
theorem dX13_peace_107 : decode cX13_peace 107 = .ok (.if_icmp .ge 20, 3) := by decide +kernel
theorem dX13_peace_110 : decode cX13_peace 110 = .ok (.aload_n 0, 1) := by decide +kernel
theorem dX13_peace_111 : decode cX13_peace 111 = .ok (.sipush 1260, 3) := by decide +kernel
theorem dX13_peace_114 : decode cX13_peace 114 = .ok (.aload_n 0, 1) := by decide +kernel
theorem dX13_peace_115 : decode cX13_peace 115 = .ok (.iconst 0, 1) := by decide +kernel
theorem dX13_peace_116 : decode cX13_peace 116 = .ok (.invokevirtual 349, 3) := by decide +kernel
theorem dX13_peace_119 : decode cX13_peace 119 = .ok (.invokevirtual 385, 3) := by decide +kernel
theorem dX13_peace_122 : decode cX13_peace 122 = .ok (.ifCond .eq 5, 3) := by decide +kernel
theorem dX13_peace_125 : decode cX13_peace 125 = .ok (.iload_n 2, 1) := by decide +kernel
theorem dX13_peace_126 : decode cX13_peace 126 = .ok (.istore_n 1, 1) := by decide +kernel
theorem dX13_peace_127 : decode cX13_peace 127 = .ok (.iinc 2 1, 3) := by decide +kernel
theorem dX13_peace_130 : decode cX13_peace 130 = .ok (.goto (-121), 3) := by decide +kernel
theorem dX13_peace_133 : decode cX13_peace 133 = .ok (.iload_n 1, 1) := by decide +kernel
theorem dX13_peace_134 : decode cX13_peace 134 = .ok (.ireturn, 1) := by decide +kernel
theorem dX13_bits_0 : decode cX13_bits 0 = .ok (.iconst 0, 1) := by decide +kernel
theorem dX13_bits_1 : decode cX13_bits 1 = .ok (.istore_n 1, 1) := by decide +kernel
theorem dX13_bits_2 : decode cX13_bits 2 = .ok (.iconst 0, 1) := by decide +kernel
theorem dX13_bits_3 : decode cX13_bits 3 = .ok (.istore_n 2, 1) := by decide +kernel
theorem dX13_bits_4 : decode cX13_bits 4 = .ok (.iload_n 2, 1) := by decide +kernel
theorem dX13_bits_5 : decode cX13_bits 5 = .ok (.bipush 6, 2) := by decide +kernel
theorem dX13_bits_7 : decode cX13_bits 7 = .ok (.if_icmp .ge 17, 3) := by decide +kernel
theorem dX13_bits_10 : decode cX13_bits 10 = .ok (.iload_n 1, 1) := by decide +kernel
theorem dX13_bits_11 : decode cX13_bits 11 = .ok (.iload_n 0, 1) := by decide +kernel
theorem dX13_bits_12 : decode cX13_bits 12 = .ok (.iload_n 2, 1) := by decide +kernel
theorem dX13_bits_13 : decode cX13_bits 13 = .ok (.ishr, 1) := by decide +kernel
theorem dX13_bits_14 : decode cX13_bits 14 = .ok (.iconst 1, 1) := by decide +kernel
theorem dX13_bits_15 : decode cX13_bits 15 = .ok (.iand, 1) := by decide +kernel
theorem dX13_bits_16 : decode cX13_bits 16 = .ok (.iadd, 1) := by decide +kernel
theorem dX13_bits_17 : decode cX13_bits 17 = .ok (.istore_n 1, 1) := by decide +kernel
theorem dX13_bits_18 : decode cX13_bits 18 = .ok (.iinc 2 1, 3) := by decide +kernel
theorem dX13_bits_21 : decode cX13_bits 21 = .ok (.goto (-17), 3) := by decide +kernel
theorem dX13_bits_24 : decode cX13_bits 24 = .ok (.iload_n 1, 1) := by decide +kernel
theorem dX13_bits_25 : decode cX13_bits 25 = .ok (.ireturn, 1) := by decide +kernel
theorem dX13_cathedral_0 : decode cX13_cathedral 0 = .ok (.aload_n 0, 1) := by decide +kernel
theorem dX13_cathedral_1 : decode cX13_cathedral 1 = .ok (.iconst 0, 1) := by decide +kernel
theorem dX13_cathedral_2 : decode cX13_cathedral 2 = .ok (.putfield 1, 3) := by decide +kernel
theorem dX13_cathedral_5 : decode cX13_cathedral 5 = .ok (.iconst (-1), 1) := by decide +kernel
theorem dX13_cathedral_6 : decode cX13_cathedral 6 = .ok (.istore_n 2, 1) := by decide +kernel
theorem dX13_cathedral_7 : decode cX13_cathedral 7 = .ok (.iconst 0, 1) := by decide +kernel
theorem dX13_cathedral_8 : decode cX13_cathedral 8 = .ok (.istore_n 3, 1) := by decide +kernel
theorem dX13_cathedral_9 : decode cX13_cathedral 9 = .ok (.iconst 0, 1) := by decide +kernel
theorem dX13_cathedral_10 : decode cX13_cathedral 10 = .ok (.istore 4, 2) := by decide +kernel
theorem dX13_cathedral_12 : decode cX13_cathedral 12 = .ok (.iload 4, 2) := by decide +kernel
theorem dX13_cathedral_14 : decode cX13_cathedral 14 = .ok (.aload_n 0, 1) := by decide +kernel
theorem dX13_cathedral_15 : decode cX13_cathedral 15 = .ok (.invokevirtual 296, 3) := by decide +kernel
theorem dX13_cathedral_18 : decode cX13_cathedral 18 = .ok (.if_icmp .ge 73, 3) := by decide +kernel
theorem dX13_cathedral_21 : decode cX13_cathedral 21 = .ok (.iload_n 1, 1) := by decide +kernel
theorem dX13_cathedral_22 : decode cX13_cathedral 22 = .ok (.iconst 0, 1) := by decide +kernel
theorem dX13_cathedral_23 : decode cX13_cathedral 23 = .ok (.iconst 3, 1) := by decide +kernel
theorem dX13_cathedral_24 : decode cX13_cathedral 24 = .ok (.invokestatic 339, 3) := by decide +kernel
theorem dX13_cathedral_27 : decode cX13_cathedral 27 = .ok (.ifCond .eq 64, 3) := by decide +kernel
theorem dX13_cathedral_30 : decode cX13_cathedral 30 = .ok (.aload_n 0, 1) := by decide +kernel
theorem dX13_cathedral_31 : decode cX13_cathedral 31 = .ok (.iconst 0, 1) := by decide +kernel
theorem dX13_cathedral_32 : decode cX13_cathedral 32 = .ok (.iload 4, 2) := by decide +kernel
theorem dX13_cathedral_34 : decode cX13_cathedral 34 = .ok (.invokevirtual 303, 3) := by decide +kernel
theorem dX13_cathedral_37 : decode cX13_cathedral 37 = .ok (.istore 5, 2) := by decide +kernel
theorem dX13_cathedral_39 : decode cX13_cathedral 39 = .ok (.iload 5, 2) := by decide +kernel
theorem dX13_cathedral_41 : decode cX13_cathedral 41 = .ok (.ifCond .ge 7, 3) := by decide +kernel
theorem dX13_cathedral_44 : decode cX13_cathedral 44 = .ok (.iconst 0, 1) := by decide +kernel
theorem dX13_cathedral_45 : decode cX13_cathedral 45 = .ok (.goto 17, 3) := by decide +kernel
theorem dX13_cathedral_48 : decode cX13_cathedral 48 = .ok (.aload_n 0, 1) := by decide +kernel
theorem dX13_cathedral_49 : decode cX13_cathedral 49 = .ok (.iconst 0, 1) := by decide +kernel
theorem dX13_cathedral_50 : decode cX13_cathedral 50 = .ok (.iload 5, 2) := by decide +kernel
theorem dX13_cathedral_52 : decode cX13_cathedral 52 = .ok (.aload_n 0, 1) := by decide +kernel
theorem dX13_cathedral_53 : decode cX13_cathedral 53 = .ok (.iload 4, 2) := by decide +kernel
theorem dX13_cathedral_55 : decode cX13_cathedral 55 = .ok (.invokevirtual 313, 3) := by decide +kernel
theorem dX13_cathedral_58 : decode cX13_cathedral 58 = .ok (.iload_n 1, 1) := by decide +kernel
theorem dX13_cathedral_59 : decode cX13_cathedral 59 = .ok (.invokevirtual 325, 3) := by decide +kernel
theorem dX13_cathedral_62 : decode cX13_cathedral 62 = .ok (.istore 6, 2) := by decide +kernel
theorem dX13_cathedral_64 : decode cX13_cathedral 64 = .ok (.iload 5, 2) := by decide +kernel
theorem dX13_cathedral_66 : decode cX13_cathedral 66 = .ok (.ifCond .lt 19, 3) := by decide +kernel
theorem dX13_cathedral_69 : decode cX13_cathedral 69 = .ok (.iload_n 2, 1) := by decide +kernel
theorem dX13_cathedral_70 : decode cX13_cathedral 70 = .ok (.ifCond .lt 9, 3) := by decide +kernel
theorem dX13_cathedral_73 : decode cX13_cathedral 73 = .ok (.iload 6, 2) := by decide +kernel
theorem dX13_cathedral_75 : decode cX13_cathedral 75 = .ok (.iload_n 3, 1) := by decide +kernel
theorem dX13_cathedral_76 : decode cX13_cathedral 76 = .ok (.if_icmp .le 9, 3) := by decide +kernel
theorem dX13_cathedral_79 : decode cX13_cathedral 79 = .ok (.iload 4, 2) := by decide +kernel
theorem dX13_cathedral_81 : decode cX13_cathedral 81 = .ok (.istore_n 2, 1) := by decide +kernel
theorem dX13_cathedral_82 : decode cX13_cathedral 82 = .ok (.iload 6, 2) := by decide +kernel
theorem dX13_cathedral_84 : decode cX13_cathedral 84 = .ok (.istore_n 3, 1) := by decide +kernel
theorem dX13_cathedral_85 : decode cX13_cathedral 85 = .ok (.iinc 4 1, 3) := by decide +kernel
theorem dX13_cathedral_88 : decode cX13_cathedral 88 = .ok (.goto (-76), 3) := by decide +kernel
theorem dX13_cathedral_91 : decode cX13_cathedral 91 = .ok (.iload_n 2, 1) := by decide +kernel
theorem dX13_cathedral_92 : decode cX13_cathedral 92 = .ok (.ireturn, 1) := by decide +kernel
