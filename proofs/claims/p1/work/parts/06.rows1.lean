theorem dX3_compareSeasons_0 : decode cX3_compareSeasons 0 = .ok (.iconst 0, 1) := by decide +kernel
theorem dX3_compareSeasons_1 : decode cX3_compareSeasons 1 = .ok (.istore_n 1, 1) := by decide +kernel
theorem dX3_compareSeasons_2 : decode cX3_compareSeasons 2 = .ok (.iload_n 1, 1) := by decide +kernel
theorem dX3_compareSeasons_3 : decode cX3_compareSeasons 3 = .ok (.iconst 1, 1) := by decide +kernel
theorem dX3_compareSeasons_4 : decode cX3_compareSeasons 4 = .ok (.aload_n 0, 1) := by decide +kernel
theorem dX3_compareSeasons_5 : decode cX3_compareSeasons 5 = .ok (.getfield 45, 3) := by decide +kernel
theorem dX3_compareSeasons_8 : decode cX3_compareSeasons 8 = .ok (.ishl, 1) := by decide +kernel
theorem dX3_compareSeasons_9 : decode cX3_compareSeasons 9 = .ok (.if_icmp .ge 94, 3) := by decide +kernel
theorem dX3_compareSeasons_12 : decode cX3_compareSeasons 12 = .ok (.aload_n 0, 1) := by decide +kernel
theorem dX3_compareSeasons_13 : decode cX3_compareSeasons 13 = .ok (.getfield 37, 3) := by decide +kernel
theorem dX3_compareSeasons_16 : decode cX3_compareSeasons 16 = .ok (.iload_n 1, 1) := by decide +kernel
theorem dX3_compareSeasons_17 : decode cX3_compareSeasons 17 = .ok (.iaload, 1) := by decide +kernel
theorem dX3_compareSeasons_18 : decode cX3_compareSeasons 18 = .ok (.istore_n 2, 1) := by decide +kernel
theorem dX3_compareSeasons_19 : decode cX3_compareSeasons 19 = .ok (.aload_n 0, 1) := by decide +kernel
theorem dX3_compareSeasons_20 : decode cX3_compareSeasons 20 = .ok (.getfield 37, 3) := by decide +kernel
theorem dX3_compareSeasons_23 : decode cX3_compareSeasons 23 = .ok (.iload_n 1, 1) := by decide +kernel
theorem dX3_compareSeasons_24 : decode cX3_compareSeasons 24 = .ok (.iaload, 1) := by decide +kernel
theorem dX3_compareSeasons_25 : decode cX3_compareSeasons 25 = .ok (.istore_n 3, 1) := by decide +kernel
theorem dX3_compareSeasons_26 : decode cX3_compareSeasons 26 = .ok (.iconst 1, 1) := by decide +kernel
theorem dX3_compareSeasons_27 : decode cX3_compareSeasons 27 = .ok (.istore 4, 2) := by decide +kernel
theorem dX3_compareSeasons_29 : decode cX3_compareSeasons 29 = .ok (.iload 4, 2) := by decide +kernel
theorem dX3_compareSeasons_31 : decode cX3_compareSeasons 31 = .ok (.iconst 4, 1) := by decide +kernel
theorem dX3_compareSeasons_32 : decode cX3_compareSeasons 32 = .ok (.if_icmp .ge 43, 3) := by decide +kernel
theorem dX3_compareSeasons_35 : decode cX3_compareSeasons 35 = .ok (.iload_n 2, 1) := by decide +kernel
theorem dX3_compareSeasons_36 : decode cX3_compareSeasons 36 = .ok (.aload_n 0, 1) := by decide +kernel
theorem dX3_compareSeasons_37 : decode cX3_compareSeasons 37 = .ok (.getfield 37, 3) := by decide +kernel
theorem dX3_compareSeasons_40 : decode cX3_compareSeasons 40 = .ok (.iload 4, 2) := by decide +kernel
theorem dX3_compareSeasons_42 : decode cX3_compareSeasons 42 = .ok (.bipush 64, 2) := by decide +kernel
theorem dX3_compareSeasons_44 : decode cX3_compareSeasons 44 = .ok (.imul, 1) := by decide +kernel
theorem dX3_compareSeasons_45 : decode cX3_compareSeasons 45 = .ok (.iload_n 1, 1) := by decide +kernel
theorem dX3_compareSeasons_46 : decode cX3_compareSeasons 46 = .ok (.iadd, 1) := by decide +kernel
theorem dX3_compareSeasons_47 : decode cX3_compareSeasons 47 = .ok (.iaload, 1) := by decide +kernel
theorem dX3_compareSeasons_48 : decode cX3_compareSeasons 48 = .ok (.invokestatic 94, 3) := by decide +kernel
theorem dX3_compareSeasons_51 : decode cX3_compareSeasons 51 = .ok (.istore_n 2, 1) := by decide +kernel
theorem dX3_compareSeasons_52 : decode cX3_compareSeasons 52 = .ok (.iload_n 3, 1) := by decide +kernel
theorem dX3_compareSeasons_53 : decode cX3_compareSeasons 53 = .ok (.aload_n 0, 1) := by decide +kernel
theorem dX3_compareSeasons_54 : decode cX3_compareSeasons 54 = .ok (.getfield 37, 3) := by decide +kernel
theorem dX3_compareSeasons_57 : decode cX3_compareSeasons 57 = .ok (.iload 4, 2) := by decide +kernel
theorem dX3_compareSeasons_59 : decode cX3_compareSeasons 59 = .ok (.bipush 64, 2) := by decide +kernel
theorem dX3_compareSeasons_61 : decode cX3_compareSeasons 61 = .ok (.imul, 1) := by decide +kernel
theorem dX3_compareSeasons_62 : decode cX3_compareSeasons 62 = .ok (.iload_n 1, 1) := by decide +kernel
theorem dX3_compareSeasons_63 : decode cX3_compareSeasons 63 = .ok (.iadd, 1) := by decide +kernel
theorem dX3_compareSeasons_64 : decode cX3_compareSeasons 64 = .ok (.iaload, 1) := by decide +kernel
theorem dX3_compareSeasons_65 : decode cX3_compareSeasons 65 = .ok (.invokestatic 99, 3) := by decide +kernel
theorem dX3_compareSeasons_68 : decode cX3_compareSeasons 68 = .ok (.istore_n 3, 1) := by decide +kernel
theorem dX3_compareSeasons_69 : decode cX3_compareSeasons 69 = .ok (.iinc 4 1, 3) := by decide +kernel
theorem dX3_compareSeasons_72 : decode cX3_compareSeasons 72 = .ok (.goto (-43), 3) := by decide +kernel
theorem dX3_compareSeasons_75 : decode cX3_compareSeasons 75 = .ok (.aload_n 0, 1) := by decide +kernel
theorem dX3_compareSeasons_76 : decode cX3_compareSeasons 76 = .ok (.getfield 37, 3) := by decide +kernel
theorem dX3_compareSeasons_79 : decode cX3_compareSeasons 79 = .ok (.sipush 512, 3) := by decide +kernel
theorem dX3_compareSeasons_82 : decode cX3_compareSeasons 82 = .ok (.iload_n 1, 1) := by decide +kernel
theorem dX3_compareSeasons_83 : decode cX3_compareSeasons 83 = .ok (.iadd, 1) := by decide +kernel
theorem dX3_compareSeasons_84 : decode cX3_compareSeasons 84 = .ok (.iload_n 2, 1) := by decide +kernel
theorem dX3_compareSeasons_85 : decode cX3_compareSeasons 85 = .ok (.iastore, 1) := by decide +kernel
theorem dX3_compareSeasons_86 : decode cX3_compareSeasons 86 = .ok (.aload_n 0, 1) := by decide +kernel
theorem dX3_compareSeasons_87 : decode cX3_compareSeasons 87 = .ok (.getfield 37, 3) := by decide +kernel
theorem dX3_compareSeasons_90 : decode cX3_compareSeasons 90 = .ok (.sipush 576, 3) := by decide +kernel
theorem dX3_compareSeasons_93 : decode cX3_compareSeasons 93 = .ok (.iload_n 1, 1) := by decide +kernel
theorem dX3_compareSeasons_94 : decode cX3_compareSeasons 94 = .ok (.iadd, 1) := by decide +kernel
theorem dX3_compareSeasons_95 : decode cX3_compareSeasons 95 = .ok (.iload_n 3, 1) := by decide +kernel
theorem dX3_compareSeasons_96 : decode cX3_compareSeasons 96 = .ok (.iastore, 1) := by decide +kernel
theorem dX3_compareSeasons_97 : decode cX3_compareSeasons 97 = .ok (.iinc 1 1, 3) := by decide +kernel
theorem dX3_compareSeasons_100 : decode cX3_compareSeasons 100 = .ok (.goto (-98), 3) := by decide +kernel
theorem dX3_compareSeasons_103 : decode cX3_compareSeasons 103 = .ok (.return_, 1) := by decide +kernel
theorem dX3_all_0 : decode cX3_all 0 = .ok (.iconst 1, 1) := by decide +kernel
theorem dX3_all_1 : decode cX3_all 1 = .ok (.aload_n 0, 1) := by decide +kernel
theorem dX3_all_2 : decode cX3_all 2 = .ok (.getfield 45, 3) := by decide +kernel
theorem dX3_all_5 : decode cX3_all 5 = .ok (.ishl, 1) := by decide +kernel
theorem dX3_all_6 : decode cX3_all 6 = .ok (.iconst 1, 1) := by decide +kernel
theorem dX3_all_7 : decode cX3_all 7 = .ok (.isub, 1) := by decide +kernel
theorem dX3_all_8 : decode cX3_all 8 = .ok (.ireturn, 1) := by decide +kernel
theorem dX6_init_0 : decode cX6_init 0 = .ok (.aload_n 0, 1) := by decide +kernel
theorem dX6_init_1 : decode cX6_init 1 = .ok (.invokespecial 3, 3) := by decide +kernel
theorem dX6_init_4 : decode cX6_init 4 = .ok (.aload_n 0, 1) := by decide +kernel
theorem dX6_init_5 : decode cX6_init 5 = .ok (.bipush 24, 2) := by decide +kernel
theorem dX6_init_7 : decode cX6_init 7 = .ok (.newarray .int, 2) := by decide +kernel
theorem dX6_init_9 : decode cX6_init 9 = .ok (.putfield 9, 3) := by decide +kernel
theorem dX6_init_12 : decode cX6_init 12 = .ok (.aload_n 0, 1) := by decide +kernel
theorem dX6_init_13 : decode cX6_init 13 = .ok (.bipush 6, 2) := by decide +kernel
theorem dX6_init_15 : decode cX6_init 15 = .ok (.newarray .int, 2) := by decide +kernel
theorem dX6_init_17 : decode cX6_init 17 = .ok (.putfield 15, 3) := by decide +kernel
theorem dX6_init_20 : decode cX6_init 20 = .ok (.aload_n 0, 1) := by decide +kernel
theorem dX6_init_21 : decode cX6_init 21 = .ok (.aload_n 1, 1) := by decide +kernel
theorem dX6_init_22 : decode cX6_init 22 = .ok (.putfield 18, 3) := by decide +kernel
theorem dX6_init_25 : decode cX6_init 25 = .ok (.aload_n 0, 1) := by decide +kernel
theorem dX6_init_26 : decode cX6_init 26 = .ok (.aload_n 2, 1) := by decide +kernel
theorem dX6_init_27 : decode cX6_init 27 = .ok (.putfield 22, 3) := by decide +kernel
theorem dX6_init_30 : decode cX6_init 30 = .ok (.aload_n 0, 1) := by decide +kernel
theorem dX6_init_31 : decode cX6_init 31 = .ok (.aload_n 2, 1) := by decide +kernel
theorem dX6_init_32 : decode cX6_init 32 = .ok (.getfield 26, 3) := by decide +kernel
theorem dX6_init_35 : decode cX6_init 35 = .ok (.putfield 32, 3) := by decide +kernel
theorem dX6_init_38 : decode cX6_init 38 = .ok (.return_, 1) := by decide +kernel
theorem dX6_readLand_0 : decode cX6_readLand 0 = .ok (.aload_n 0, 1) := by decide +kernel
theorem dX6_readLand_1 : decode cX6_readLand 1 = .ok (.aload_n 1, 1) := by decide +kernel
theorem dX6_readLand_2 : decode cX6_readLand 2 = .ok (.invokevirtual 35, 3) := by decide +kernel
theorem dX6_readLand_5 : decode cX6_readLand 5 = .ok (.aload_n 1, 1) := by decide +kernel
theorem dX6_readLand_6 : decode cX6_readLand 6 = .ok (.invokevirtual 39, 3) := by decide +kernel
theorem dX6_readLand_9 : decode cX6_readLand 9 = .ok (.aload_n 0, 1) := by decide +kernel
theorem dX6_readLand_10 : decode cX6_readLand 10 = .ok (.iconst 0, 1) := by decide +kernel
theorem dX6_readLand_11 : decode cX6_readLand 11 = .ok (.putfield 42, 3) := by decide +kernel
theorem dX6_readLand_14 : decode cX6_readLand 14 = .ok (.iconst 0, 1) := by decide +kernel
theorem dX6_readLand_15 : decode cX6_readLand 15 = .ok (.istore_n 2, 1) := by decide +kernel
theorem dX6_readLand_16 : decode cX6_readLand 16 = .ok (.iload_n 2, 1) := by decide +kernel
theorem dX6_readLand_17 : decode cX6_readLand 17 = .ok (.sipush 1000, 3) := by decide +kernel
theorem dX6_readLand_20 : decode cX6_readLand 20 = .ok (.if_icmp .gt 28, 3) := by decide +kernel
theorem dX6_readLand_23 : decode cX6_readLand 23 = .ok (.aload_n 0, 1) := by decide +kernel
theorem dX6_readLand_24 : decode cX6_readLand 24 = .ok (.invokevirtual 46, 3) := by decide +kernel
theorem dX6_readLand_27 : decode cX6_readLand 27 = .ok (.ifCond .eq 21, 3) := by decide +kernel
theorem dX6_readLand_30 : decode cX6_readLand 30 = .ok (.aload_n 0, 1) := by decide +kernel
theorem dX6_readLand_31 : decode cX6_readLand 31 = .ok (.invokevirtual 50, 3) := by decide +kernel
theorem dX6_readLand_34 : decode cX6_readLand 34 = .ok (.ifCond .eq 8, 3) := by decide +kernel
theorem dX6_readLand_37 : decode cX6_readLand 37 = .ok (.aload_n 0, 1) := by decide +kernel
theorem dX6_readLand_38 : decode cX6_readLand 38 = .ok (.invokevirtual 53, 3) := by decide +kernel
theorem dX6_readLand_41 : decode cX6_readLand 41 = .ok (.pop, 1) := by decide +kernel
theorem dX6_readLand_42 : decode cX6_readLand 42 = .ok (.iinc 2 1, 3) := by decide +kernel
theorem dX6_readLand_45 : decode cX6_readLand 45 = .ok (.goto (-29), 3) := by decide +kernel
theorem dX6_readLand_48 : decode cX6_readLand 48 = .ok (.aload_n 0, 1) := by decide +kernel
theorem dX6_readLand_49 : decode cX6_readLand 49 = .ok (.getfield 56, 3) := by decide +kernel
theorem dX6_readLand_52 : decode cX6_readLand 52 = .ok (.ifCond .ne 7, 3) := by decide +kernel
theorem dX6_readLand_55 : decode cX6_readLand 55 = .ok (.aload_n 1, 1) := by decide +kernel
theorem dX6_readLand_56 : decode cX6_readLand 56 = .ok (.invokevirtual 59, 3) := by decide +kernel
theorem dX6_readLand_59 : decode cX6_readLand 59 = .ok (.aload_n 0, 1) := by decide +kernel
theorem dX6_readLand_60 : decode cX6_readLand 60 = .ok (.getfield 56, 3) := by decide +kernel
theorem dX6_readLand_63 : decode cX6_readLand 63 = .ok (.ireturn, 1) := by decide +kernel
theorem dX6_readVows_0 : decode cX6_readVows 0 = .ok (.aload_n 0, 1) := by decide +kernel
theorem dX6_readVows_1 : decode cX6_readVows 1 = .ok (.aload_n 1, 1) := by decide +kernel
theorem dX6_readVows_2 : decode cX6_readVows 2 = .ok (.invokevirtual 35, 3) := by decide +kernel
theorem dX6_readVows_5 : decode cX6_readVows 5 = .ok (.aload_n 0, 1) := by decide +kernel
theorem dX6_readVows_6 : decode cX6_readVows 6 = .ok (.iconst 0, 1) := by decide +kernel
theorem dX6_readVows_7 : decode cX6_readVows 7 = .ok (.putfield 62, 3) := by decide +kernel
theorem dX6_readVows_10 : decode cX6_readVows 10 = .ok (.iconst 0, 1) := by decide +kernel
theorem dX6_readVows_11 : decode cX6_readVows 11 = .ok (.istore_n 2, 1) := by decide +kernel
theorem dX6_readVows_12 : decode cX6_readVows 12 = .ok (.iload_n 2, 1) := by decide +kernel
theorem dX6_readVows_13 : decode cX6_readVows 13 = .ok (.bipush 24, 2) := by decide +kernel
theorem dX6_readVows_15 : decode cX6_readVows 15 = .ok (.if_icmp .gt 28, 3) := by decide +kernel
theorem dX6_readVows_18 : decode cX6_readVows 18 = .ok (.aload_n 0, 1) := by decide +kernel
theorem dX6_readVows_19 : decode cX6_readVows 19 = .ok (.invokevirtual 46, 3) := by decide +kernel
theorem dX6_readVows_22 : decode cX6_readVows 22 = .ok (.ifCond .eq 21, 3) := by decide +kernel
theorem dX6_readVows_25 : decode cX6_readVows 25 = .ok (.aload_n 0, 1) := by decide +kernel
theorem dX6_readVows_26 : decode cX6_readVows 26 = .ok (.invokevirtual 65, 3) := by decide +kernel
theorem dX6_readVows_29 : decode cX6_readVows 29 = .ok (.ifCond .eq 8, 3) := by decide +kernel
theorem dX6_readVows_32 : decode cX6_readVows 32 = .ok (.aload_n 0, 1) := by decide +kernel
theorem dX6_readVows_33 : decode cX6_readVows 33 = .ok (.invokevirtual 53, 3) := by decide +kernel
theorem dX6_readVows_36 : decode cX6_readVows 36 = .ok (.pop, 1) := by decide +kernel
theorem dX6_readVows_37 : decode cX6_readVows 37 = .ok (.iinc 2 1, 3) := by decide +kernel
theorem dX6_readVows_40 : decode cX6_readVows 40 = .ok (.goto (-28), 3) := by decide +kernel
theorem dX6_readVows_43 : decode cX6_readVows 43 = .ok (.aload_n 0, 1) := by decide +kernel
theorem dX6_readVows_44 : decode cX6_readVows 44 = .ok (.getfield 56, 3) := by decide +kernel
theorem dX6_readVows_47 : decode cX6_readVows 47 = .ok (.ireturn, 1) := by decide +kernel
theorem dX6_readWill_0 : decode cX6_readWill 0 = .ok (.aload_n 0, 1) := by decide +kernel
theorem dX6_readWill_1 : decode cX6_readWill 1 = .ok (.aload_n 0, 1) := by decide +kernel
theorem dX6_readWill_2 : decode cX6_readWill 2 = .ok (.getfield 22, 3) := by decide +kernel
theorem dX6_readWill_5 : decode cX6_readWill 5 = .ok (.invokevirtual 35, 3) := by decide +kernel
theorem dX6_readWill_8 : decode cX6_readWill 8 = .ok (.aload_n 0, 1) := by decide +kernel
theorem dX6_readWill_9 : decode cX6_readWill 9 = .ok (.iconst 0, 1) := by decide +kernel
theorem dX6_readWill_10 : decode cX6_readWill 10 = .ok (.putfield 68, 3) := by decide +kernel
theorem dX6_readWill_13 : decode cX6_readWill 13 = .ok (.iconst 0, 1) := by decide +kernel
theorem dX6_readWill_14 : decode cX6_readWill 14 = .ok (.istore_n 1, 1) := by decide +kernel
theorem dX6_readWill_15 : decode cX6_readWill 15 = .ok (.iload_n 1, 1) := by decide +kernel
theorem dX6_readWill_16 : decode cX6_readWill 16 = .ok (.bipush 6, 2) := by decide +kernel
theorem dX6_readWill_18 : decode cX6_readWill 18 = .ok (.if_icmp .gt 28, 3) := by decide +kernel
theorem dX6_readWill_21 : decode cX6_readWill 21 = .ok (.aload_n 0, 1) := by decide +kernel
theorem dX6_readWill_22 : decode cX6_readWill 22 = .ok (.invokevirtual 46, 3) := by decide +kernel
theorem dX6_readWill_25 : decode cX6_readWill 25 = .ok (.ifCond .eq 21, 3) := by decide +kernel
theorem dX6_readWill_28 : decode cX6_readWill 28 = .ok (.aload_n 0, 1) := by decide +kernel
theorem dX6_readWill_29 : decode cX6_readWill 29 = .ok (.invokevirtual 71, 3) := by decide +kernel
theorem dX6_readWill_32 : decode cX6_readWill 32 = .ok (.ifCond .eq 8, 3) := by decide +kernel
theorem dX6_readWill_35 : decode cX6_readWill 35 = .ok (.aload_n 0, 1) := by decide +kernel
theorem dX6_readWill_36 : decode cX6_readWill 36 = .ok (.invokevirtual 53, 3) := by decide +kernel
theorem dX6_readWill_39 : decode cX6_readWill 39 = .ok (.pop, 1) := by decide +kernel
theorem dX6_readWill_40 : decode cX6_readWill 40 = .ok (.iinc 1 1, 3) := by decide +kernel
theorem dX6_readWill_43 : decode cX6_readWill 43 = .ok (.goto (-28), 3) := by decide +kernel
theorem dX6_readWill_46 : decode cX6_readWill 46 = .ok (.aload_n 0, 1) := by decide +kernel
theorem dX6_readWill_47 : decode cX6_readWill 47 = .ok (.getfield 56, 3) := by decide +kernel
theorem dX6_readWill_50 : decode cX6_readWill 50 = .ok (.ireturn, 1) := by decide +kernel
theorem dX6_begin_0 : decode cX6_begin 0 = .ok (.aload_n 0, 1) := by decide +kernel
theorem dX6_begin_1 : decode cX6_begin 1 = .ok (.aload_n 1, 1) := by decide +kernel
theorem dX6_begin_2 : decode cX6_begin 2 = .ok (.putfield 22, 3) := by decide +kernel
theorem dX6_begin_5 : decode cX6_begin 5 = .ok (.aload_n 0, 1) := by decide +kernel
theorem dX6_begin_6 : decode cX6_begin 6 = .ok (.iconst 0, 1) := by decide +kernel
theorem dX6_begin_7 : decode cX6_begin 7 = .ok (.putfield 56, 3) := by decide +kernel
theorem dX6_begin_10 : decode cX6_begin 10 = .ok (.aload_n 0, 1) := by decide +kernel
theorem dX6_begin_11 : decode cX6_begin 11 = .ok (.getfield 18, 3) := by decide +kernel
theorem dX6_begin_14 : decode cX6_begin 14 = .ok (.invokevirtual 74, 3) := by decide +kernel
theorem dX6_begin_17 : decode cX6_begin 17 = .ok (.return_, 1) := by decide +kernel
theorem dX6_goesOn_0 : decode cX6_goesOn 0 = .ok (.aload_n 0, 1) := by decide +kernel
theorem dX6_goesOn_1 : decode cX6_goesOn 1 = .ok (.getfield 56, 3) := by decide +kernel
theorem dX6_goesOn_4 : decode cX6_goesOn 4 = .ok (.ifCond .ne 17, 3) := by decide +kernel
theorem dX6_goesOn_7 : decode cX6_goesOn 7 = .ok (.aload_n 0, 1) := by decide +kernel
theorem dX6_goesOn_8 : decode cX6_goesOn 8 = .ok (.getfield 18, 3) := by decide +kernel
theorem dX6_goesOn_11 : decode cX6_goesOn 11 = .ok (.getfield 78, 3) := by decide +kernel
theorem dX6_goesOn_14 : decode cX6_goesOn 14 = .ok (.ifCond .eq 7, 3) := by decide +kernel
theorem dX6_goesOn_17 : decode cX6_goesOn 17 = .ok (.iconst 1, 1) := by decide +kernel
theorem dX6_goesOn_18 : decode cX6_goesOn 18 = .ok (.goto 4, 3) := by decide +kernel
theorem dX6_goesOn_21 : decode cX6_goesOn 21 = .ok (.iconst 0, 1) := by decide +kernel
theorem dX6_goesOn_22 : decode cX6_goesOn 22 = .ok (.ireturn, 1) := by decide +kernel
