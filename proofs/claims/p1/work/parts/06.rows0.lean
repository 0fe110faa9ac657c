theorem dX2_init_0 : decode cX2_init 0 = .ok (.aload_n 0, 1) := by decide +kernel
theorem dX2_init_1 : decode cX2_init 1 = .ok (.invokespecial 3, 3) := by decide +kernel
theorem dX2_init_4 : decode cX2_init 4 = .ok (.aload_n 0, 1) := by decide +kernel
theorem dX2_init_5 : decode cX2_init 5 = .ok (.sipush 1000, 3) := by decide +kernel
theorem dX2_init_8 : decode cX2_init 8 = .ok (.newarray .int, 2) := by decide +kernel
theorem dX2_init_10 : decode cX2_init 10 = .ok (.putfield 9, 3) := by decide +kernel
theorem dX2_init_13 : decode cX2_init 13 = .ok (.aload_n 0, 1) := by decide +kernel
theorem dX2_init_14 : decode cX2_init 14 = .ok (.bipush 32, 2) := by decide +kernel
theorem dX2_init_16 : decode cX2_init 16 = .ok (.newarray .int, 2) := by decide +kernel
theorem dX2_init_18 : decode cX2_init 18 = .ok (.putfield 15, 3) := by decide +kernel
theorem dX2_init_21 : decode cX2_init 21 = .ok (.return_, 1) := by decide +kernel
theorem dX2_clear_0 : decode cX2_clear 0 = .ok (.aload_n 0, 1) := by decide +kernel
theorem dX2_clear_1 : decode cX2_clear 1 = .ok (.iconst 0, 1) := by decide +kernel
theorem dX2_clear_2 : decode cX2_clear 2 = .ok (.putfield 18, 3) := by decide +kernel
theorem dX2_clear_5 : decode cX2_clear 5 = .ok (.return_, 1) := by decide +kernel
theorem dX2_add_0 : decode cX2_add 0 = .ok (.aload_n 0, 1) := by decide +kernel
theorem dX2_add_1 : decode cX2_add 1 = .ok (.getfield 18, 3) := by decide +kernel
theorem dX2_add_4 : decode cX2_add 4 = .ok (.aload_n 0, 1) := by decide +kernel
theorem dX2_add_5 : decode cX2_add 5 = .ok (.getfield 9, 3) := by decide +kernel
theorem dX2_add_8 : decode cX2_add 8 = .ok (.arraylength, 1) := by decide +kernel
theorem dX2_add_9 : decode cX2_add 9 = .ok (.if_icmp .ge 23, 3) := by decide +kernel
theorem dX2_add_12 : decode cX2_add 12 = .ok (.aload_n 0, 1) := by decide +kernel
theorem dX2_add_13 : decode cX2_add 13 = .ok (.getfield 9, 3) := by decide +kernel
theorem dX2_add_16 : decode cX2_add 16 = .ok (.aload_n 0, 1) := by decide +kernel
theorem dX2_add_17 : decode cX2_add 17 = .ok (.getfield 18, 3) := by decide +kernel
theorem dX2_add_20 : decode cX2_add 20 = .ok (.iload_n 1, 1) := by decide +kernel
theorem dX2_add_21 : decode cX2_add 21 = .ok (.iastore, 1) := by decide +kernel
theorem dX2_add_22 : decode cX2_add 22 = .ok (.aload_n 0, 1) := by decide +kernel
theorem dX2_add_23 : decode cX2_add 23 = .ok (.dup, 1) := by decide +kernel
theorem dX2_add_24 : decode cX2_add 24 = .ok (.getfield 18, 3) := by decide +kernel
theorem dX2_add_27 : decode cX2_add 27 = .ok (.iconst 1, 1) := by decide +kernel
theorem dX2_add_28 : decode cX2_add 28 = .ok (.iadd, 1) := by decide +kernel
theorem dX2_add_29 : decode cX2_add 29 = .ok (.putfield 18, 3) := by decide +kernel
theorem dX2_add_32 : decode cX2_add 32 = .ok (.return_, 1) := by decide +kernel
theorem dX7_init_0 : decode cX7_init 0 = .ok (.aload_n 0, 1) := by decide +kernel
theorem dX7_init_1 : decode cX7_init 1 = .ok (.invokespecial 3, 3) := by decide +kernel
theorem dX7_init_4 : decode cX7_init 4 = .ok (.aload_n 0, 1) := by decide +kernel
theorem dX7_init_5 : decode cX7_init 5 = .ok (.iconst 4, 1) := by decide +kernel
theorem dX7_init_6 : decode cX7_init 6 = .ok (.newarray .int, 2) := by decide +kernel
theorem dX7_init_8 : decode cX7_init 8 = .ok (.putfield 9, 3) := by decide +kernel
theorem dX7_init_11 : decode cX7_init 11 = .ok (.return_, 1) := by decide +kernel
theorem dX9_init_0 : decode cX9_init 0 = .ok (.aload_n 0, 1) := by decide +kernel
theorem dX9_init_1 : decode cX9_init 1 = .ok (.invokespecial 3, 3) := by decide +kernel
theorem dX9_init_4 : decode cX9_init 4 = .ok (.aload_n 0, 1) := by decide +kernel
theorem dX9_init_5 : decode cX9_init 5 = .ok (.bipush 6, 2) := by decide +kernel
theorem dX9_init_7 : decode cX9_init 7 = .ok (.newarray .int, 2) := by decide +kernel
theorem dX9_init_9 : decode cX9_init 9 = .ok (.putfield 9, 3) := by decide +kernel
theorem dX9_init_12 : decode cX9_init 12 = .ok (.aload_n 0, 1) := by decide +kernel
theorem dX9_init_13 : decode cX9_init 13 = .ok (.bipush 6, 2) := by decide +kernel
theorem dX9_init_15 : decode cX9_init 15 = .ok (.newarray .int, 2) := by decide +kernel
theorem dX9_init_17 : decode cX9_init 17 = .ok (.putfield 15, 3) := by decide +kernel
theorem dX9_init_20 : decode cX9_init 20 = .ok (.aload_n 0, 1) := by decide +kernel
theorem dX9_init_21 : decode cX9_init 21 = .ok (.bipush 6, 2) := by decide +kernel
theorem dX9_init_23 : decode cX9_init 23 = .ok (.newarray .int, 2) := by decide +kernel
theorem dX9_init_25 : decode cX9_init 25 = .ok (.putfield 18, 3) := by decide +kernel
theorem dX9_init_28 : decode cX9_init 28 = .ok (.aload_n 0, 1) := by decide +kernel
theorem dX9_init_29 : decode cX9_init 29 = .ok (.bipush 6, 2) := by decide +kernel
theorem dX9_init_31 : decode cX9_init 31 = .ok (.newarray .int, 2) := by decide +kernel
theorem dX9_init_33 : decode cX9_init 33 = .ok (.putfield 21, 3) := by decide +kernel
theorem dX9_init_36 : decode cX9_init 36 = .ok (.aload_n 0, 1) := by decide +kernel
theorem dX9_init_37 : decode cX9_init 37 = .ok (.bipush 10, 2) := by decide +kernel
theorem dX9_init_39 : decode cX9_init 39 = .ok (.newarray .int, 2) := by decide +kernel
theorem dX9_init_41 : decode cX9_init 41 = .ok (.putfield 24, 3) := by decide +kernel
theorem dX9_init_44 : decode cX9_init 44 = .ok (.aload_n 0, 1) := by decide +kernel
theorem dX9_init_45 : decode cX9_init 45 = .ok (.bipush 10, 2) := by decide +kernel
theorem dX9_init_47 : decode cX9_init 47 = .ok (.newarray .int, 2) := by decide +kernel
theorem dX9_init_49 : decode cX9_init 49 = .ok (.putfield 27, 3) := by decide +kernel
theorem dX9_init_52 : decode cX9_init 52 = .ok (.aload_n 0, 1) := by decide +kernel
theorem dX9_init_53 : decode cX9_init 53 = .ok (.bipush 10, 2) := by decide +kernel
theorem dX9_init_55 : decode cX9_init 55 = .ok (.newarray .int, 2) := by decide +kernel
theorem dX9_init_57 : decode cX9_init 57 = .ok (.putfield 30, 3) := by decide +kernel
theorem dX9_init_60 : decode cX9_init 60 = .ok (.aload_n 0, 1) := by decide +kernel
theorem dX9_init_61 : decode cX9_init 61 = .ok (.iconst (-1), 1) := by decide +kernel
theorem dX9_init_62 : decode cX9_init 62 = .ok (.putfield 33, 3) := by decide +kernel
theorem dX9_init_65 : decode cX9_init 65 = .ok (.iconst 0, 1) := by decide +kernel
theorem dX9_init_66 : decode cX9_init 66 = .ok (.istore_n 1, 1) := by decide +kernel
theorem dX9_init_67 : decode cX9_init 67 = .ok (.iload_n 1, 1) := by decide +kernel
theorem dX9_init_68 : decode cX9_init 68 = .ok (.bipush 6, 2) := by decide +kernel
theorem dX9_init_70 : decode cX9_init 70 = .ok (.if_icmp .ge 16, 3) := by decide +kernel
theorem dX9_init_73 : decode cX9_init 73 = .ok (.aload_n 0, 1) := by decide +kernel
theorem dX9_init_74 : decode cX9_init 74 = .ok (.getfield 9, 3) := by decide +kernel
theorem dX9_init_77 : decode cX9_init 77 = .ok (.iload_n 1, 1) := by decide +kernel
theorem dX9_init_78 : decode cX9_init 78 = .ok (.iconst (-1), 1) := by decide +kernel
theorem dX9_init_79 : decode cX9_init 79 = .ok (.iastore, 1) := by decide +kernel
theorem dX9_init_80 : decode cX9_init 80 = .ok (.iinc 1 1, 3) := by decide +kernel
theorem dX9_init_83 : decode cX9_init 83 = .ok (.goto (-16), 3) := by decide +kernel
theorem dX9_init_86 : decode cX9_init 86 = .ok (.return_, 1) := by decide +kernel
theorem dX9_clear_0 : decode cX9_clear 0 = .ok (.iconst 0, 1) := by decide +kernel
theorem dX9_clear_1 : decode cX9_clear 1 = .ok (.istore_n 1, 1) := by decide +kernel
theorem dX9_clear_2 : decode cX9_clear 2 = .ok (.iload_n 1, 1) := by decide +kernel
theorem dX9_clear_3 : decode cX9_clear 3 = .ok (.bipush 6, 2) := by decide +kernel
theorem dX9_clear_5 : decode cX9_clear 5 = .ok (.if_icmp .ge 30, 3) := by decide +kernel
theorem dX9_clear_8 : decode cX9_clear 8 = .ok (.aload_n 0, 1) := by decide +kernel
theorem dX9_clear_9 : decode cX9_clear 9 = .ok (.getfield 9, 3) := by decide +kernel
theorem dX9_clear_12 : decode cX9_clear 12 = .ok (.iload_n 1, 1) := by decide +kernel
theorem dX9_clear_13 : decode cX9_clear 13 = .ok (.iconst (-1), 1) := by decide +kernel
theorem dX9_clear_14 : decode cX9_clear 14 = .ok (.iastore, 1) := by decide +kernel
theorem dX9_clear_15 : decode cX9_clear 15 = .ok (.aload_n 0, 1) := by decide +kernel
theorem dX9_clear_16 : decode cX9_clear 16 = .ok (.getfield 15, 3) := by decide +kernel
theorem dX9_clear_19 : decode cX9_clear 19 = .ok (.iload_n 1, 1) := by decide +kernel
theorem dX9_clear_20 : decode cX9_clear 20 = .ok (.iconst 0, 1) := by decide +kernel
theorem dX9_clear_21 : decode cX9_clear 21 = .ok (.iastore, 1) := by decide +kernel
theorem dX9_clear_22 : decode cX9_clear 22 = .ok (.aload_n 0, 1) := by decide +kernel
theorem dX9_clear_23 : decode cX9_clear 23 = .ok (.getfield 18, 3) := by decide +kernel
theorem dX9_clear_26 : decode cX9_clear 26 = .ok (.iload_n 1, 1) := by decide +kernel
theorem dX9_clear_27 : decode cX9_clear 27 = .ok (.iconst 0, 1) := by decide +kernel
theorem dX9_clear_28 : decode cX9_clear 28 = .ok (.iastore, 1) := by decide +kernel
theorem dX9_clear_29 : decode cX9_clear 29 = .ok (.iinc 1 1, 3) := by decide +kernel
theorem dX9_clear_32 : decode cX9_clear 32 = .ok (.goto (-30), 3) := by decide +kernel
theorem dX9_clear_35 : decode cX9_clear 35 = .ok (.aload_n 0, 1) := by decide +kernel
theorem dX9_clear_36 : decode cX9_clear 36 = .ok (.iconst 0, 1) := by decide +kernel
theorem dX9_clear_37 : decode cX9_clear 37 = .ok (.putfield 37, 3) := by decide +kernel
theorem dX9_clear_40 : decode cX9_clear 40 = .ok (.aload_n 0, 1) := by decide +kernel
theorem dX9_clear_41 : decode cX9_clear 41 = .ok (.iconst (-1), 1) := by decide +kernel
theorem dX9_clear_42 : decode cX9_clear 42 = .ok (.putfield 33, 3) := by decide +kernel
theorem dX9_clear_45 : decode cX9_clear 45 = .ok (.aload_n 0, 1) := by decide +kernel
theorem dX9_clear_46 : decode cX9_clear 46 = .ok (.iconst 0, 1) := by decide +kernel
theorem dX9_clear_47 : decode cX9_clear 47 = .ok (.putfield 40, 3) := by decide +kernel
theorem dX9_clear_50 : decode cX9_clear 50 = .ok (.return_, 1) := by decide +kernel
theorem dX9_takeBonds_0 : decode cX9_takeBonds 0 = .ok (.aload_n 1, 1) := by decide +kernel
theorem dX9_takeBonds_1 : decode cX9_takeBonds 1 = .ok (.getfield 9, 3) := by decide +kernel
theorem dX9_takeBonds_4 : decode cX9_takeBonds 4 = .ok (.iconst 0, 1) := by decide +kernel
theorem dX9_takeBonds_5 : decode cX9_takeBonds 5 = .ok (.aload_n 0, 1) := by decide +kernel
theorem dX9_takeBonds_6 : decode cX9_takeBonds 6 = .ok (.getfield 9, 3) := by decide +kernel
theorem dX9_takeBonds_9 : decode cX9_takeBonds 9 = .ok (.iconst 0, 1) := by decide +kernel
theorem dX9_takeBonds_10 : decode cX9_takeBonds 10 = .ok (.bipush 6, 2) := by decide +kernel
theorem dX9_takeBonds_12 : decode cX9_takeBonds 12 = .ok (.invokestatic 43, 3) := by decide +kernel
theorem dX9_takeBonds_15 : decode cX9_takeBonds 15 = .ok (.aload_n 1, 1) := by decide +kernel
theorem dX9_takeBonds_16 : decode cX9_takeBonds 16 = .ok (.getfield 15, 3) := by decide +kernel
theorem dX9_takeBonds_19 : decode cX9_takeBonds 19 = .ok (.iconst 0, 1) := by decide +kernel
theorem dX9_takeBonds_20 : decode cX9_takeBonds 20 = .ok (.aload_n 0, 1) := by decide +kernel
theorem dX9_takeBonds_21 : decode cX9_takeBonds 21 = .ok (.getfield 15, 3) := by decide +kernel
theorem dX9_takeBonds_24 : decode cX9_takeBonds 24 = .ok (.iconst 0, 1) := by decide +kernel
theorem dX9_takeBonds_25 : decode cX9_takeBonds 25 = .ok (.bipush 6, 2) := by decide +kernel
theorem dX9_takeBonds_27 : decode cX9_takeBonds 27 = .ok (.invokestatic 43, 3) := by decide +kernel
theorem dX9_takeBonds_30 : decode cX9_takeBonds 30 = .ok (.aload_n 1, 1) := by decide +kernel
theorem dX9_takeBonds_31 : decode cX9_takeBonds 31 = .ok (.getfield 18, 3) := by decide +kernel
theorem dX9_takeBonds_34 : decode cX9_takeBonds 34 = .ok (.iconst 0, 1) := by decide +kernel
theorem dX9_takeBonds_35 : decode cX9_takeBonds 35 = .ok (.aload_n 0, 1) := by decide +kernel
theorem dX9_takeBonds_36 : decode cX9_takeBonds 36 = .ok (.getfield 18, 3) := by decide +kernel
theorem dX9_takeBonds_39 : decode cX9_takeBonds 39 = .ok (.iconst 0, 1) := by decide +kernel
theorem dX9_takeBonds_40 : decode cX9_takeBonds 40 = .ok (.bipush 6, 2) := by decide +kernel
theorem dX9_takeBonds_42 : decode cX9_takeBonds 42 = .ok (.invokestatic 43, 3) := by decide +kernel
theorem dX9_takeBonds_45 : decode cX9_takeBonds 45 = .ok (.aload_n 0, 1) := by decide +kernel
theorem dX9_takeBonds_46 : decode cX9_takeBonds 46 = .ok (.aload_n 1, 1) := by decide +kernel
theorem dX9_takeBonds_47 : decode cX9_takeBonds 47 = .ok (.getfield 37, 3) := by decide +kernel
theorem dX9_takeBonds_50 : decode cX9_takeBonds 50 = .ok (.putfield 37, 3) := by decide +kernel
theorem dX9_takeBonds_53 : decode cX9_takeBonds 53 = .ok (.return_, 1) := by decide +kernel
theorem dX9_takeAll_0 : decode cX9_takeAll 0 = .ok (.aload_n 0, 1) := by decide +kernel
theorem dX9_takeAll_1 : decode cX9_takeAll 1 = .ok (.aload_n 1, 1) := by decide +kernel
theorem dX9_takeAll_2 : decode cX9_takeAll 2 = .ok (.invokevirtual 49, 3) := by decide +kernel
theorem dX9_takeAll_5 : decode cX9_takeAll 5 = .ok (.aload_n 1, 1) := by decide +kernel
theorem dX9_takeAll_6 : decode cX9_takeAll 6 = .ok (.getfield 21, 3) := by decide +kernel
theorem dX9_takeAll_9 : decode cX9_takeAll 9 = .ok (.iconst 0, 1) := by decide +kernel
theorem dX9_takeAll_10 : decode cX9_takeAll 10 = .ok (.aload_n 0, 1) := by decide +kernel
theorem dX9_takeAll_11 : decode cX9_takeAll 11 = .ok (.getfield 21, 3) := by decide +kernel
theorem dX9_takeAll_14 : decode cX9_takeAll 14 = .ok (.iconst 0, 1) := by decide +kernel
theorem dX9_takeAll_15 : decode cX9_takeAll 15 = .ok (.bipush 6, 2) := by decide +kernel
theorem dX9_takeAll_17 : decode cX9_takeAll 17 = .ok (.invokestatic 43, 3) := by decide +kernel
theorem dX9_takeAll_20 : decode cX9_takeAll 20 = .ok (.aload_n 1, 1) := by decide +kernel
theorem dX9_takeAll_21 : decode cX9_takeAll 21 = .ok (.getfield 24, 3) := by decide +kernel
theorem dX9_takeAll_24 : decode cX9_takeAll 24 = .ok (.iconst 0, 1) := by decide +kernel
theorem dX9_takeAll_25 : decode cX9_takeAll 25 = .ok (.aload_n 0, 1) := by decide +kernel
theorem dX9_takeAll_26 : decode cX9_takeAll 26 = .ok (.getfield 24, 3) := by decide +kernel
theorem dX9_takeAll_29 : decode cX9_takeAll 29 = .ok (.iconst 0, 1) := by decide +kernel
theorem dX9_takeAll_30 : decode cX9_takeAll 30 = .ok (.bipush 10, 2) := by decide +kernel
theorem dX9_takeAll_32 : decode cX9_takeAll 32 = .ok (.invokestatic 43, 3) := by decide +kernel
theorem dX9_takeAll_35 : decode cX9_takeAll 35 = .ok (.aload_n 1, 1) := by decide +kernel
theorem dX9_takeAll_36 : decode cX9_takeAll 36 = .ok (.getfield 27, 3) := by decide +kernel
theorem dX9_takeAll_39 : decode cX9_takeAll 39 = .ok (.iconst 0, 1) := by decide +kernel
theorem dX9_takeAll_40 : decode cX9_takeAll 40 = .ok (.aload_n 0, 1) := by decide +kernel
theorem dX9_takeAll_41 : decode cX9_takeAll 41 = .ok (.getfield 27, 3) := by decide +kernel
theorem dX9_takeAll_44 : decode cX9_takeAll 44 = .ok (.iconst 0, 1) := by decide +kernel
theorem dX9_takeAll_45 : decode cX9_takeAll 45 = .ok (.bipush 10, 2) := by decide +kernel
theorem dX9_takeAll_47 : decode cX9_takeAll 47 = .ok (.invokestatic 43, 3) := by decide +kernel
theorem dX9_takeAll_50 : decode cX9_takeAll 50 = .ok (.aload_n 1, 1) := by decide +kernel
theorem dX9_takeAll_51 : decode cX9_takeAll 51 = .ok (.getfield 30, 3) := by decide +kernel
theorem dX9_takeAll_54 : decode cX9_takeAll 54 = .ok (.iconst 0, 1) := by decide +kernel
theorem dX9_takeAll_55 : decode cX9_takeAll 55 = .ok (.aload_n 0, 1) := by decide +kernel
theorem dX9_takeAll_56 : decode cX9_takeAll 56 = .ok (.getfield 30, 3) := by decide +kernel
theorem dX9_takeAll_59 : decode cX9_takeAll 59 = .ok (.iconst 0, 1) := by decide +kernel
theorem dX9_takeAll_60 : decode cX9_takeAll 60 = .ok (.bipush 10, 2) := by decide +kernel
theorem dX9_takeAll_62 : decode cX9_takeAll 62 = .ok (.invokestatic 43, 3) := by decide +kernel
theorem dX9_takeAll_65 : decode cX9_takeAll 65 = .ok (.aload_n 0, 1) := by decide +kernel
theorem dX9_takeAll_66 : decode cX9_takeAll 66 = .ok (.aload_n 1, 1) := by decide +kernel
theorem dX9_takeAll_67 : decode cX9_takeAll 67 = .ok (.getfield 33, 3) := by decide +kernel
theorem dX9_takeAll_70 : decode cX9_takeAll 70 = .ok (.putfield 33, 3) := by decide +kernel
theorem dX9_takeAll_73 : decode cX9_takeAll 73 = .ok (.aload_n 0, 1) := by decide +kernel
theorem dX9_takeAll_74 : decode cX9_takeAll 74 = .ok (.aload_n 1, 1) := by decide +kernel
theorem dX9_takeAll_75 : decode cX9_takeAll 75 = .ok (.getfield 40, 3) := by decide +kernel
theorem dX9_takeAll_78 : decode cX9_takeAll 78 = .ok (.putfield 40, 3) := by decide +kernel
theorem dX9_takeAll_81 : decode cX9_takeAll 81 = .ok (.return_, 1) := by decide +kernel
theorem dX8_init_0 : decode cX8_init 0 = .ok (.aload_n 0, 1) := by decide +kernel
theorem dX8_init_1 : decode cX8_init 1 = .ok (.invokespecial 3, 3) := by decide +kernel
theorem dX8_init_4 : decode cX8_init 4 = .ok (.aload_n 0, 1) := by decide +kernel
theorem dX8_init_5 : decode cX8_init 5 = .ok (.sipush 1000, 3) := by decide +kernel
theorem dX8_init_8 : decode cX8_init 8 = .ok (.newarray .char, 2) := by decide +kernel
theorem dX8_init_10 : decode cX8_init 10 = .ok (.putfield 9, 3) := by decide +kernel
theorem dX8_init_13 : decode cX8_init 13 = .ok (.aload_n 0, 1) := by decide +kernel
theorem dX8_init_14 : decode cX8_init 14 = .ok (.sipush 1001, 3) := by decide +kernel
theorem dX8_init_17 : decode cX8_init 17 = .ok (.newarray .int, 2) := by decide +kernel
theorem dX8_init_19 : decode cX8_init 19 = .ok (.putfield 15, 3) := by decide +kernel
theorem dX8_init_22 : decode cX8_init 22 = .ok (.aload_n 0, 1) := by decide +kernel
theorem dX8_init_23 : decode cX8_init 23 = .ok (.sipush 1001, 3) := by decide +kernel
theorem dX8_init_26 : decode cX8_init 26 = .ok (.newarray .int, 2) := by decide +kernel
theorem dX8_init_28 : decode cX8_init 28 = .ok (.putfield 19, 3) := by decide +kernel
theorem dX8_init_31 : decode cX8_init 31 = .ok (.aload_n 0, 1) := by decide +kernel
theorem dX8_init_32 : decode cX8_init 32 = .ok (.sipush 1001, 3) := by decide +kernel
theorem dX8_init_35 : decode cX8_init 35 = .ok (.newarray .long, 2) := by decide +kernel
theorem dX8_init_37 : decode cX8_init 37 = .ok (.putfield 22, 3) := by decide +kernel
theorem dX8_init_40 : decode cX8_init 40 = .ok (.return_, 1) := by decide +kernel
theorem dX8_put_0 : decode cX8_put 0 = .ok (.iload_n 1, 1) := by decide +kernel
theorem dX8_put_1 : decode cX8_put 1 = .ok (.bipush 10, 2) := by decide +kernel
theorem dX8_put_3 : decode cX8_put 3 = .ok (.if_icmp .eq 15, 3) := by decide +kernel
theorem dX8_put_6 : decode cX8_put 6 = .ok (.iload_n 1, 1) := by decide +kernel
theorem dX8_put_7 : decode cX8_put 7 = .ok (.bipush 32, 2) := by decide +kernel
theorem dX8_put_9 : decode cX8_put 9 = .ok (.if_icmp .lt 13, 3) := by decide +kernel
theorem dX8_put_12 : decode cX8_put 12 = .ok (.iload_n 1, 1) := by decide +kernel
theorem dX8_put_13 : decode cX8_put 13 = .ok (.bipush 126, 2) := by decide +kernel
theorem dX8_put_15 : decode cX8_put 15 = .ok (.if_icmp .gt 7, 3) := by decide +kernel
theorem dX8_put_18 : decode cX8_put 18 = .ok (.iconst 1, 1) := by decide +kernel
theorem dX8_put_19 : decode cX8_put 19 = .ok (.goto 4, 3) := by decide +kernel
theorem dX8_put_22 : decode cX8_put 22 = .ok (.iconst 0, 1) := by decide +kernel
theorem dX8_put_23 : decode cX8_put 23 = .ok (.istore_n 2, 1) := by decide +kernel
theorem dX8_put_24 : decode cX8_put 24 = .ok (.iload_n 2, 1) := by decide +kernel
theorem dX8_put_25 : decode cX8_put 25 = .ok (.ifCond .eq 34, 3) := by decide +kernel
theorem dX8_put_28 : decode cX8_put 28 = .ok (.aload_n 0, 1) := by decide +kernel
theorem dX8_put_29 : decode cX8_put 29 = .ok (.getfield 26, 3) := by decide +kernel
theorem dX8_put_32 : decode cX8_put 32 = .ok (.sipush 1000, 3) := by decide +kernel
theorem dX8_put_35 : decode cX8_put 35 = .ok (.if_icmp .ge 24, 3) := by decide +kernel
theorem dX8_put_38 : decode cX8_put 38 = .ok (.aload_n 0, 1) := by decide +kernel
theorem dX8_put_39 : decode cX8_put 39 = .ok (.getfield 9, 3) := by decide +kernel
theorem dX8_put_42 : decode cX8_put 42 = .ok (.aload_n 0, 1) := by decide +kernel
theorem dX8_put_43 : decode cX8_put 43 = .ok (.getfield 26, 3) := by decide +kernel
theorem dX8_put_46 : decode cX8_put 46 = .ok (.iload_n 1, 1) := by decide +kernel
theorem dX8_put_47 : decode cX8_put 47 = .ok (.i2c, 1) := by decide +kernel
theorem dX8_put_48 : decode cX8_put 48 = .ok (.castore, 1) := by decide +kernel
theorem dX8_put_49 : decode cX8_put 49 = .ok (.aload_n 0, 1) := by decide +kernel
theorem dX8_put_50 : decode cX8_put 50 = .ok (.dup, 1) := by decide +kernel
theorem dX8_put_51 : decode cX8_put 51 = .ok (.getfield 26, 3) := by decide +kernel
theorem dX8_put_54 : decode cX8_put 54 = .ok (.iconst 1, 1) := by decide +kernel
theorem dX8_put_55 : decode cX8_put 55 = .ok (.iadd, 1) := by decide +kernel
theorem dX8_put_56 : decode cX8_put 56 = .ok (.putfield 26, 3) := by decide +kernel
theorem dX8_put_59 : decode cX8_put 59 = .ok (.return_, 1) := by decide +kernel
theorem dX8_empty_0 : decode cX8_empty 0 = .ok (.aload_n 0, 1) := by decide +kernel
theorem dX8_empty_1 : decode cX8_empty 1 = .ok (.iconst 0, 1) := by decide +kernel
theorem dX8_empty_2 : decode cX8_empty 2 = .ok (.putfield 26, 3) := by decide +kernel
theorem dX8_empty_5 : decode cX8_empty 5 = .ok (.return_, 1) := by decide +kernel
theorem dX8_begin_0 : decode cX8_begin 0 = .ok (.aload_n 0, 1) := by decide +kernel
theorem dX8_begin_1 : decode cX8_begin 1 = .ok (.iconst 0, 1) := by decide +kernel
theorem dX8_begin_2 : decode cX8_begin 2 = .ok (.putfield 30, 3) := by decide +kernel
theorem dX8_begin_5 : decode cX8_begin 5 = .ok (.iconst 0, 1) := by decide +kernel
theorem dX8_begin_6 : decode cX8_begin 6 = .ok (.istore_n 1, 1) := by decide +kernel
theorem dX8_begin_7 : decode cX8_begin 7 = .ok (.iconst 0, 1) := by decide +kernel
theorem dX8_begin_8 : decode cX8_begin 8 = .ok (.istore_n 2, 1) := by decide +kernel
theorem dX8_begin_9 : decode cX8_begin 9 = .ok (.iload_n 2, 1) := by decide +kernel
theorem dX8_begin_10 : decode cX8_begin 10 = .ok (.aload_n 0, 1) := by decide +kernel
theorem dX8_begin_11 : decode cX8_begin 11 = .ok (.getfield 26, 3) := by decide +kernel
theorem dX8_begin_14 : decode cX8_begin 14 = .ok (.if_icmp .ge 42, 3) := by decide +kernel
theorem dX8_begin_17 : decode cX8_begin 17 = .ok (.iload_n 2, 1) := by decide +kernel
theorem dX8_begin_18 : decode cX8_begin 18 = .ok (.iload_n 1, 1) := by decide +kernel
theorem dX8_begin_19 : decode cX8_begin 19 = .ok (.if_icmp .lt 31, 3) := by decide +kernel
theorem dX8_begin_22 : decode cX8_begin 22 = .ok (.aload_n 0, 1) := by decide +kernel
theorem dX8_begin_23 : decode cX8_begin 23 = .ok (.getfield 9, 3) := by decide +kernel
theorem dX8_begin_26 : decode cX8_begin 26 = .ok (.iload_n 2, 1) := by decide +kernel
theorem dX8_begin_27 : decode cX8_begin 27 = .ok (.caload, 1) := by decide +kernel
theorem dX8_begin_28 : decode cX8_begin 28 = .ok (.bipush 10, 2) := by decide +kernel
theorem dX8_begin_30 : decode cX8_begin 30 = .ok (.if_icmp .eq 20, 3) := by decide +kernel
theorem dX8_begin_33 : decode cX8_begin 33 = .ok (.aload_n 0, 1) := by decide +kernel
theorem dX8_begin_34 : decode cX8_begin 34 = .ok (.getfield 9, 3) := by decide +kernel
theorem dX8_begin_37 : decode cX8_begin 37 = .ok (.iload_n 2, 1) := by decide +kernel
theorem dX8_begin_38 : decode cX8_begin 38 = .ok (.caload, 1) := by decide +kernel
theorem dX8_begin_39 : decode cX8_begin 39 = .ok (.bipush 32, 2) := by decide +kernel
theorem dX8_begin_41 : decode cX8_begin 41 = .ok (.if_icmp .eq 9, 3) := by decide +kernel
theorem dX8_begin_44 : decode cX8_begin 44 = .ok (.aload_n 0, 1) := by decide +kernel
theorem dX8_begin_45 : decode cX8_begin 45 = .ok (.iload_n 2, 1) := by decide +kernel
theorem dX8_begin_46 : decode cX8_begin 46 = .ok (.invokevirtual 33, 3) := by decide +kernel
theorem dX8_begin_49 : decode cX8_begin 49 = .ok (.istore_n 1, 1) := by decide +kernel
theorem dX8_begin_50 : decode cX8_begin 50 = .ok (.iinc 2 1, 3) := by decide +kernel
theorem dX8_begin_53 : decode cX8_begin 53 = .ok (.goto (-44), 3) := by decide +kernel
theorem dX8_begin_56 : decode cX8_begin 56 = .ok (.aload_n 0, 1) := by decide +kernel
theorem dX8_begin_57 : decode cX8_begin 57 = .ok (.iconst 0, 1) := by decide +kernel
theorem dX8_begin_58 : decode cX8_begin 58 = .ok (.aload_n 0, 1) := by decide +kernel
theorem dX8_begin_59 : decode cX8_begin 59 = .ok (.getfield 26, 3) := by decide +kernel
theorem dX8_begin_62 : decode cX8_begin 62 = .ok (.lconst 0, 1) := by decide +kernel
theorem dX8_begin_63 : decode cX8_begin 63 = .ok (.invokevirtual 37, 3) := by decide +kernel
theorem dX8_begin_66 : decode cX8_begin 66 = .ok (.aload_n 0, 1) := by decide +kernel
theorem dX8_begin_67 : decode cX8_begin 67 = .ok (.iconst 0, 1) := by decide +kernel
theorem dX8_begin_68 : decode cX8_begin 68 = .ok (.putfield 41, 3) := by decide +kernel
theorem dX8_begin_71 : decode cX8_begin 71 = .ok (.aload_n 0, 1) := by decide +kernel
theorem dX8_begin_72 : decode cX8_begin 72 = .ok (.invokevirtual 44, 3) := by decide +kernel
theorem dX8_begin_75 : decode cX8_begin 75 = .ok (.return_, 1) := by decide +kernel
theorem dX8_advance_0 : decode cX8_advance 0 = .ok (.aload_n 0, 1) := by decide +kernel
theorem dX8_advance_1 : decode cX8_advance 1 = .ok (.aload_n 0, 1) := by decide +kernel
theorem dX8_advance_2 : decode cX8_advance 2 = .ok (.getfield 15, 3) := by decide +kernel
theorem dX8_advance_5 : decode cX8_advance 5 = .ok (.aload_n 0, 1) := by decide +kernel
theorem dX8_advance_6 : decode cX8_advance 6 = .ok (.getfield 41, 3) := by decide +kernel
theorem dX8_advance_9 : decode cX8_advance 9 = .ok (.iaload, 1) := by decide +kernel
theorem dX8_advance_10 : decode cX8_advance 10 = .ok (.putfield 47, 3) := by decide +kernel
theorem dX8_advance_13 : decode cX8_advance 13 = .ok (.aload_n 0, 1) := by decide +kernel
theorem dX8_advance_14 : decode cX8_advance 14 = .ok (.aload_n 0, 1) := by decide +kernel
theorem dX8_advance_15 : decode cX8_advance 15 = .ok (.getfield 19, 3) := by decide +kernel
theorem dX8_advance_18 : decode cX8_advance 18 = .ok (.aload_n 0, 1) := by decide +kernel
theorem dX8_advance_19 : decode cX8_advance 19 = .ok (.getfield 41, 3) := by decide +kernel
theorem dX8_advance_22 : decode cX8_advance 22 = .ok (.iaload, 1) := by decide +kernel
theorem dX8_advance_23 : decode cX8_advance 23 = .ok (.putfield 50, 3) := by decide +kernel
theorem dX8_advance_26 : decode cX8_advance 26 = .ok (.aload_n 0, 1) := by decide +kernel
theorem dX8_advance_27 : decode cX8_advance 27 = .ok (.aload_n 0, 1) := by decide +kernel
theorem dX8_advance_28 : decode cX8_advance 28 = .ok (.getfield 22, 3) := by decide +kernel
theorem dX8_advance_31 : decode cX8_advance 31 = .ok (.aload_n 0, 1) := by decide +kernel
theorem dX8_advance_32 : decode cX8_advance 32 = .ok (.getfield 41, 3) := by decide +kernel
theorem dX8_advance_35 : decode cX8_advance 35 = .ok (.laload, 1) := by decide +kernel
theorem dX8_advance_36 : decode cX8_advance 36 = .ok (.putfield 53, 3) := by decide +kernel
theorem dX8_advance_39 : decode cX8_advance 39 = .ok (.aload_n 0, 1) := by decide +kernel
theorem dX8_advance_40 : decode cX8_advance 40 = .ok (.iconst 0, 1) := by decide +kernel
theorem dX8_advance_41 : decode cX8_advance 41 = .ok (.putfield 57, 3) := by decide +kernel
theorem dX8_advance_44 : decode cX8_advance 44 = .ok (.iconst 0, 1) := by decide +kernel
theorem dX8_advance_45 : decode cX8_advance 45 = .ok (.istore_n 1, 1) := by decide +kernel
theorem dX8_advance_46 : decode cX8_advance 46 = .ok (.iload_n 1, 1) := by decide +kernel
theorem dX8_advance_47 : decode cX8_advance 47 = .ok (.bipush 8, 2) := by decide +kernel
theorem dX8_advance_49 : decode cX8_advance 49 = .ok (.if_icmp .ge 44, 3) := by decide +kernel
theorem dX8_advance_52 : decode cX8_advance 52 = .ok (.aload_n 0, 1) := by decide +kernel
theorem dX8_advance_53 : decode cX8_advance 53 = .ok (.getfield 47, 3) := by decide +kernel
theorem dX8_advance_56 : decode cX8_advance 56 = .ok (.iconst 2, 1) := by decide +kernel
theorem dX8_advance_57 : decode cX8_advance 57 = .ok (.if_icmp .ne 36, 3) := by decide +kernel
theorem dX8_advance_60 : decode cX8_advance 60 = .ok (.aload_n 0, 1) := by decide +kernel
theorem dX8_advance_61 : decode cX8_advance 61 = .ok (.dup, 1) := by decide +kernel
theorem dX8_advance_62 : decode cX8_advance 62 = .ok (.getfield 57, 3) := by decide +kernel
theorem dX8_advance_65 : decode cX8_advance 65 = .ok (.aload_n 0, 1) := by decide +kernel
theorem dX8_advance_66 : decode cX8_advance 66 = .ok (.getfield 53, 3) := by decide +kernel
theorem dX8_advance_69 : decode cX8_advance 69 = .ok (.iconst 5, 1) := by decide +kernel
theorem dX8_advance_70 : decode cX8_advance 70 = .ok (.iload_n 1, 1) := by decide +kernel
theorem dX8_advance_71 : decode cX8_advance 71 = .ok (.imul, 1) := by decide +kernel
theorem dX8_advance_72 : decode cX8_advance 72 = .ok (.lshr, 1) := by decide +kernel
theorem dX8_advance_73 : decode cX8_advance 73 = .ok (.lconst 0, 1) := by decide +kernel
theorem dX8_advance_74 : decode cX8_advance 74 = .ok (.lcmp, 1) := by decide +kernel
theorem dX8_advance_75 : decode cX8_advance 75 = .ok (.ifCond .le 7, 3) := by decide +kernel
theorem dX8_advance_78 : decode cX8_advance 78 = .ok (.iconst 1, 1) := by decide +kernel
theorem dX8_advance_79 : decode cX8_advance 79 = .ok (.goto 4, 3) := by decide +kernel
theorem dX8_advance_82 : decode cX8_advance 82 = .ok (.iconst 0, 1) := by decide +kernel
theorem dX8_advance_83 : decode cX8_advance 83 = .ok (.iadd, 1) := by decide +kernel
theorem dX8_advance_84 : decode cX8_advance 84 = .ok (.putfield 57, 3) := by decide +kernel
theorem dX8_advance_87 : decode cX8_advance 87 = .ok (.iinc 1 1, 3) := by decide +kernel
theorem dX8_advance_90 : decode cX8_advance 90 = .ok (.goto (-44), 3) := by decide +kernel
theorem dX8_advance_93 : decode cX8_advance 93 = .ok (.aload_n 0, 1) := by decide +kernel
theorem dX8_advance_94 : decode cX8_advance 94 = .ok (.aconst_null, 1) := by decide +kernel
theorem dX8_advance_95 : decode cX8_advance 95 = .ok (.putfield 60, 3) := by decide +kernel
theorem dX8_advance_98 : decode cX8_advance 98 = .ok (.iconst 0, 1) := by decide +kernel
theorem dX8_advance_99 : decode cX8_advance 99 = .ok (.istore_n 1, 1) := by decide +kernel
theorem dX8_advance_100 : decode cX8_advance 100 = .ok (.aload_n 0, 1) := by decide +kernel
theorem dX8_advance_101 : decode cX8_advance 101 = .ok (.getfield 47, 3) := by decide +kernel
theorem dX8_advance_104 : decode cX8_advance 104 = .ok (.iconst 2, 1) := by decide +kernel
theorem dX8_advance_105 : decode cX8_advance 105 = .ok (.if_icmp .ne 42, 3) := by decide +kernel
theorem dX8_advance_108 : decode cX8_advance 108 = .ok (.iload_n 1, 1) := by decide +kernel
theorem dX8_advance_109 : decode cX8_advance 109 = .ok (.getstatic 64, 3) := by decide +kernel
theorem dX8_advance_112 : decode cX8_advance 112 = .ok (.arraylength, 1) := by decide +kernel
theorem dX8_advance_113 : decode cX8_advance 113 = .ok (.if_icmp .ge 34, 3) := by decide +kernel
theorem dX8_advance_116 : decode cX8_advance 116 = .ok (.getstatic 64, 3) := by decide +kernel
theorem dX8_advance_119 : decode cX8_advance 119 = .ok (.iload_n 1, 1) := by decide +kernel
theorem dX8_advance_120 : decode cX8_advance 120 = .ok (.aaload, 1) := by decide +kernel
theorem dX8_advance_121 : decode cX8_advance 121 = .ok (.getfield 68, 3) := by decide +kernel
theorem dX8_advance_124 : decode cX8_advance 124 = .ok (.aload_n 0, 1) := by decide +kernel
theorem dX8_advance_125 : decode cX8_advance 125 = .ok (.getfield 53, 3) := by decide +kernel
theorem dX8_advance_128 : decode cX8_advance 128 = .ok (.lcmp, 1) := by decide +kernel
theorem dX8_advance_129 : decode cX8_advance 129 = .ok (.ifCond .ne 12, 3) := by decide +kernel
theorem dX8_advance_132 : decode cX8_advance 132 = .ok (.aload_n 0, 1) := by decide +kernel
theorem dX8_advance_133 : decode cX8_advance 133 = .ok (.getstatic 64, 3) := by decide +kernel
theorem dX8_advance_136 : decode cX8_advance 136 = .ok (.iload_n 1, 1) := by decide +kernel
theorem dX8_advance_137 : decode cX8_advance 137 = .ok (.aaload, 1) := by decide +kernel
theorem dX8_advance_138 : decode cX8_advance 138 = .ok (.putfield 60, 3) := by decide +kernel
theorem dX8_advance_141 : decode cX8_advance 141 = .ok (.iinc 1 1, 3) := by decide +kernel
theorem dX8_advance_144 : decode cX8_advance 144 = .ok (.goto (-44), 3) := by decide +kernel
theorem dX8_advance_147 : decode cX8_advance 147 = .ok (.aload_n 0, 1) := by decide +kernel
theorem dX8_advance_148 : decode cX8_advance 148 = .ok (.getfield 41, 3) := by decide +kernel
theorem dX8_advance_151 : decode cX8_advance 151 = .ok (.aload_n 0, 1) := by decide +kernel
theorem dX8_advance_152 : decode cX8_advance 152 = .ok (.getfield 30, 3) := by decide +kernel
theorem dX8_advance_155 : decode cX8_advance 155 = .ok (.iconst 1, 1) := by decide +kernel
theorem dX8_advance_156 : decode cX8_advance 156 = .ok (.isub, 1) := by decide +kernel
theorem dX8_advance_157 : decode cX8_advance 157 = .ok (.if_icmp .ge 13, 3) := by decide +kernel
theorem dX8_advance_160 : decode cX8_advance 160 = .ok (.aload_n 0, 1) := by decide +kernel
theorem dX8_advance_161 : decode cX8_advance 161 = .ok (.dup, 1) := by decide +kernel
theorem dX8_advance_162 : decode cX8_advance 162 = .ok (.getfield 41, 3) := by decide +kernel
theorem dX8_advance_165 : decode cX8_advance 165 = .ok (.iconst 1, 1) := by decide +kernel
theorem dX8_advance_166 : decode cX8_advance 166 = .ok (.iadd, 1) := by decide +kernel
theorem dX8_advance_167 : decode cX8_advance 167 = .ok (.putfield 41, 3) := by decide +kernel
theorem dX8_advance_170 : decode cX8_advance 170 = .ok (.return_, 1) := by decide +kernel
theorem dX8_keep_0 : decode cX8_keep 0 = .ok (.aload_n 0, 1) := by decide +kernel
theorem dX8_keep_1 : decode cX8_keep 1 = .ok (.getfield 30, 3) := by decide +kernel
theorem dX8_keep_4 : decode cX8_keep 4 = .ok (.sipush 1000, 3) := by decide +kernel
theorem dX8_keep_7 : decode cX8_keep 7 = .ok (.if_icmp .gt 43, 3) := by decide +kernel
theorem dX8_keep_10 : decode cX8_keep 10 = .ok (.aload_n 0, 1) := by decide +kernel
theorem dX8_keep_11 : decode cX8_keep 11 = .ok (.getfield 15, 3) := by decide +kernel
theorem dX8_keep_14 : decode cX8_keep 14 = .ok (.aload_n 0, 1) := by decide +kernel
theorem dX8_keep_15 : decode cX8_keep 15 = .ok (.getfield 30, 3) := by decide +kernel
theorem dX8_keep_18 : decode cX8_keep 18 = .ok (.iload_n 1, 1) := by decide +kernel
theorem dX8_keep_19 : decode cX8_keep 19 = .ok (.iastore, 1) := by decide +kernel
theorem dX8_keep_20 : decode cX8_keep 20 = .ok (.aload_n 0, 1) := by decide +kernel
theorem dX8_keep_21 : decode cX8_keep 21 = .ok (.getfield 19, 3) := by decide +kernel
theorem dX8_keep_24 : decode cX8_keep 24 = .ok (.aload_n 0, 1) := by decide +kernel
theorem dX8_keep_25 : decode cX8_keep 25 = .ok (.getfield 30, 3) := by decide +kernel
theorem dX8_keep_28 : decode cX8_keep 28 = .ok (.iload_n 2, 1) := by decide +kernel
theorem dX8_keep_29 : decode cX8_keep 29 = .ok (.iastore, 1) := by decide +kernel
theorem dX8_keep_30 : decode cX8_keep 30 = .ok (.aload_n 0, 1) := by decide +kernel
theorem dX8_keep_31 : decode cX8_keep 31 = .ok (.getfield 22, 3) := by decide +kernel
theorem dX8_keep_34 : decode cX8_keep 34 = .ok (.aload_n 0, 1) := by decide +kernel
theorem dX8_keep_35 : decode cX8_keep 35 = .ok (.getfield 30, 3) := by decide +kernel
theorem dX8_keep_38 : decode cX8_keep 38 = .ok (.lload_n 3, 1) := by decide +kernel
theorem dX8_keep_39 : decode cX8_keep 39 = .ok (.lastore, 1) := by decide +kernel
theorem dX8_keep_40 : decode cX8_keep 40 = .ok (.aload_n 0, 1) := by decide +kernel
theorem dX8_keep_41 : decode cX8_keep 41 = .ok (.dup, 1) := by decide +kernel
theorem dX8_keep_42 : decode cX8_keep 42 = .ok (.getfield 30, 3) := by decide +kernel
theorem dX8_keep_45 : decode cX8_keep 45 = .ok (.iconst 1, 1) := by decide +kernel
theorem dX8_keep_46 : decode cX8_keep 46 = .ok (.iadd, 1) := by decide +kernel
theorem dX8_keep_47 : decode cX8_keep 47 = .ok (.putfield 30, 3) := by decide +kernel
theorem dX8_keep_50 : decode cX8_keep 50 = .ok (.return_, 1) := by decide +kernel
theorem dX5_init_0 : decode cX5_init 0 = .ok (.aload_n 0, 1) := by decide +kernel
theorem dX5_init_1 : decode cX5_init 1 = .ok (.invokespecial 3, 3) := by decide +kernel
theorem dX5_init_4 : decode cX5_init 4 = .ok (.aload_n 0, 1) := by decide +kernel
theorem dX5_init_5 : decode cX5_init 5 = .ok (.bipush 6, 2) := by decide +kernel
theorem dX5_init_7 : decode cX5_init 7 = .ok (.newarray .int, 2) := by decide +kernel
theorem dX5_init_9 : decode cX5_init 9 = .ok (.putfield 9, 3) := by decide +kernel
theorem dX5_init_12 : decode cX5_init 12 = .ok (.aload_n 0, 1) := by decide +kernel
theorem dX5_init_13 : decode cX5_init 13 = .ok (.bipush 6, 2) := by decide +kernel
theorem dX5_init_15 : decode cX5_init 15 = .ok (.newarray .int, 2) := by decide +kernel
theorem dX5_init_17 : decode cX5_init 17 = .ok (.putfield 15, 3) := by decide +kernel
theorem dX5_init_20 : decode cX5_init 20 = .ok (.aload_n 0, 1) := by decide +kernel
theorem dX5_init_21 : decode cX5_init 21 = .ok (.aload_n 1, 1) := by decide +kernel
theorem dX5_init_22 : decode cX5_init 22 = .ok (.putfield 18, 3) := by decide +kernel
theorem dX5_init_25 : decode cX5_init 25 = .ok (.return_, 1) := by decide +kernel
theorem dX5_clear_0 : decode cX5_clear 0 = .ok (.aload_n 0, 1) := by decide +kernel
theorem dX5_clear_1 : decode cX5_clear 1 = .ok (.aload_n 1, 1) := by decide +kernel
theorem dX5_clear_2 : decode cX5_clear 2 = .ok (.putfield 18, 3) := by decide +kernel
theorem dX5_clear_5 : decode cX5_clear 5 = .ok (.iconst 0, 1) := by decide +kernel
theorem dX5_clear_6 : decode cX5_clear 6 = .ok (.istore_n 2, 1) := by decide +kernel
theorem dX5_clear_7 : decode cX5_clear 7 = .ok (.iload_n 2, 1) := by decide +kernel
theorem dX5_clear_8 : decode cX5_clear 8 = .ok (.bipush 6, 2) := by decide +kernel
theorem dX5_clear_10 : decode cX5_clear 10 = .ok (.if_icmp .ge 25, 3) := by decide +kernel
theorem dX5_clear_13 : decode cX5_clear 13 = .ok (.aload_n 0, 1) := by decide +kernel
theorem dX5_clear_14 : decode cX5_clear 14 = .ok (.getfield 9, 3) := by decide +kernel
theorem dX5_clear_17 : decode cX5_clear 17 = .ok (.iload_n 2, 1) := by decide +kernel
theorem dX5_clear_18 : decode cX5_clear 18 = .ok (.iconst (-1), 1) := by decide +kernel
theorem dX5_clear_19 : decode cX5_clear 19 = .ok (.iastore, 1) := by decide +kernel
theorem dX5_clear_20 : decode cX5_clear 20 = .ok (.aload_n 0, 1) := by decide +kernel
theorem dX5_clear_21 : decode cX5_clear 21 = .ok (.getfield 15, 3) := by decide +kernel
theorem dX5_clear_24 : decode cX5_clear 24 = .ok (.iload_n 2, 1) := by decide +kernel
theorem dX5_clear_25 : decode cX5_clear 25 = .ok (.iconst 1, 1) := by decide +kernel
theorem dX5_clear_26 : decode cX5_clear 26 = .ok (.iload_n 2, 1) := by decide +kernel
theorem dX5_clear_27 : decode cX5_clear 27 = .ok (.ishl, 1) := by decide +kernel
theorem dX5_clear_28 : decode cX5_clear 28 = .ok (.iastore, 1) := by decide +kernel
theorem dX5_clear_29 : decode cX5_clear 29 = .ok (.iinc 2 1, 3) := by decide +kernel
theorem dX5_clear_32 : decode cX5_clear 32 = .ok (.goto (-25), 3) := by decide +kernel
theorem dX5_clear_35 : decode cX5_clear 35 = .ok (.return_, 1) := by decide +kernel
theorem dX5_lay_0 : decode cX5_lay 0 = .ok (.aload_n 0, 1) := by decide +kernel
theorem dX5_lay_1 : decode cX5_lay 1 = .ok (.aload_n 1, 1) := by decide +kernel
theorem dX5_lay_2 : decode cX5_lay 2 = .ok (.invokevirtual 22, 3) := by decide +kernel
theorem dX5_lay_5 : decode cX5_lay 5 = .ok (.iconst 0, 1) := by decide +kernel
theorem dX5_lay_6 : decode cX5_lay 6 = .ok (.istore_n 3, 1) := by decide +kernel
theorem dX5_lay_7 : decode cX5_lay 7 = .ok (.iload_n 3, 1) := by decide +kernel
theorem dX5_lay_8 : decode cX5_lay 8 = .ok (.aload_n 1, 1) := by decide +kernel
theorem dX5_lay_9 : decode cX5_lay 9 = .ok (.getfield 26, 3) := by decide +kernel
theorem dX5_lay_12 : decode cX5_lay 12 = .ok (.if_icmp .ge 30, 3) := by decide +kernel
theorem dX5_lay_15 : decode cX5_lay 15 = .ok (.iload_n 3, 1) := by decide +kernel
theorem dX5_lay_16 : decode cX5_lay 16 = .ok (.aload_n 2, 1) := by decide +kernel
theorem dX5_lay_17 : decode cX5_lay 17 = .ok (.arraylength, 1) := by decide +kernel
theorem dX5_lay_18 : decode cX5_lay 18 = .ok (.if_icmp .ge 24, 3) := by decide +kernel
theorem dX5_lay_21 : decode cX5_lay 21 = .ok (.aload_n 2, 1) := by decide +kernel
theorem dX5_lay_22 : decode cX5_lay 22 = .ok (.iload_n 3, 1) := by decide +kernel
theorem dX5_lay_23 : decode cX5_lay 23 = .ok (.iaload, 1) := by decide +kernel
theorem dX5_lay_24 : decode cX5_lay 24 = .ok (.iconst (-1), 1) := by decide +kernel
theorem dX5_lay_25 : decode cX5_lay 25 = .ok (.if_icmp .eq 11, 3) := by decide +kernel
theorem dX5_lay_28 : decode cX5_lay 28 = .ok (.aload_n 0, 1) := by decide +kernel
theorem dX5_lay_29 : decode cX5_lay 29 = .ok (.iload_n 3, 1) := by decide +kernel
theorem dX5_lay_30 : decode cX5_lay 30 = .ok (.aload_n 2, 1) := by decide +kernel
theorem dX5_lay_31 : decode cX5_lay 31 = .ok (.iload_n 3, 1) := by decide +kernel
theorem dX5_lay_32 : decode cX5_lay 32 = .ok (.iaload, 1) := by decide +kernel
theorem dX5_lay_33 : decode cX5_lay 33 = .ok (.invokevirtual 32, 3) := by decide +kernel
theorem dX5_lay_36 : decode cX5_lay 36 = .ok (.iinc 3 1, 3) := by decide +kernel
theorem dX5_lay_39 : decode cX5_lay 39 = .ok (.goto (-32), 3) := by decide +kernel
theorem dX5_lay_42 : decode cX5_lay 42 = .ok (.return_, 1) := by decide +kernel
theorem dX5_weddings_0 : decode cX5_weddings 0 = .ok (.iconst 0, 1) := by decide +kernel
theorem dX5_weddings_1 : decode cX5_weddings 1 = .ok (.istore_n 1, 1) := by decide +kernel
theorem dX5_weddings_2 : decode cX5_weddings 2 = .ok (.iconst 0, 1) := by decide +kernel
theorem dX5_weddings_3 : decode cX5_weddings 3 = .ok (.istore_n 2, 1) := by decide +kernel
theorem dX5_weddings_4 : decode cX5_weddings 4 = .ok (.iload_n 2, 1) := by decide +kernel
theorem dX5_weddings_5 : decode cX5_weddings 5 = .ok (.aload_n 0, 1) := by decide +kernel
theorem dX5_weddings_6 : decode cX5_weddings 6 = .ok (.getfield 18, 3) := by decide +kernel
theorem dX5_weddings_9 : decode cX5_weddings 9 = .ok (.getfield 26, 3) := by decide +kernel
theorem dX5_weddings_12 : decode cX5_weddings 12 = .ok (.if_icmp .ge 22, 3) := by decide +kernel
theorem dX5_weddings_15 : decode cX5_weddings 15 = .ok (.aload_n 0, 1) := by decide +kernel
theorem dX5_weddings_16 : decode cX5_weddings 16 = .ok (.getfield 9, 3) := by decide +kernel
theorem dX5_weddings_19 : decode cX5_weddings 19 = .ok (.iload_n 2, 1) := by decide +kernel
theorem dX5_weddings_20 : decode cX5_weddings 20 = .ok (.iaload, 1) := by decide +kernel
theorem dX5_weddings_21 : decode cX5_weddings 21 = .ok (.iconst (-1), 1) := by decide +kernel
theorem dX5_weddings_22 : decode cX5_weddings 22 = .ok (.if_icmp .eq 6, 3) := by decide +kernel
theorem dX5_weddings_25 : decode cX5_weddings 25 = .ok (.iinc 1 1, 3) := by decide +kernel
theorem dX5_weddings_28 : decode cX5_weddings 28 = .ok (.iinc 2 1, 3) := by decide +kernel
theorem dX5_weddings_31 : decode cX5_weddings 31 = .ok (.goto (-27), 3) := by decide +kernel
theorem dX5_weddings_34 : decode cX5_weddings 34 = .ok (.iload_n 1, 1) := by decide +kernel
theorem dX5_weddings_35 : decode cX5_weddings 35 = .ok (.ireturn, 1) := by decide +kernel
theorem dX5_dryMills_0 : decode cX5_dryMills 0 = .ok (.iconst 0, 1) := by decide +kernel
theorem dX5_dryMills_1 : decode cX5_dryMills 1 = .ok (.istore_n 2, 1) := by decide +kernel
theorem dX5_dryMills_2 : decode cX5_dryMills 2 = .ok (.iconst 0, 1) := by decide +kernel
theorem dX5_dryMills_3 : decode cX5_dryMills 3 = .ok (.istore_n 3, 1) := by decide +kernel
theorem dX5_dryMills_4 : decode cX5_dryMills 4 = .ok (.iload_n 3, 1) := by decide +kernel
theorem dX5_dryMills_5 : decode cX5_dryMills 5 = .ok (.aload_n 0, 1) := by decide +kernel
theorem dX5_dryMills_6 : decode cX5_dryMills 6 = .ok (.getfield 18, 3) := by decide +kernel
theorem dX5_dryMills_9 : decode cX5_dryMills 9 = .ok (.getfield 26, 3) := by decide +kernel
theorem dX5_dryMills_12 : decode cX5_dryMills 12 = .ok (.if_icmp .ge 61, 3) := by decide +kernel
theorem dX5_dryMills_15 : decode cX5_dryMills 15 = .ok (.aload_n 0, 1) := by decide +kernel
theorem dX5_dryMills_16 : decode cX5_dryMills 16 = .ok (.getfield 18, 3) := by decide +kernel
theorem dX5_dryMills_19 : decode cX5_dryMills 19 = .ok (.getfield 43, 3) := by decide +kernel
theorem dX5_dryMills_22 : decode cX5_dryMills 22 = .ok (.iload_n 3, 1) := by decide +kernel
theorem dX5_dryMills_23 : decode cX5_dryMills 23 = .ok (.aaload, 1) := by decide +kernel
theorem dX5_dryMills_24 : decode cX5_dryMills 24 = .ok (.astore 4, 2) := by decide +kernel
theorem dX5_dryMills_26 : decode cX5_dryMills 26 = .ok (.aload 4, 2) := by decide +kernel
theorem dX5_dryMills_28 : decode cX5_dryMills 28 = .ok (.getfield 55, 3) := by decide +kernel
theorem dX5_dryMills_31 : decode cX5_dryMills 31 = .ok (.iconst (-1), 1) := by decide +kernel
theorem dX5_dryMills_32 : decode cX5_dryMills 32 = .ok (.if_icmp .eq 35, 3) := by decide +kernel
theorem dX5_dryMills_35 : decode cX5_dryMills 35 = .ok (.aload 4, 2) := by decide +kernel
theorem dX5_dryMills_37 : decode cX5_dryMills 37 = .ok (.getfield 58, 3) := by decide +kernel
theorem dX5_dryMills_40 : decode cX5_dryMills 40 = .ok (.aload_n 0, 1) := by decide +kernel
theorem dX5_dryMills_41 : decode cX5_dryMills 41 = .ok (.getfield 18, 3) := by decide +kernel
theorem dX5_dryMills_44 : decode cX5_dryMills 44 = .ok (.aload_n 0, 1) := by decide +kernel
theorem dX5_dryMills_45 : decode cX5_dryMills 45 = .ok (.iload_n 3, 1) := by decide +kernel
theorem dX5_dryMills_46 : decode cX5_dryMills 46 = .ok (.aload 4, 2) := by decide +kernel
theorem dX5_dryMills_48 : decode cX5_dryMills 48 = .ok (.getfield 55, 3) := by decide +kernel
theorem dX5_dryMills_51 : decode cX5_dryMills 51 = .ok (.invokevirtual 61, 3) := by decide +kernel
theorem dX5_dryMills_54 : decode cX5_dryMills 54 = .ok (.iload_n 1, 1) := by decide +kernel
theorem dX5_dryMills_55 : decode cX5_dryMills 55 = .ok (.invokevirtual 65, 3) := by decide +kernel
theorem dX5_dryMills_58 : decode cX5_dryMills 58 = .ok (.if_icmp .le 9, 3) := by decide +kernel
theorem dX5_dryMills_61 : decode cX5_dryMills 61 = .ok (.iload_n 2, 1) := by decide +kernel
theorem dX5_dryMills_62 : decode cX5_dryMills 62 = .ok (.iconst 1, 1) := by decide +kernel
theorem dX5_dryMills_63 : decode cX5_dryMills 63 = .ok (.iload_n 3, 1) := by decide +kernel
theorem dX5_dryMills_64 : decode cX5_dryMills 64 = .ok (.ishl, 1) := by decide +kernel
theorem dX5_dryMills_65 : decode cX5_dryMills 65 = .ok (.ior, 1) := by decide +kernel
theorem dX5_dryMills_66 : decode cX5_dryMills 66 = .ok (.istore_n 2, 1) := by decide +kernel
theorem dX5_dryMills_67 : decode cX5_dryMills 67 = .ok (.iinc 3 1, 3) := by decide +kernel
theorem dX5_dryMills_70 : decode cX5_dryMills 70 = .ok (.goto (-66), 3) := by decide +kernel
theorem dX5_dryMills_73 : decode cX5_dryMills 73 = .ok (.iload_n 2, 1) := by decide +kernel
theorem dX5_dryMills_74 : decode cX5_dryMills 74 = .ok (.ireturn, 1) := by decide +kernel
theorem dX5_floodedTowns_0 : decode cX5_floodedTowns 0 = .ok (.iconst 0, 1) := by decide +kernel
theorem dX5_floodedTowns_1 : decode cX5_floodedTowns 1 = .ok (.istore_n 2, 1) := by decide +kernel
theorem dX5_floodedTowns_2 : decode cX5_floodedTowns 2 = .ok (.iconst 0, 1) := by decide +kernel
theorem dX5_floodedTowns_3 : decode cX5_floodedTowns 3 = .ok (.istore_n 3, 1) := by decide +kernel
theorem dX5_floodedTowns_4 : decode cX5_floodedTowns 4 = .ok (.iload_n 3, 1) := by decide +kernel
theorem dX5_floodedTowns_5 : decode cX5_floodedTowns 5 = .ok (.aload_n 0, 1) := by decide +kernel
theorem dX5_floodedTowns_6 : decode cX5_floodedTowns 6 = .ok (.getfield 18, 3) := by decide +kernel
theorem dX5_floodedTowns_9 : decode cX5_floodedTowns 9 = .ok (.getfield 26, 3) := by decide +kernel
theorem dX5_floodedTowns_12 : decode cX5_floodedTowns 12 = .ok (.if_icmp .ge 61, 3) := by decide +kernel
theorem dX5_floodedTowns_15 : decode cX5_floodedTowns 15 = .ok (.aload_n 0, 1) := by decide +kernel
theorem dX5_floodedTowns_16 : decode cX5_floodedTowns 16 = .ok (.getfield 18, 3) := by decide +kernel
theorem dX5_floodedTowns_19 : decode cX5_floodedTowns 19 = .ok (.getfield 43, 3) := by decide +kernel
theorem dX5_floodedTowns_22 : decode cX5_floodedTowns 22 = .ok (.iload_n 3, 1) := by decide +kernel
theorem dX5_floodedTowns_23 : decode cX5_floodedTowns 23 = .ok (.aaload, 1) := by decide +kernel
theorem dX5_floodedTowns_24 : decode cX5_floodedTowns 24 = .ok (.astore 4, 2) := by decide +kernel
theorem dX5_floodedTowns_26 : decode cX5_floodedTowns 26 = .ok (.aload 4, 2) := by decide +kernel
theorem dX5_floodedTowns_28 : decode cX5_floodedTowns 28 = .ok (.getfield 68, 3) := by decide +kernel
theorem dX5_floodedTowns_31 : decode cX5_floodedTowns 31 = .ok (.iconst (-1), 1) := by decide +kernel
theorem dX5_floodedTowns_32 : decode cX5_floodedTowns 32 = .ok (.if_icmp .eq 35, 3) := by decide +kernel
theorem dX5_floodedTowns_35 : decode cX5_floodedTowns 35 = .ok (.aload 4, 2) := by decide +kernel
theorem dX5_floodedTowns_37 : decode cX5_floodedTowns 37 = .ok (.getfield 71, 3) := by decide +kernel
theorem dX5_floodedTowns_40 : decode cX5_floodedTowns 40 = .ok (.aload_n 0, 1) := by decide +kernel
theorem dX5_floodedTowns_41 : decode cX5_floodedTowns 41 = .ok (.getfield 18, 3) := by decide +kernel
theorem dX5_floodedTowns_44 : decode cX5_floodedTowns 44 = .ok (.aload_n 0, 1) := by decide +kernel
theorem dX5_floodedTowns_45 : decode cX5_floodedTowns 45 = .ok (.iload_n 3, 1) := by decide +kernel
theorem dX5_floodedTowns_46 : decode cX5_floodedTowns 46 = .ok (.aload 4, 2) := by decide +kernel
theorem dX5_floodedTowns_48 : decode cX5_floodedTowns 48 = .ok (.getfield 68, 3) := by decide +kernel
theorem dX5_floodedTowns_51 : decode cX5_floodedTowns 51 = .ok (.invokevirtual 61, 3) := by decide +kernel
theorem dX5_floodedTowns_54 : decode cX5_floodedTowns 54 = .ok (.iload_n 1, 1) := by decide +kernel
theorem dX5_floodedTowns_55 : decode cX5_floodedTowns 55 = .ok (.invokevirtual 65, 3) := by decide +kernel
theorem dX5_floodedTowns_58 : decode cX5_floodedTowns 58 = .ok (.if_icmp .ge 9, 3) := by decide +kernel
theorem dX5_floodedTowns_61 : decode cX5_floodedTowns 61 = .ok (.iload_n 2, 1) := by decide +kernel
theorem dX5_floodedTowns_62 : decode cX5_floodedTowns 62 = .ok (.iconst 1, 1) := by decide +kernel
theorem dX5_floodedTowns_63 : decode cX5_floodedTowns 63 = .ok (.iload_n 3, 1) := by decide +kernel
theorem dX5_floodedTowns_64 : decode cX5_floodedTowns 64 = .ok (.ishl, 1) := by decide +kernel
theorem dX5_floodedTowns_65 : decode cX5_floodedTowns 65 = .ok (.ior, 1) := by decide +kernel
theorem dX5_floodedTowns_66 : decode cX5_floodedTowns 66 = .ok (.istore_n 2, 1) := by decide +kernel
theorem dX5_floodedTowns_67 : decode cX5_floodedTowns 67 = .ok (.iinc 3 1, 3) := by decide +kernel
theorem dX5_floodedTowns_70 : decode cX5_floodedTowns 70 = .ok (.goto (-66), 3) := by decide +kernel
theorem dX5_floodedTowns_73 : decode cX5_floodedTowns 73 = .ok (.iload_n 2, 1) := by decide +kernel
theorem dX5_floodedTowns_74 : decode cX5_floodedTowns 74 = .ok (.ireturn, 1) := by decide +kernel
theorem dX5_isNeedy_0 : decode cX5_isNeedy 0 = .ok (.aload_n 0, 1) := by decide +kernel
theorem dX5_isNeedy_1 : decode cX5_isNeedy 1 = .ok (.iload_n 1, 1) := by decide +kernel
theorem dX5_isNeedy_2 : decode cX5_isNeedy 2 = .ok (.invokevirtual 74, 3) := by decide +kernel
theorem dX5_isNeedy_5 : decode cX5_isNeedy 5 = .ok (.ifCond .ne 11, 3) := by decide +kernel
theorem dX5_isNeedy_8 : decode cX5_isNeedy 8 = .ok (.aload_n 0, 1) := by decide +kernel
theorem dX5_isNeedy_9 : decode cX5_isNeedy 9 = .ok (.iload_n 1, 1) := by decide +kernel
theorem dX5_isNeedy_10 : decode cX5_isNeedy 10 = .ok (.invokevirtual 78, 3) := by decide +kernel
theorem dX5_isNeedy_13 : decode cX5_isNeedy 13 = .ok (.ifCond .eq 7, 3) := by decide +kernel
theorem dX5_isNeedy_16 : decode cX5_isNeedy 16 = .ok (.iconst 1, 1) := by decide +kernel
theorem dX5_isNeedy_17 : decode cX5_isNeedy 17 = .ok (.goto 4, 3) := by decide +kernel
theorem dX5_isNeedy_20 : decode cX5_isNeedy 20 = .ok (.iconst 0, 1) := by decide +kernel
theorem dX5_isNeedy_21 : decode cX5_isNeedy 21 = .ok (.ireturn, 1) := by decide +kernel
theorem dX10_init_0 : decode cX10_init 0 = .ok (.aload_n 0, 1) := by decide +kernel
theorem dX10_init_1 : decode cX10_init 1 = .ok (.invokespecial 3, 3) := by decide +kernel
theorem dX10_init_4 : decode cX10_init 4 = .ok (.aload_n 0, 1) := by decide +kernel
theorem dX10_init_5 : decode cX10_init 5 = .ok (.bipush 6, 2) := by decide +kernel
theorem dX10_init_7 : decode cX10_init 7 = .ok (.newarray .int, 2) := by decide +kernel
theorem dX10_init_9 : decode cX10_init 9 = .ok (.putfield 9, 3) := by decide +kernel
theorem dX10_init_12 : decode cX10_init 12 = .ok (.aload_n 0, 1) := by decide +kernel
theorem dX10_init_13 : decode cX10_init 13 = .ok (.aload_n 1, 1) := by decide +kernel
theorem dX10_init_14 : decode cX10_init 14 = .ok (.putfield 15, 3) := by decide +kernel
theorem dX10_init_17 : decode cX10_init 17 = .ok (.return_, 1) := by decide +kernel
theorem dX10_refresh_0 : decode cX10_refresh 0 = .ok (.aload_n 0, 1) := by decide +kernel
theorem dX10_refresh_1 : decode cX10_refresh 1 = .ok (.getfield 19, 3) := by decide +kernel
theorem dX10_refresh_4 : decode cX10_refresh 4 = .ok (.ifCond .eq 4, 3) := by decide +kernel
theorem dX10_refresh_7 : decode cX10_refresh 7 = .ok (.return_, 1) := by decide +kernel
theorem dX10_refresh_8 : decode cX10_refresh 8 = .ok (.aload_n 0, 1) := by decide +kernel
theorem dX10_refresh_9 : decode cX10_refresh 9 = .ok (.iconst 0, 1) := by decide +kernel
theorem dX10_refresh_10 : decode cX10_refresh 10 = .ok (.putfield 23, 3) := by decide +kernel
theorem dX10_refresh_13 : decode cX10_refresh 13 = .ok (.aload_n 0, 1) := by decide +kernel
theorem dX10_refresh_14 : decode cX10_refresh 14 = .ok (.getfield 15, 3) := by decide +kernel
theorem dX10_refresh_17 : decode cX10_refresh 17 = .ok (.aload_n 1, 1) := by decide +kernel
theorem dX10_refresh_18 : decode cX10_refresh 18 = .ok (.invokevirtual 27, 3) := by decide +kernel
theorem dX10_refresh_21 : decode cX10_refresh 21 = .ok (.aload_n 0, 1) := by decide +kernel
theorem dX10_refresh_22 : decode cX10_refresh 22 = .ok (.invokevirtual 33, 3) := by decide +kernel
theorem dX10_refresh_25 : decode cX10_refresh 25 = .ok (.aload_n 0, 1) := by decide +kernel
theorem dX10_refresh_26 : decode cX10_refresh 26 = .ok (.iconst 0, 1) := by decide +kernel
theorem dX10_refresh_27 : decode cX10_refresh 27 = .ok (.iconst 0, 1) := by decide +kernel
theorem dX10_refresh_28 : decode cX10_refresh 28 = .ok (.iconst 0, 1) := by decide +kernel
theorem dX10_refresh_29 : decode cX10_refresh 29 = .ok (.invokevirtual 36, 3) := by decide +kernel
theorem dX10_refresh_32 : decode cX10_refresh 32 = .ok (.aload_n 0, 1) := by decide +kernel
theorem dX10_refresh_33 : decode cX10_refresh 33 = .ok (.invokevirtual 40, 3) := by decide +kernel
theorem dX10_refresh_36 : decode cX10_refresh 36 = .ok (.aload_n 0, 1) := by decide +kernel
theorem dX10_refresh_37 : decode cX10_refresh 37 = .ok (.iconst 1, 1) := by decide +kernel
theorem dX10_refresh_38 : decode cX10_refresh 38 = .ok (.putfield 19, 3) := by decide +kernel
theorem dX10_refresh_41 : decode cX10_refresh 41 = .ok (.return_, 1) := by decide +kernel
theorem dX10_search_0 : decode cX10_search 0 = .ok (.iload_n 1, 1) := by decide +kernel
theorem dX10_search_1 : decode cX10_search 1 = .ok (.aload_n 0, 1) := by decide +kernel
theorem dX10_search_2 : decode cX10_search 2 = .ok (.getfield 15, 3) := by decide +kernel
theorem dX10_search_5 : decode cX10_search 5 = .ok (.getfield 43, 3) := by decide +kernel
theorem dX10_search_8 : decode cX10_search 8 = .ok (.getfield 47, 3) := by decide +kernel
theorem dX10_search_11 : decode cX10_search 11 = .ok (.if_icmp .lt 10, 3) := by decide +kernel
theorem dX10_search_14 : decode cX10_search 14 = .ok (.aload_n 0, 1) := by decide +kernel
theorem dX10_search_15 : decode cX10_search 15 = .ok (.iload_n 2, 1) := by decide +kernel
theorem dX10_search_16 : decode cX10_search 16 = .ok (.iload_n 3, 1) := by decide +kernel
theorem dX10_search_17 : decode cX10_search 17 = .ok (.invokevirtual 52, 3) := by decide +kernel
theorem dX10_search_20 : decode cX10_search 20 = .ok (.return_, 1) := by decide +kernel
theorem dX10_search_21 : decode cX10_search 21 = .ok (.aload_n 0, 1) := by decide +kernel
theorem dX10_search_22 : decode cX10_search 22 = .ok (.iload_n 1, 1) := by decide +kernel
theorem dX10_search_23 : decode cX10_search 23 = .ok (.iconst 1, 1) := by decide +kernel
theorem dX10_search_24 : decode cX10_search 24 = .ok (.iadd, 1) := by decide +kernel
theorem dX10_search_25 : decode cX10_search 25 = .ok (.iload_n 2, 1) := by decide +kernel
theorem dX10_search_26 : decode cX10_search 26 = .ok (.iload_n 3, 1) := by decide +kernel
theorem dX10_search_27 : decode cX10_search 27 = .ok (.invokevirtual 36, 3) := by decide +kernel
theorem dX10_search_30 : decode cX10_search 30 = .ok (.iconst 0, 1) := by decide +kernel
theorem dX10_search_31 : decode cX10_search 31 = .ok (.istore 4, 2) := by decide +kernel
theorem dX10_search_33 : decode cX10_search 33 = .ok (.iload 4, 2) := by decide +kernel
theorem dX10_search_35 : decode cX10_search 35 = .ok (.aload_n 0, 1) := by decide +kernel
theorem dX10_search_36 : decode cX10_search 36 = .ok (.getfield 15, 3) := by decide +kernel
theorem dX10_search_39 : decode cX10_search 39 = .ok (.getfield 43, 3) := by decide +kernel
theorem dX10_search_42 : decode cX10_search 42 = .ok (.getfield 47, 3) := by decide +kernel
theorem dX10_search_45 : decode cX10_search 45 = .ok (.if_icmp .ge 66, 3) := by decide +kernel
theorem dX10_search_48 : decode cX10_search 48 = .ok (.aload_n 0, 1) := by decide +kernel
theorem dX10_search_49 : decode cX10_search 49 = .ok (.getfield 15, 3) := by decide +kernel
theorem dX10_search_52 : decode cX10_search 52 = .ok (.iload_n 1, 1) := by decide +kernel
theorem dX10_search_53 : decode cX10_search 53 = .ok (.iload 4, 2) := by decide +kernel
theorem dX10_search_55 : decode cX10_search 55 = .ok (.invokevirtual 56, 3) := by decide +kernel
theorem dX10_search_58 : decode cX10_search 58 = .ok (.ifCond .eq 47, 3) := by decide +kernel
theorem dX10_search_61 : decode cX10_search 61 = .ok (.aload_n 0, 1) := by decide +kernel
theorem dX10_search_62 : decode cX10_search 62 = .ok (.getfield 15, 3) := by decide +kernel
theorem dX10_search_65 : decode cX10_search 65 = .ok (.iload_n 1, 1) := by decide +kernel
theorem dX10_search_66 : decode cX10_search 66 = .ok (.iload 4, 2) := by decide +kernel
theorem dX10_search_68 : decode cX10_search 68 = .ok (.invokevirtual 60, 3) := by decide +kernel
theorem dX10_search_71 : decode cX10_search 71 = .ok (.aload_n 0, 1) := by decide +kernel
theorem dX10_search_72 : decode cX10_search 72 = .ok (.iload_n 1, 1) := by decide +kernel
theorem dX10_search_73 : decode cX10_search 73 = .ok (.iconst 1, 1) := by decide +kernel
theorem dX10_search_74 : decode cX10_search 74 = .ok (.iadd, 1) := by decide +kernel
theorem dX10_search_75 : decode cX10_search 75 = .ok (.iload_n 2, 1) := by decide +kernel
theorem dX10_search_76 : decode cX10_search 76 = .ok (.aload_n 0, 1) := by decide +kernel
theorem dX10_search_77 : decode cX10_search 77 = .ok (.getfield 15, 3) := by decide +kernel
theorem dX10_search_80 : decode cX10_search 80 = .ok (.getfield 43, 3) := by decide +kernel
theorem dX10_search_83 : decode cX10_search 83 = .ok (.iload_n 1, 1) := by decide +kernel
theorem dX10_search_84 : decode cX10_search 84 = .ok (.iload 4, 2) := by decide +kernel
theorem dX10_search_86 : decode cX10_search 86 = .ok (.invokevirtual 63, 3) := by decide +kernel
theorem dX10_search_89 : decode cX10_search 89 = .ok (.iadd, 1) := by decide +kernel
theorem dX10_search_90 : decode cX10_search 90 = .ok (.iload_n 3, 1) := by decide +kernel
theorem dX10_search_91 : decode cX10_search 91 = .ok (.iconst 1, 1) := by decide +kernel
theorem dX10_search_92 : decode cX10_search 92 = .ok (.iadd, 1) := by decide +kernel
theorem dX10_search_93 : decode cX10_search 93 = .ok (.invokevirtual 36, 3) := by decide +kernel
theorem dX10_search_96 : decode cX10_search 96 = .ok (.aload_n 0, 1) := by decide +kernel
theorem dX10_search_97 : decode cX10_search 97 = .ok (.getfield 15, 3) := by decide +kernel
theorem dX10_search_100 : decode cX10_search 100 = .ok (.iload_n 1, 1) := by decide +kernel
theorem dX10_search_101 : decode cX10_search 101 = .ok (.invokevirtual 67, 3) := by decide +kernel
theorem dX10_search_104 : decode cX10_search 104 = .ok (.pop, 1) := by decide +kernel
theorem dX10_search_105 : decode cX10_search 105 = .ok (.iinc 4 1, 3) := by decide +kernel
theorem dX10_search_108 : decode cX10_search 108 = .ok (.goto (-75), 3) := by decide +kernel
theorem dX10_search_111 : decode cX10_search 111 = .ok (.return_, 1) := by decide +kernel
theorem dX4_init_0 : decode cX4_init 0 = .ok (.aload_n 0, 1) := by decide +kernel
theorem dX4_init_1 : decode cX4_init 1 = .ok (.aload_n 1, 1) := by decide +kernel
theorem dX4_init_2 : decode cX4_init 2 = .ok (.invokespecial 3, 3) := by decide +kernel
theorem dX4_init_5 : decode cX4_init 5 = .ok (.return_, 1) := by decide +kernel
theorem dX4_begin_0 : decode cX4_begin 0 = .ok (.aload_n 0, 1) := by decide +kernel
theorem dX4_begin_1 : decode cX4_begin 1 = .ok (.iconst 0, 1) := by decide +kernel
theorem dX4_begin_2 : decode cX4_begin 2 = .ok (.putfield 9, 3) := by decide +kernel
theorem dX4_begin_5 : decode cX4_begin 5 = .ok (.aload_n 0, 1) := by decide +kernel
theorem dX4_begin_6 : decode cX4_begin 6 = .ok (.iconst 0, 1) := by decide +kernel
theorem dX4_begin_7 : decode cX4_begin 7 = .ok (.putfield 15, 3) := by decide +kernel
theorem dX4_begin_10 : decode cX4_begin 10 = .ok (.return_, 1) := by decide +kernel
theorem dX4_note_0 : decode cX4_note 0 = .ok (.aload_n 0, 1) := by decide +kernel
theorem dX4_note_1 : decode cX4_note 1 = .ok (.getfield 18, 3) := by decide +kernel
theorem dX4_note_4 : decode cX4_note 4 = .ok (.bipush 8, 2) := by decide +kernel
theorem dX4_note_6 : decode cX4_note 6 = .ok (.invokevirtual 24, 3) := by decide +kernel
theorem dX4_note_9 : decode cX4_note 9 = .ok (.ifCond .ne 15, 3) := by decide +kernel
theorem dX4_note_12 : decode cX4_note 12 = .ok (.aload_n 0, 1) := by decide +kernel
theorem dX4_note_13 : decode cX4_note 13 = .ok (.getfield 18, 3) := by decide +kernel
theorem dX4_note_16 : decode cX4_note 16 = .ok (.bipush 9, 2) := by decide +kernel
theorem dX4_note_18 : decode cX4_note 18 = .ok (.invokevirtual 30, 3) := by decide +kernel
theorem dX4_note_21 : decode cX4_note 21 = .ok (.ifCond .eq 4, 3) := by decide +kernel
theorem dX4_note_24 : decode cX4_note 24 = .ok (.return_, 1) := by decide +kernel
theorem dX4_note_25 : decode cX4_note 25 = .ok (.iload_n 1, 1) := by decide +kernel
theorem dX4_note_26 : decode cX4_note 26 = .ok (.aload_n 0, 1) := by decide +kernel
theorem dX4_note_27 : decode cX4_note 27 = .ok (.getfield 9, 3) := by decide +kernel
theorem dX4_note_30 : decode cX4_note 30 = .ok (.if_icmp .lt 19, 3) := by decide +kernel
theorem dX4_note_33 : decode cX4_note 33 = .ok (.iload_n 1, 1) := by decide +kernel
theorem dX4_note_34 : decode cX4_note 34 = .ok (.aload_n 0, 1) := by decide +kernel
theorem dX4_note_35 : decode cX4_note 35 = .ok (.getfield 9, 3) := by decide +kernel
theorem dX4_note_38 : decode cX4_note 38 = .ok (.if_icmp .ne 15, 3) := by decide +kernel
theorem dX4_note_41 : decode cX4_note 41 = .ok (.iload_n 2, 1) := by decide +kernel
theorem dX4_note_42 : decode cX4_note 42 = .ok (.aload_n 0, 1) := by decide +kernel
theorem dX4_note_43 : decode cX4_note 43 = .ok (.getfield 15, 3) := by decide +kernel
theorem dX4_note_46 : decode cX4_note 46 = .ok (.if_icmp .ge 7, 3) := by decide +kernel
theorem dX4_note_49 : decode cX4_note 49 = .ok (.iconst 1, 1) := by decide +kernel
theorem dX4_note_50 : decode cX4_note 50 = .ok (.goto 4, 3) := by decide +kernel
theorem dX4_note_53 : decode cX4_note 53 = .ok (.iconst 0, 1) := by decide +kernel
theorem dX4_note_54 : decode cX4_note 54 = .ok (.istore_n 3, 1) := by decide +kernel
theorem dX4_note_55 : decode cX4_note 55 = .ok (.aload_n 0, 1) := by decide +kernel
theorem dX4_note_56 : decode cX4_note 56 = .ok (.getfield 33, 3) := by decide +kernel
theorem dX4_note_59 : decode cX4_note 59 = .ok (.ifCond .eq 7, 3) := by decide +kernel
theorem dX4_note_62 : decode cX4_note 62 = .ok (.iload_n 3, 1) := by decide +kernel
theorem dX4_note_63 : decode cX4_note 63 = .ok (.ifCond .eq 31, 3) := by decide +kernel
theorem dX4_note_66 : decode cX4_note 66 = .ok (.aload_n 0, 1) := by decide +kernel
theorem dX4_note_67 : decode cX4_note 67 = .ok (.iload_n 1, 1) := by decide +kernel
theorem dX4_note_68 : decode cX4_note 68 = .ok (.putfield 9, 3) := by decide +kernel
theorem dX4_note_71 : decode cX4_note 71 = .ok (.aload_n 0, 1) := by decide +kernel
theorem dX4_note_72 : decode cX4_note 72 = .ok (.iload_n 2, 1) := by decide +kernel
theorem dX4_note_73 : decode cX4_note 73 = .ok (.putfield 15, 3) := by decide +kernel
theorem dX4_note_76 : decode cX4_note 76 = .ok (.aload_n 0, 1) := by decide +kernel
theorem dX4_note_77 : decode cX4_note 77 = .ok (.getfield 18, 3) := by decide +kernel
theorem dX4_note_80 : decode cX4_note 80 = .ok (.getfield 36, 3) := by decide +kernel
theorem dX4_note_83 : decode cX4_note 83 = .ok (.iconst 0, 1) := by decide +kernel
theorem dX4_note_84 : decode cX4_note 84 = .ok (.aload_n 0, 1) := by decide +kernel
theorem dX4_note_85 : decode cX4_note 85 = .ok (.getfield 40, 3) := by decide +kernel
theorem dX4_note_88 : decode cX4_note 88 = .ok (.iconst 0, 1) := by decide +kernel
theorem dX4_note_89 : decode cX4_note 89 = .ok (.bipush 6, 2) := by decide +kernel
theorem dX4_note_91 : decode cX4_note 91 = .ok (.invokestatic 41, 3) := by decide +kernel
theorem dX4_note_94 : decode cX4_note 94 = .ok (.aload_n 0, 1) := by decide +kernel
theorem dX4_note_95 : decode cX4_note 95 = .ok (.dup, 1) := by decide +kernel
theorem dX4_note_96 : decode cX4_note 96 = .ok (.getfield 33, 3) := by decide +kernel
theorem dX4_note_99 : decode cX4_note 99 = .ok (.iconst 1, 1) := by decide +kernel
theorem dX4_note_100 : decode cX4_note 100 = .ok (.iadd, 1) := by decide +kernel
theorem dX4_note_101 : decode cX4_note 101 = .ok (.putfield 33, 3) := by decide +kernel
theorem dX4_note_104 : decode cX4_note 104 = .ok (.return_, 1) := by decide +kernel
theorem dX4_end_0 : decode cX4_end 0 = .ok (.return_, 1) := by decide +kernel
theorem dX1_init_0 : decode cX1_init 0 = .ok (.aload_n 0, 1) := by decide +kernel
theorem dX1_init_1 : decode cX1_init 1 = .ok (.aload_n 1, 1) := by decide +kernel
theorem dX1_init_2 : decode cX1_init 2 = .ok (.invokespecial 3, 3) := by decide +kernel
theorem dX1_init_5 : decode cX1_init 5 = .ok (.aload_n 0, 1) := by decide +kernel
theorem dX1_init_6 : decode cX1_init 6 = .ok (.sipush 384, 3) := by decide +kernel
theorem dX1_init_9 : decode cX1_init 9 = .ok (.newarray .int, 2) := by decide +kernel
theorem dX1_init_11 : decode cX1_init 11 = .ok (.putfield 9, 3) := by decide +kernel
theorem dX1_init_14 : decode cX1_init 14 = .ok (.aload_n 0, 1) := by decide +kernel
theorem dX1_init_15 : decode cX1_init 15 = .ok (.aload_n 2, 1) := by decide +kernel
theorem dX1_init_16 : decode cX1_init 16 = .ok (.putfield 15, 3) := by decide +kernel
theorem dX1_init_19 : decode cX1_init 19 = .ok (.return_, 1) := by decide +kernel
theorem dX1_begin_0 : decode cX1_begin 0 = .ok (.iconst 0, 1) := by decide +kernel
theorem dX1_begin_1 : decode cX1_begin 1 = .ok (.istore_n 1, 1) := by decide +kernel
theorem dX1_begin_2 : decode cX1_begin 2 = .ok (.iload_n 1, 1) := by decide +kernel
theorem dX1_begin_3 : decode cX1_begin 3 = .ok (.aload_n 0, 1) := by decide +kernel
theorem dX1_begin_4 : decode cX1_begin 4 = .ok (.getfield 9, 3) := by decide +kernel
theorem dX1_begin_7 : decode cX1_begin 7 = .ok (.arraylength, 1) := by decide +kernel
theorem dX1_begin_8 : decode cX1_begin 8 = .ok (.if_icmp .ge 16, 3) := by decide +kernel
theorem dX1_begin_11 : decode cX1_begin 11 = .ok (.aload_n 0, 1) := by decide +kernel
theorem dX1_begin_12 : decode cX1_begin 12 = .ok (.getfield 9, 3) := by decide +kernel
theorem dX1_begin_15 : decode cX1_begin 15 = .ok (.iload_n 1, 1) := by decide +kernel
theorem dX1_begin_16 : decode cX1_begin 16 = .ok (.iconst 0, 1) := by decide +kernel
theorem dX1_begin_17 : decode cX1_begin 17 = .ok (.iastore, 1) := by decide +kernel
theorem dX1_begin_18 : decode cX1_begin 18 = .ok (.iinc 1 1, 3) := by decide +kernel
theorem dX1_begin_21 : decode cX1_begin 21 = .ok (.goto (-19), 3) := by decide +kernel
theorem dX1_begin_24 : decode cX1_begin 24 = .ok (.return_, 1) := by decide +kernel
theorem dX1_note_0 : decode cX1_note 0 = .ok (.iconst 0, 1) := by decide +kernel
theorem dX1_note_1 : decode cX1_note 1 = .ok (.istore_n 3, 1) := by decide +kernel
theorem dX1_note_2 : decode cX1_note 2 = .ok (.iload_n 3, 1) := by decide +kernel
theorem dX1_note_3 : decode cX1_note 3 = .ok (.aload_n 0, 1) := by decide +kernel
theorem dX1_note_4 : decode cX1_note 4 = .ok (.getfield 15, 3) := by decide +kernel
theorem dX1_note_7 : decode cX1_note 7 = .ok (.getfield 19, 3) := by decide +kernel
theorem dX1_note_10 : decode cX1_note 10 = .ok (.if_icmp .ge 62, 3) := by decide +kernel
theorem dX1_note_13 : decode cX1_note 13 = .ok (.aload_n 0, 1) := by decide +kernel
theorem dX1_note_14 : decode cX1_note 14 = .ok (.getfield 25, 3) := by decide +kernel
theorem dX1_note_17 : decode cX1_note 17 = .ok (.getfield 29, 3) := by decide +kernel
theorem dX1_note_20 : decode cX1_note 20 = .ok (.aload_n 0, 1) := by decide +kernel
theorem dX1_note_21 : decode cX1_note 21 = .ok (.getfield 25, 3) := by decide +kernel
theorem dX1_note_24 : decode cX1_note 24 = .ok (.getfield 35, 3) := by decide +kernel
theorem dX1_note_27 : decode cX1_note 27 = .ok (.aload_n 0, 1) := by decide +kernel
theorem dX1_note_28 : decode cX1_note 28 = .ok (.getfield 15, 3) := by decide +kernel
theorem dX1_note_31 : decode cX1_note 31 = .ok (.getfield 38, 3) := by decide +kernel
theorem dX1_note_34 : decode cX1_note 34 = .ok (.iload_n 3, 1) := by decide +kernel
theorem dX1_note_35 : decode cX1_note 35 = .ok (.iaload, 1) := by decide +kernel
theorem dX1_note_36 : decode cX1_note 36 = .ok (.iaload, 1) := by decide +kernel
theorem dX1_note_37 : decode cX1_note 37 = .ok (.aload_n 0, 1) := by decide +kernel
theorem dX1_note_38 : decode cX1_note 38 = .ok (.getfield 15, 3) := by decide +kernel
theorem dX1_note_41 : decode cX1_note 41 = .ok (.getfield 41, 3) := by decide +kernel
theorem dX1_note_44 : decode cX1_note 44 = .ok (.iload_n 3, 1) := by decide +kernel
theorem dX1_note_45 : decode cX1_note 45 = .ok (.iaload, 1) := by decide +kernel
theorem dX1_note_46 : decode cX1_note 46 = .ok (.invokevirtual 44, 3) := by decide +kernel
theorem dX1_note_49 : decode cX1_note 49 = .ok (.istore 4, 2) := by decide +kernel
theorem dX1_note_51 : decode cX1_note 51 = .ok (.iload 4, 2) := by decide +kernel
theorem dX1_note_53 : decode cX1_note 53 = .ok (.aload_n 0, 1) := by decide +kernel
theorem dX1_note_54 : decode cX1_note 54 = .ok (.getfield 15, 3) := by decide +kernel
theorem dX1_note_57 : decode cX1_note 57 = .ok (.getfield 50, 3) := by decide +kernel
theorem dX1_note_60 : decode cX1_note 60 = .ok (.iload_n 3, 1) := by decide +kernel
theorem dX1_note_61 : decode cX1_note 61 = .ok (.iaload, 1) := by decide +kernel
theorem dX1_note_62 : decode cX1_note 62 = .ok (.if_icmp .eq 4, 3) := by decide +kernel
theorem dX1_note_65 : decode cX1_note 65 = .ok (.return_, 1) := by decide +kernel
theorem dX1_note_66 : decode cX1_note 66 = .ok (.iinc 3 1, 3) := by decide +kernel
theorem dX1_note_69 : decode cX1_note 69 = .ok (.goto (-67), 3) := by decide +kernel
theorem dX1_note_72 : decode cX1_note 72 = .ok (.iconst 0, 1) := by decide +kernel
theorem dX1_note_73 : decode cX1_note 73 = .ok (.istore_n 3, 1) := by decide +kernel
theorem dX1_note_74 : decode cX1_note 74 = .ok (.iload_n 3, 1) := by decide +kernel
theorem dX1_note_75 : decode cX1_note 75 = .ok (.aload_n 0, 1) := by decide +kernel
theorem dX1_note_76 : decode cX1_note 76 = .ok (.getfield 25, 3) := by decide +kernel
theorem dX1_note_79 : decode cX1_note 79 = .ok (.getfield 29, 3) := by decide +kernel
theorem dX1_note_82 : decode cX1_note 82 = .ok (.getfield 53, 3) := by decide +kernel
theorem dX1_note_85 : decode cX1_note 85 = .ok (.if_icmp .ge 83, 3) := by decide +kernel
theorem dX1_note_88 : decode cX1_note 88 = .ok (.aload_n 0, 1) := by decide +kernel
theorem dX1_note_89 : decode cX1_note 89 = .ok (.getfield 9, 3) := by decide +kernel
theorem dX1_note_92 : decode cX1_note 92 = .ok (.iload_n 3, 1) := by decide +kernel
theorem dX1_note_93 : decode cX1_note 93 = .ok (.bipush 64, 2) := by decide +kernel
theorem dX1_note_95 : decode cX1_note 95 = .ok (.imul, 1) := by decide +kernel
theorem dX1_note_96 : decode cX1_note 96 = .ok (.aload_n 0, 1) := by decide +kernel
theorem dX1_note_97 : decode cX1_note 97 = .ok (.getfield 25, 3) := by decide +kernel
theorem dX1_note_100 : decode cX1_note 100 = .ok (.getfield 35, 3) := by decide +kernel
theorem dX1_note_103 : decode cX1_note 103 = .ok (.iload_n 3, 1) := by decide +kernel
theorem dX1_note_104 : decode cX1_note 104 = .ok (.iaload, 1) := by decide +kernel
theorem dX1_note_105 : decode cX1_note 105 = .ok (.iadd, 1) := by decide +kernel
theorem dX1_note_106 : decode cX1_note 106 = .ok (.dup2, 1) := by decide +kernel
theorem dX1_note_107 : decode cX1_note 107 = .ok (.iaload, 1) := by decide +kernel
theorem dX1_note_108 : decode cX1_note 108 = .ok (.iconst 1, 1) := by decide +kernel
theorem dX1_note_109 : decode cX1_note 109 = .ok (.iadd, 1) := by decide +kernel
theorem dX1_note_110 : decode cX1_note 110 = .ok (.iastore, 1) := by decide +kernel
theorem dX1_note_111 : decode cX1_note 111 = .ok (.aload_n 0, 1) := by decide +kernel
theorem dX1_note_112 : decode cX1_note 112 = .ok (.getfield 56, 3) := by decide +kernel
theorem dX1_note_115 : decode cX1_note 115 = .ok (.ifCond .ne 21, 3) := by decide +kernel
theorem dX1_note_118 : decode cX1_note 118 = .ok (.aload_n 0, 1) := by decide +kernel
theorem dX1_note_119 : decode cX1_note 119 = .ok (.getfield 59, 3) := by decide +kernel
theorem dX1_note_122 : decode cX1_note 122 = .ok (.iload_n 3, 1) := by decide +kernel
theorem dX1_note_123 : decode cX1_note 123 = .ok (.aload_n 0, 1) := by decide +kernel
theorem dX1_note_124 : decode cX1_note 124 = .ok (.getfield 25, 3) := by decide +kernel
theorem dX1_note_127 : decode cX1_note 127 = .ok (.getfield 62, 3) := by decide +kernel
theorem dX1_note_130 : decode cX1_note 130 = .ok (.iload_n 3, 1) := by decide +kernel
theorem dX1_note_131 : decode cX1_note 131 = .ok (.iaload, 1) := by decide +kernel
theorem dX1_note_132 : decode cX1_note 132 = .ok (.iastore, 1) := by decide +kernel
theorem dX1_note_133 : decode cX1_note 133 = .ok (.goto 29, 3) := by decide +kernel
theorem dX1_note_136 : decode cX1_note 136 = .ok (.aload_n 0, 1) := by decide +kernel
theorem dX1_note_137 : decode cX1_note 137 = .ok (.getfield 59, 3) := by decide +kernel
theorem dX1_note_140 : decode cX1_note 140 = .ok (.iload_n 3, 1) := by decide +kernel
theorem dX1_note_141 : decode cX1_note 141 = .ok (.iaload, 1) := by decide +kernel
theorem dX1_note_142 : decode cX1_note 142 = .ok (.aload_n 0, 1) := by decide +kernel
theorem dX1_note_143 : decode cX1_note 143 = .ok (.getfield 25, 3) := by decide +kernel
theorem dX1_note_146 : decode cX1_note 146 = .ok (.getfield 62, 3) := by decide +kernel
theorem dX1_note_149 : decode cX1_note 149 = .ok (.iload_n 3, 1) := by decide +kernel
theorem dX1_note_150 : decode cX1_note 150 = .ok (.iaload, 1) := by decide +kernel
theorem dX1_note_151 : decode cX1_note 151 = .ok (.if_icmp .eq 11, 3) := by decide +kernel
theorem dX1_note_154 : decode cX1_note 154 = .ok (.aload_n 0, 1) := by decide +kernel
theorem dX1_note_155 : decode cX1_note 155 = .ok (.getfield 59, 3) := by decide +kernel
theorem dX1_note_158 : decode cX1_note 158 = .ok (.iload_n 3, 1) := by decide +kernel
theorem dX1_note_159 : decode cX1_note 159 = .ok (.bipush (-2), 2) := by decide +kernel
theorem dX1_note_161 : decode cX1_note 161 = .ok (.iastore, 1) := by decide +kernel
theorem dX1_note_162 : decode cX1_note 162 = .ok (.iinc 3 1, 3) := by decide +kernel
theorem dX1_note_165 : decode cX1_note 165 = .ok (.goto (-91), 3) := by decide +kernel
theorem dX1_note_168 : decode cX1_note 168 = .ok (.aload_n 0, 1) := by decide +kernel
theorem dX1_note_169 : decode cX1_note 169 = .ok (.dup, 1) := by decide +kernel
theorem dX1_note_170 : decode cX1_note 170 = .ok (.getfield 56, 3) := by decide +kernel
theorem dX1_note_173 : decode cX1_note 173 = .ok (.iconst 1, 1) := by decide +kernel
theorem dX1_note_174 : decode cX1_note 174 = .ok (.iadd, 1) := by decide +kernel
theorem dX1_note_175 : decode cX1_note 175 = .ok (.putfield 56, 3) := by decide +kernel
theorem dX1_note_178 : decode cX1_note 178 = .ok (.return_, 1) := by decide +kernel
theorem dX1_end_0 : decode cX1_end 0 = .ok (.aload_n 0, 1) := by decide +kernel
theorem dX1_end_1 : decode cX1_end 1 = .ok (.iconst (-1), 1) := by decide +kernel
theorem dX1_end_2 : decode cX1_end 2 = .ok (.putfield 63, 3) := by decide +kernel
theorem dX1_end_5 : decode cX1_end 5 = .ok (.aload_n 0, 1) := by decide +kernel
theorem dX1_end_6 : decode cX1_end 6 = .ok (.getfield 56, 3) := by decide +kernel
theorem dX1_end_9 : decode cX1_end 9 = .ok (.istore_n 1, 1) := by decide +kernel
theorem dX1_end_10 : decode cX1_end 10 = .ok (.iconst 0, 1) := by decide +kernel
theorem dX1_end_11 : decode cX1_end 11 = .ok (.istore_n 2, 1) := by decide +kernel
theorem dX1_end_12 : decode cX1_end 12 = .ok (.iload_n 2, 1) := by decide +kernel
theorem dX1_end_13 : decode cX1_end 13 = .ok (.aload_n 0, 1) := by decide +kernel
theorem dX1_end_14 : decode cX1_end 14 = .ok (.getfield 25, 3) := by decide +kernel
theorem dX1_end_17 : decode cX1_end 17 = .ok (.getfield 29, 3) := by decide +kernel
theorem dX1_end_20 : decode cX1_end 20 = .ok (.getfield 53, 3) := by decide +kernel
theorem dX1_end_23 : decode cX1_end 23 = .ok (.iconst 4, 1) := by decide +kernel
theorem dX1_end_24 : decode cX1_end 24 = .ok (.imul, 1) := by decide +kernel
theorem dX1_end_25 : decode cX1_end 25 = .ok (.if_icmp .ge 32, 3) := by decide +kernel
theorem dX1_end_28 : decode cX1_end 28 = .ok (.aload_n 0, 1) := by decide +kernel
theorem dX1_end_29 : decode cX1_end 29 = .ok (.iload_n 2, 1) := by decide +kernel
theorem dX1_end_30 : decode cX1_end 30 = .ok (.iconst 4, 1) := by decide +kernel
theorem dX1_end_31 : decode cX1_end 31 = .ok (.idiv, 1) := by decide +kernel
theorem dX1_end_32 : decode cX1_end 32 = .ok (.iload_n 2, 1) := by decide +kernel
theorem dX1_end_33 : decode cX1_end 33 = .ok (.iconst 4, 1) := by decide +kernel
theorem dX1_end_34 : decode cX1_end 34 = .ok (.irem, 1) := by decide +kernel
theorem dX1_end_35 : decode cX1_end 35 = .ok (.invokevirtual 66, 3) := by decide +kernel
theorem dX1_end_38 : decode cX1_end 38 = .ok (.istore_n 3, 1) := by decide +kernel
theorem dX1_end_39 : decode cX1_end 39 = .ok (.iload_n 3, 1) := by decide +kernel
theorem dX1_end_40 : decode cX1_end 40 = .ok (.iload_n 1, 1) := by decide +kernel
theorem dX1_end_41 : decode cX1_end 41 = .ok (.if_icmp .ge 10, 3) := by decide +kernel
theorem dX1_end_44 : decode cX1_end 44 = .ok (.iload_n 3, 1) := by decide +kernel
theorem dX1_end_45 : decode cX1_end 45 = .ok (.istore_n 1, 1) := by decide +kernel
theorem dX1_end_46 : decode cX1_end 46 = .ok (.aload_n 0, 1) := by decide +kernel
theorem dX1_end_47 : decode cX1_end 47 = .ok (.iload_n 2, 1) := by decide +kernel
theorem dX1_end_48 : decode cX1_end 48 = .ok (.putfield 63, 3) := by decide +kernel
theorem dX1_end_51 : decode cX1_end 51 = .ok (.iinc 2 1, 3) := by decide +kernel
theorem dX1_end_54 : decode cX1_end 54 = .ok (.goto (-42), 3) := by decide +kernel
theorem dX1_end_57 : decode cX1_end 57 = .ok (.return_, 1) := by decide +kernel
theorem dX3_init_0 : decode cX3_init 0 = .ok (.aload_n 0, 1) := by decide +kernel
theorem dX3_init_1 : decode cX3_init 1 = .ok (.invokespecial 5, 3) := by decide +kernel
theorem dX3_init_4 : decode cX3_init 4 = .ok (.aload_n 0, 1) := by decide +kernel
theorem dX3_init_5 : decode cX3_init 5 = .ok (.bipush 6, 2) := by decide +kernel
theorem dX3_init_7 : decode cX3_init 7 = .ok (.anewarray 11, 3) := by decide +kernel
theorem dX3_init_10 : decode cX3_init 10 = .ok (.putfield 13, 3) := by decide +kernel
theorem dX3_init_13 : decode cX3_init 13 = .ok (.aload_n 0, 1) := by decide +kernel
theorem dX3_init_14 : decode cX3_init 14 = .ok (.iconst 4, 1) := by decide +kernel
theorem dX3_init_15 : decode cX3_init 15 = .ok (.newarray .int, 2) := by decide +kernel
theorem dX3_init_17 : decode cX3_init 17 = .ok (.putfield 17, 3) := by decide +kernel
theorem dX3_init_20 : decode cX3_init 20 = .ok (.aload_n 0, 1) := by decide +kernel
theorem dX3_init_21 : decode cX3_init 21 = .ok (.iconst 4, 1) := by decide +kernel
theorem dX3_init_22 : decode cX3_init 22 = .ok (.newarray .int, 2) := by decide +kernel
theorem dX3_init_24 : decode cX3_init 24 = .ok (.putfield 21, 3) := by decide +kernel
theorem dX3_init_27 : decode cX3_init 27 = .ok (.aload_n 0, 1) := by decide +kernel
theorem dX3_init_28 : decode cX3_init 28 = .ok (.new 24, 3) := by decide +kernel
theorem dX3_init_31 : decode cX3_init 31 = .ok (.dup, 1) := by decide +kernel
theorem dX3_init_32 : decode cX3_init 32 = .ok (.invokespecial 26, 3) := by decide +kernel
theorem dX3_init_35 : decode cX3_init 35 = .ok (.putfield 27, 3) := by decide +kernel
theorem dX3_init_38 : decode cX3_init 38 = .ok (.aload_n 0, 1) := by decide +kernel
theorem dX3_init_39 : decode cX3_init 39 = .ok (.new 24, 3) := by decide +kernel
theorem dX3_init_42 : decode cX3_init 42 = .ok (.dup, 1) := by decide +kernel
theorem dX3_init_43 : decode cX3_init 43 = .ok (.invokespecial 26, 3) := by decide +kernel
theorem dX3_init_46 : decode cX3_init 46 = .ok (.putfield 31, 3) := by decide +kernel
theorem dX3_init_49 : decode cX3_init 49 = .ok (.aload_n 0, 1) := by decide +kernel
theorem dX3_init_50 : decode cX3_init 50 = .ok (.bipush 6, 2) := by decide +kernel
theorem dX3_init_52 : decode cX3_init 52 = .ok (.newarray .int, 2) := by decide +kernel
theorem dX3_init_54 : decode cX3_init 54 = .ok (.putfield 34, 3) := by decide +kernel
theorem dX3_init_57 : decode cX3_init 57 = .ok (.aload_n 0, 1) := by decide +kernel
theorem dX3_init_58 : decode cX3_init 58 = .ok (.sipush 640, 3) := by decide +kernel
theorem dX3_init_61 : decode cX3_init 61 = .ok (.newarray .int, 2) := by decide +kernel
theorem dX3_init_63 : decode cX3_init 63 = .ok (.putfield 37, 3) := by decide +kernel
theorem dX3_init_66 : decode cX3_init 66 = .ok (.iconst 0, 1) := by decide +kernel
theorem dX3_init_67 : decode cX3_init 67 = .ok (.istore_n 1, 1) := by decide +kernel
theorem dX3_init_68 : decode cX3_init 68 = .ok (.iload_n 1, 1) := by decide +kernel
theorem dX3_init_69 : decode cX3_init 69 = .ok (.aload_n 0, 1) := by decide +kernel
theorem dX3_init_70 : decode cX3_init 70 = .ok (.getfield 13, 3) := by decide +kernel
theorem dX3_init_73 : decode cX3_init 73 = .ok (.arraylength, 1) := by decide +kernel
theorem dX3_init_74 : decode cX3_init 74 = .ok (.if_icmp .ge 22, 3) := by decide +kernel
theorem dX3_init_77 : decode cX3_init 77 = .ok (.aload_n 0, 1) := by decide +kernel
theorem dX3_init_78 : decode cX3_init 78 = .ok (.getfield 13, 3) := by decide +kernel
theorem dX3_init_81 : decode cX3_init 81 = .ok (.iload_n 1, 1) := by decide +kernel
theorem dX3_init_82 : decode cX3_init 82 = .ok (.new 11, 3) := by decide +kernel
theorem dX3_init_85 : decode cX3_init 85 = .ok (.dup, 1) := by decide +kernel
theorem dX3_init_86 : decode cX3_init 86 = .ok (.invokespecial 40, 3) := by decide +kernel
theorem dX3_init_89 : decode cX3_init 89 = .ok (.aastore, 1) := by decide +kernel
theorem dX3_init_90 : decode cX3_init 90 = .ok (.iinc 1 1, 3) := by decide +kernel
theorem dX3_init_93 : decode cX3_init 93 = .ok (.goto (-25), 3) := by decide +kernel
theorem dX3_init_96 : decode cX3_init 96 = .ok (.aload_n 0, 1) := by decide +kernel
theorem dX3_init_97 : decode cX3_init 97 = .ok (.getfield 27, 3) := by decide +kernel
theorem dX3_init_100 : decode cX3_init 100 = .ok (.iconst 1, 1) := by decide +kernel
theorem dX3_init_101 : decode cX3_init 101 = .ok (.invokevirtual 41, 3) := by decide +kernel
theorem dX3_init_104 : decode cX3_init 104 = .ok (.aload_n 0, 1) := by decide +kernel
theorem dX3_init_105 : decode cX3_init 105 = .ok (.getfield 31, 3) := by decide +kernel
theorem dX3_init_108 : decode cX3_init 108 = .ok (.iconst 0, 1) := by decide +kernel
theorem dX3_init_109 : decode cX3_init 109 = .ok (.invokevirtual 41, 3) := by decide +kernel
theorem dX3_init_112 : decode cX3_init 112 = .ok (.return_, 1) := by decide +kernel
theorem dX3_clear_0 : decode cX3_clear 0 = .ok (.aload_n 0, 1) := by decide +kernel
theorem dX3_clear_1 : decode cX3_clear 1 = .ok (.iconst 0, 1) := by decide +kernel
theorem dX3_clear_2 : decode cX3_clear 2 = .ok (.putfield 45, 3) := by decide +kernel
theorem dX3_clear_5 : decode cX3_clear 5 = .ok (.aload_n 0, 1) := by decide +kernel
theorem dX3_clear_6 : decode cX3_clear 6 = .ok (.iconst 0, 1) := by decide +kernel
theorem dX3_clear_7 : decode cX3_clear 7 = .ok (.putfield 49, 3) := by decide +kernel
theorem dX3_clear_10 : decode cX3_clear 10 = .ok (.aload_n 0, 1) := by decide +kernel
theorem dX3_clear_11 : decode cX3_clear 11 = .ok (.iconst 0, 1) := by decide +kernel
theorem dX3_clear_12 : decode cX3_clear 12 = .ok (.putfield 52, 3) := by decide +kernel
theorem dX3_clear_15 : decode cX3_clear 15 = .ok (.aload_n 0, 1) := by decide +kernel
theorem dX3_clear_16 : decode cX3_clear 16 = .ok (.iconst 0, 1) := by decide +kernel
theorem dX3_clear_17 : decode cX3_clear 17 = .ok (.putfield 55, 3) := by decide +kernel
theorem dX3_clear_20 : decode cX3_clear 20 = .ok (.aload_n 0, 1) := by decide +kernel
theorem dX3_clear_21 : decode cX3_clear 21 = .ok (.iconst 0, 1) := by decide +kernel
theorem dX3_clear_22 : decode cX3_clear 22 = .ok (.putfield 58, 3) := by decide +kernel
theorem dX3_clear_25 : decode cX3_clear 25 = .ok (.aload_n 0, 1) := by decide +kernel
theorem dX3_clear_26 : decode cX3_clear 26 = .ok (.getfield 27, 3) := by decide +kernel
theorem dX3_clear_29 : decode cX3_clear 29 = .ok (.invokevirtual 61, 3) := by decide +kernel
theorem dX3_clear_32 : decode cX3_clear 32 = .ok (.aload_n 0, 1) := by decide +kernel
theorem dX3_clear_33 : decode cX3_clear 33 = .ok (.getfield 27, 3) := by decide +kernel
theorem dX3_clear_36 : decode cX3_clear 36 = .ok (.iconst 1, 1) := by decide +kernel
theorem dX3_clear_37 : decode cX3_clear 37 = .ok (.invokevirtual 41, 3) := by decide +kernel
theorem dX3_clear_40 : decode cX3_clear 40 = .ok (.aload_n 0, 1) := by decide +kernel
theorem dX3_clear_41 : decode cX3_clear 41 = .ok (.getfield 31, 3) := by decide +kernel
theorem dX3_clear_44 : decode cX3_clear 44 = .ok (.invokevirtual 61, 3) := by decide +kernel
theorem dX3_clear_47 : decode cX3_clear 47 = .ok (.aload_n 0, 1) := by decide +kernel
theorem dX3_clear_48 : decode cX3_clear 48 = .ok (.getfield 31, 3) := by decide +kernel
theorem dX3_clear_51 : decode cX3_clear 51 = .ok (.iconst 0, 1) := by decide +kernel
theorem dX3_clear_52 : decode cX3_clear 52 = .ok (.invokevirtual 41, 3) := by decide +kernel
theorem dX3_clear_55 : decode cX3_clear 55 = .ok (.return_, 1) := by decide +kernel
theorem dX3_settle_0 : decode cX3_settle 0 = .ok (.iconst 0, 1) := by decide +kernel
theorem dX3_settle_1 : decode cX3_settle 1 = .ok (.istore_n 1, 1) := by decide +kernel
theorem dX3_settle_2 : decode cX3_settle 2 = .ok (.iload_n 1, 1) := by decide +kernel
theorem dX3_settle_3 : decode cX3_settle 3 = .ok (.aload_n 0, 1) := by decide +kernel
theorem dX3_settle_4 : decode cX3_settle 4 = .ok (.getfield 45, 3) := by decide +kernel
theorem dX3_settle_7 : decode cX3_settle 7 = .ok (.if_icmp .ge 53, 3) := by decide +kernel
theorem dX3_settle_10 : decode cX3_settle 10 = .ok (.aload_n 0, 1) := by decide +kernel
theorem dX3_settle_11 : decode cX3_settle 11 = .ok (.getfield 34, 3) := by decide +kernel
theorem dX3_settle_14 : decode cX3_settle 14 = .ok (.iload_n 1, 1) := by decide +kernel
theorem dX3_settle_15 : decode cX3_settle 15 = .ok (.iconst 0, 1) := by decide +kernel
theorem dX3_settle_16 : decode cX3_settle 16 = .ok (.iastore, 1) := by decide +kernel
theorem dX3_settle_17 : decode cX3_settle 17 = .ok (.iconst 0, 1) := by decide +kernel
theorem dX3_settle_18 : decode cX3_settle 18 = .ok (.istore_n 2, 1) := by decide +kernel
theorem dX3_settle_19 : decode cX3_settle 19 = .ok (.iload_n 2, 1) := by decide +kernel
theorem dX3_settle_20 : decode cX3_settle 20 = .ok (.aload_n 0, 1) := by decide +kernel
theorem dX3_settle_21 : decode cX3_settle 21 = .ok (.getfield 45, 3) := by decide +kernel
theorem dX3_settle_24 : decode cX3_settle 24 = .ok (.if_icmp .ge 30, 3) := by decide +kernel
theorem dX3_settle_27 : decode cX3_settle 27 = .ok (.aload_n 0, 1) := by decide +kernel
theorem dX3_settle_28 : decode cX3_settle 28 = .ok (.iload_n 1, 1) := by decide +kernel
theorem dX3_settle_29 : decode cX3_settle 29 = .ok (.iload_n 2, 1) := by decide +kernel
theorem dX3_settle_30 : decode cX3_settle 30 = .ok (.invokevirtual 68, 3) := by decide +kernel
theorem dX3_settle_33 : decode cX3_settle 33 = .ok (.ifCond .eq 15, 3) := by decide +kernel
theorem dX3_settle_36 : decode cX3_settle 36 = .ok (.aload_n 0, 1) := by decide +kernel
theorem dX3_settle_37 : decode cX3_settle 37 = .ok (.getfield 34, 3) := by decide +kernel
theorem dX3_settle_40 : decode cX3_settle 40 = .ok (.iload_n 1, 1) := by decide +kernel
theorem dX3_settle_41 : decode cX3_settle 41 = .ok (.dup2, 1) := by decide +kernel
theorem dX3_settle_42 : decode cX3_settle 42 = .ok (.iaload, 1) := by decide +kernel
theorem dX3_settle_43 : decode cX3_settle 43 = .ok (.iconst 1, 1) := by decide +kernel
theorem dX3_settle_44 : decode cX3_settle 44 = .ok (.iload_n 2, 1) := by decide +kernel
theorem dX3_settle_45 : decode cX3_settle 45 = .ok (.ishl, 1) := by decide +kernel
theorem dX3_settle_46 : decode cX3_settle 46 = .ok (.ior, 1) := by decide +kernel
theorem dX3_settle_47 : decode cX3_settle 47 = .ok (.iastore, 1) := by decide +kernel
theorem dX3_settle_48 : decode cX3_settle 48 = .ok (.iinc 2 1, 3) := by decide +kernel
theorem dX3_settle_51 : decode cX3_settle 51 = .ok (.goto (-32), 3) := by decide +kernel
theorem dX3_settle_54 : decode cX3_settle 54 = .ok (.iinc 1 1, 3) := by decide +kernel
theorem dX3_settle_57 : decode cX3_settle 57 = .ok (.goto (-55), 3) := by decide +kernel
theorem dX3_settle_60 : decode cX3_settle 60 = .ok (.iconst 0, 1) := by decide +kernel
theorem dX3_settle_61 : decode cX3_settle 61 = .ok (.istore_n 1, 1) := by decide +kernel
theorem dX3_settle_62 : decode cX3_settle 62 = .ok (.iload_n 1, 1) := by decide +kernel
theorem dX3_settle_63 : decode cX3_settle 63 = .ok (.iconst 4, 1) := by decide +kernel
theorem dX3_settle_64 : decode cX3_settle 64 = .ok (.if_icmp .ge 14, 3) := by decide +kernel
theorem dX3_settle_67 : decode cX3_settle 67 = .ok (.aload_n 0, 1) := by decide +kernel
theorem dX3_settle_68 : decode cX3_settle 68 = .ok (.iload_n 1, 1) := by decide +kernel
theorem dX3_settle_69 : decode cX3_settle 69 = .ok (.invokevirtual 72, 3) := by decide +kernel
theorem dX3_settle_72 : decode cX3_settle 72 = .ok (.iinc 1 1, 3) := by decide +kernel
theorem dX3_settle_75 : decode cX3_settle 75 = .ok (.goto (-13), 3) := by decide +kernel
theorem dX3_settle_78 : decode cX3_settle 78 = .ok (.aload_n 0, 1) := by decide +kernel
theorem dX3_settle_79 : decode cX3_settle 79 = .ok (.invokevirtual 75, 3) := by decide +kernel
theorem dX3_settle_82 : decode cX3_settle 82 = .ok (.return_, 1) := by decide +kernel
theorem dX3_sumUp_0 : decode cX3_sumUp 0 = .ok (.iload_n 1, 1) := by decide +kernel
theorem dX3_sumUp_1 : decode cX3_sumUp 1 = .ok (.bipush 64, 2) := by decide +kernel
theorem dX3_sumUp_3 : decode cX3_sumUp 3 = .ok (.imul, 1) := by decide +kernel
theorem dX3_sumUp_4 : decode cX3_sumUp 4 = .ok (.istore_n 2, 1) := by decide +kernel
theorem dX3_sumUp_5 : decode cX3_sumUp 5 = .ok (.iload_n 1, 1) := by decide +kernel
theorem dX3_sumUp_6 : decode cX3_sumUp 6 = .ok (.iconst 4, 1) := by decide +kernel
theorem dX3_sumUp_7 : decode cX3_sumUp 7 = .ok (.iadd, 1) := by decide +kernel
theorem dX3_sumUp_8 : decode cX3_sumUp 8 = .ok (.bipush 64, 2) := by decide +kernel
theorem dX3_sumUp_10 : decode cX3_sumUp 10 = .ok (.imul, 1) := by decide +kernel
theorem dX3_sumUp_11 : decode cX3_sumUp 11 = .ok (.istore_n 3, 1) := by decide +kernel
theorem dX3_sumUp_12 : decode cX3_sumUp 12 = .ok (.aload_n 0, 1) := by decide +kernel
theorem dX3_sumUp_13 : decode cX3_sumUp 13 = .ok (.getfield 37, 3) := by decide +kernel
theorem dX3_sumUp_16 : decode cX3_sumUp 16 = .ok (.iload_n 2, 1) := by decide +kernel
theorem dX3_sumUp_17 : decode cX3_sumUp 17 = .ok (.iconst 0, 1) := by decide +kernel
theorem dX3_sumUp_18 : decode cX3_sumUp 18 = .ok (.iastore, 1) := by decide +kernel
theorem dX3_sumUp_19 : decode cX3_sumUp 19 = .ok (.aload_n 0, 1) := by decide +kernel
theorem dX3_sumUp_20 : decode cX3_sumUp 20 = .ok (.getfield 37, 3) := by decide +kernel
theorem dX3_sumUp_23 : decode cX3_sumUp 23 = .ok (.iload_n 3, 1) := by decide +kernel
theorem dX3_sumUp_24 : decode cX3_sumUp 24 = .ok (.iconst 0, 1) := by decide +kernel
theorem dX3_sumUp_25 : decode cX3_sumUp 25 = .ok (.iastore, 1) := by decide +kernel
theorem dX3_sumUp_26 : decode cX3_sumUp 26 = .ok (.iconst 0, 1) := by decide +kernel
theorem dX3_sumUp_27 : decode cX3_sumUp 27 = .ok (.istore 4, 2) := by decide +kernel
theorem dX3_sumUp_29 : decode cX3_sumUp 29 = .ok (.iload 4, 2) := by decide +kernel
theorem dX3_sumUp_31 : decode cX3_sumUp 31 = .ok (.aload_n 0, 1) := by decide +kernel
theorem dX3_sumUp_32 : decode cX3_sumUp 32 = .ok (.getfield 45, 3) := by decide +kernel
theorem dX3_sumUp_35 : decode cX3_sumUp 35 = .ok (.if_icmp .ge 94, 3) := by decide +kernel
theorem dX3_sumUp_38 : decode cX3_sumUp 38 = .ok (.aload_n 0, 1) := by decide +kernel
theorem dX3_sumUp_39 : decode cX3_sumUp 39 = .ok (.getfield 13, 3) := by decide +kernel
theorem dX3_sumUp_42 : decode cX3_sumUp 42 = .ok (.iload 4, 2) := by decide +kernel
theorem dX3_sumUp_44 : decode cX3_sumUp 44 = .ok (.aaload, 1) := by decide +kernel
theorem dX3_sumUp_45 : decode cX3_sumUp 45 = .ok (.getfield 91, 3) := by decide +kernel
theorem dX3_sumUp_48 : decode cX3_sumUp 48 = .ok (.iload_n 1, 1) := by decide +kernel
theorem dX3_sumUp_49 : decode cX3_sumUp 49 = .ok (.iaload, 1) := by decide +kernel
theorem dX3_sumUp_50 : decode cX3_sumUp 50 = .ok (.istore 5, 2) := by decide +kernel
theorem dX3_sumUp_52 : decode cX3_sumUp 52 = .ok (.iconst 0, 1) := by decide +kernel
theorem dX3_sumUp_53 : decode cX3_sumUp 53 = .ok (.istore 6, 2) := by decide +kernel
theorem dX3_sumUp_55 : decode cX3_sumUp 55 = .ok (.iload 6, 2) := by decide +kernel
theorem dX3_sumUp_57 : decode cX3_sumUp 57 = .ok (.iconst 1, 1) := by decide +kernel
theorem dX3_sumUp_58 : decode cX3_sumUp 58 = .ok (.iload 4, 2) := by decide +kernel
theorem dX3_sumUp_60 : decode cX3_sumUp 60 = .ok (.ishl, 1) := by decide +kernel
theorem dX3_sumUp_61 : decode cX3_sumUp 61 = .ok (.if_icmp .ge 62, 3) := by decide +kernel
theorem dX3_sumUp_64 : decode cX3_sumUp 64 = .ok (.iload 6, 2) := by decide +kernel
theorem dX3_sumUp_66 : decode cX3_sumUp 66 = .ok (.iconst 1, 1) := by decide +kernel
theorem dX3_sumUp_67 : decode cX3_sumUp 67 = .ok (.iload 4, 2) := by decide +kernel
theorem dX3_sumUp_69 : decode cX3_sumUp 69 = .ok (.ishl, 1) := by decide +kernel
theorem dX3_sumUp_70 : decode cX3_sumUp 70 = .ok (.ior, 1) := by decide +kernel
theorem dX3_sumUp_71 : decode cX3_sumUp 71 = .ok (.istore 7, 2) := by decide +kernel
theorem dX3_sumUp_73 : decode cX3_sumUp 73 = .ok (.aload_n 0, 1) := by decide +kernel
theorem dX3_sumUp_74 : decode cX3_sumUp 74 = .ok (.getfield 37, 3) := by decide +kernel
theorem dX3_sumUp_77 : decode cX3_sumUp 77 = .ok (.iload_n 2, 1) := by decide +kernel
theorem dX3_sumUp_78 : decode cX3_sumUp 78 = .ok (.iload 7, 2) := by decide +kernel
theorem dX3_sumUp_80 : decode cX3_sumUp 80 = .ok (.iadd, 1) := by decide +kernel
theorem dX3_sumUp_81 : decode cX3_sumUp 81 = .ok (.aload_n 0, 1) := by decide +kernel
theorem dX3_sumUp_82 : decode cX3_sumUp 82 = .ok (.getfield 37, 3) := by decide +kernel
theorem dX3_sumUp_85 : decode cX3_sumUp 85 = .ok (.iload_n 2, 1) := by decide +kernel
theorem dX3_sumUp_86 : decode cX3_sumUp 86 = .ok (.iload 6, 2) := by decide +kernel
theorem dX3_sumUp_88 : decode cX3_sumUp 88 = .ok (.iadd, 1) := by decide +kernel
theorem dX3_sumUp_89 : decode cX3_sumUp 89 = .ok (.iaload, 1) := by decide +kernel
theorem dX3_sumUp_90 : decode cX3_sumUp 90 = .ok (.iload 5, 2) := by decide +kernel
theorem dX3_sumUp_92 : decode cX3_sumUp 92 = .ok (.iadd, 1) := by decide +kernel
theorem dX3_sumUp_93 : decode cX3_sumUp 93 = .ok (.iastore, 1) := by decide +kernel
theorem dX3_sumUp_94 : decode cX3_sumUp 94 = .ok (.aload_n 0, 1) := by decide +kernel
theorem dX3_sumUp_95 : decode cX3_sumUp 95 = .ok (.getfield 37, 3) := by decide +kernel
theorem dX3_sumUp_98 : decode cX3_sumUp 98 = .ok (.iload_n 3, 1) := by decide +kernel
theorem dX3_sumUp_99 : decode cX3_sumUp 99 = .ok (.iload 7, 2) := by decide +kernel
theorem dX3_sumUp_101 : decode cX3_sumUp 101 = .ok (.iadd, 1) := by decide +kernel
theorem dX3_sumUp_102 : decode cX3_sumUp 102 = .ok (.aload_n 0, 1) := by decide +kernel
theorem dX3_sumUp_103 : decode cX3_sumUp 103 = .ok (.getfield 37, 3) := by decide +kernel
theorem dX3_sumUp_106 : decode cX3_sumUp 106 = .ok (.iload_n 3, 1) := by decide +kernel
theorem dX3_sumUp_107 : decode cX3_sumUp 107 = .ok (.iload 6, 2) := by decide +kernel
theorem dX3_sumUp_109 : decode cX3_sumUp 109 = .ok (.iadd, 1) := by decide +kernel
theorem dX3_sumUp_110 : decode cX3_sumUp 110 = .ok (.iaload, 1) := by decide +kernel
theorem dX3_sumUp_111 : decode cX3_sumUp 111 = .ok (.iload 5, 2) := by decide +kernel
theorem dX3_sumUp_113 : decode cX3_sumUp 113 = .ok (.iconst 2, 1) := by decide +kernel
theorem dX3_sumUp_114 : decode cX3_sumUp 114 = .ok (.idiv, 1) := by decide +kernel
theorem dX3_sumUp_115 : decode cX3_sumUp 115 = .ok (.iadd, 1) := by decide +kernel
theorem dX3_sumUp_116 : decode cX3_sumUp 116 = .ok (.iastore, 1) := by decide +kernel
theorem dX3_sumUp_117 : decode cX3_sumUp 117 = .ok (.iinc 6 1, 3) := by decide +kernel
theorem dX3_sumUp_120 : decode cX3_sumUp 120 = .ok (.goto (-65), 3) := by decide +kernel
theorem dX3_sumUp_123 : decode cX3_sumUp 123 = .ok (.iinc 4 1, 3) := by decide +kernel
theorem dX3_sumUp_126 : decode cX3_sumUp 126 = .ok (.goto (-97), 3) := by decide +kernel
theorem dX3_sumUp_129 : decode cX3_sumUp 129 = .ok (.return_, 1) := by decide +kernel
