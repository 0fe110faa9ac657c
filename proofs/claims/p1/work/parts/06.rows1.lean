theorem dX3_sumUp_0 : decode cX3_sumUp 0 = .ok (.iload_n 1, 1) := by decide +kernel
theorem dX3_sumUp_1 : decode cX3_sumUp 1 = .ok (.bipush 64, 2) := by decide +kernel
theorem dX3_sumUp_3 : decode cX3_sumUp 3 = .ok (.imul, 1) := by decide +kernel
theorem dX3_sumUp_4 : decode cX3_sumUp 4 = .ok (.istore_n 2, 1) := by decide +kernel
theorem dX3_sumUp_5 : decode cX3_sumUp 5 = .ok (.iload_n 1, 1) := by decide +kernel
theorem dX3_sumUp_6 : decode cX3_sumUp 6 = .ok (.iconst 4, 1) := by decide +kernel
theorem dX3_sumUp_7 : decode cX3_sumUp 7 = .ok (.iadd, 1) := by decide +kernel
theorem dX3_sumUp_8 : decode cX3_sumUp 8 = .ok (.bipush 64, 2) := by decide +kernel
theorem dX3_sumUp_10 : decode cX3_sumUp 10 = .ok (.imul, 1) := by decide +kernel
theorem dX3_sumUp_11 : decode cX3_sumUp 11 = .ok (.istore_n 3, 1) := by decide +kernel
theorem dX3_sumUp_12 : decode cX3_sumUp 12 = .ok (.aload_n 0, 1) := by decide +kernel
theorem dX3_sumUp_13 : decode cX3_sumUp 13 = .ok (.getfield 37, 3) := by decide +kernel
theorem dX3_sumUp_16 : decode cX3_sumUp 16 = .ok (.iload_n 2, 1) := by decide +kernel
theorem dX3_sumUp_17 : decode cX3_sumUp 17 = .ok (.iconst 0, 1) := by decide +kernel
theorem dX3_sumUp_18 : decode cX3_sumUp 18 = .ok (.iastore, 1) := by decide +kernel
theorem dX3_sumUp_19 : decode cX3_sumUp 19 = .ok (.aload_n 0, 1) := by decide +kernel
theorem dX3_sumUp_20 : decode cX3_sumUp 20 = .ok (.getfield 37, 3) := by decide +kernel
theorem dX3_sumUp_23 : decode cX3_sumUp 23 = .ok (.iload_n 3, 1) := by decide +kernel
theorem dX3_sumUp_24 : decode cX3_sumUp 24 = .ok (.iconst 0, 1) := by decide +kernel
theorem dX3_sumUp_25 : decode cX3_sumUp 25 = .ok (.iastore, 1) := by decide +kernel
theorem dX3_sumUp_26 : decode cX3_sumUp 26 = .ok (.iconst 0, 1) := by decide +kernel
theorem dX3_sumUp_27 : decode cX3_sumUp 27 = .ok (.istore 4, 2) := by decide +kernel
theorem dX3_sumUp_29 : decode cX3_sumUp 29 = .ok (.iload 4, 2) := by decide +kernel
theorem dX3_sumUp_31 : decode cX3_sumUp 31 = .ok (.aload_n 0, 1) := by decide +kernel
theorem dX3_sumUp_32 : decode cX3_sumUp 32 = .ok (.getfield 45, 3) := by decide +kernel
theorem dX3_sumUp_35 : decode cX3_sumUp 35 = .ok (.if_icmp .ge 94, 3) := by decide +kernel
theorem dX3_sumUp_38 : decode cX3_sumUp 38 = .ok (.aload_n 0, 1) := by decide +kernel
theorem dX3_sumUp_39 : decode cX3_sumUp 39 = .ok (.getfield 13, 3) := by decide +kernel
theorem dX3_sumUp_42 : decode cX3_sumUp 42 = .ok (.iload 4, 2) := by decide +kernel
theorem dX3_sumUp_44 : decode cX3_sumUp 44 = .ok (.aaload, 1) := by decide +kernel
theorem dX3_sumUp_45 : decode cX3_sumUp 45 = .ok (.getfield 91, 3) := by decide +kernel
theorem dX3_sumUp_48 : decode cX3_sumUp 48 = .ok (.iload_n 1, 1) := by decide +kernel
theorem dX3_sumUp_49 : decode cX3_sumUp 49 = .ok (.iaload, 1) := by decide +kernel
theorem dX3_sumUp_50 : decode cX3_sumUp 50 = .ok (.istore 5, 2) := by decide +kernel
theorem dX3_sumUp_52 : decode cX3_sumUp 52 = .ok (.iconst 0, 1) := by decide +kernel
theorem dX3_sumUp_53 : decode cX3_sumUp 53 = .ok (.istore 6, 2) := by decide +kernel
theorem dX3_sumUp_55 : decode cX3_sumUp 55 = .ok (.iload 6, 2) := by decide +kernel
theorem dX3_sumUp_57 : decode cX3_sumUp 57 = .ok (.iconst 1, 1) := by decide +kernel
theorem dX3_sumUp_58 : decode cX3_sumUp 58 = .ok (.iload 4, 2) := by decide +kernel
theorem dX3_sumUp_60 : decode cX3_sumUp 60 = .ok (.ishl, 1) := by decide +kernel
theorem dX3_sumUp_61 : decode cX3_sumUp 61 = .ok (.if_icmp .ge 62, 3) := by decide +kernel
theorem dX3_sumUp_64 : decode cX3_sumUp 64 = .ok (.iload 6, 2) := by decide +kernel
theorem dX3_sumUp_66 : decode cX3_sumUp 66 = .ok (.iconst 1, 1) := by decide +kernel
theorem dX3_sumUp_67 : decode cX3_sumUp 67 = .ok (.iload 4, 2) := by decide +kernel
theorem dX3_sumUp_69 : decode cX3_sumUp 69 = .ok (.ishl, 1) := by decide +kernel
theorem dX3_sumUp_70 : decode cX3_sumUp 70 = .ok (.ior, 1) := by decide +kernel
theorem dX3_sumUp_71 : decode cX3_sumUp 71 = .ok (.istore 7, 2) := by decide +kernel
theorem dX3_sumUp_73 : decode cX3_sumUp 73 = .ok (.aload_n 0, 1) := by decide +kernel
theorem dX3_sumUp_74 : decode cX3_sumUp 74 = .ok (.getfield 37, 3) := by decide +kernel
theorem dX3_sumUp_77 : decode cX3_sumUp 77 = .ok (.iload_n 2, 1) := by decide +kernel
theorem dX3_sumUp_78 : decode cX3_sumUp 78 = .ok (.iload 7, 2) := by decide +kernel
theorem dX3_sumUp_80 : decode cX3_sumUp 80 = .ok (.iadd, 1) := by decide +kernel
theorem dX3_sumUp_81 : decode cX3_sumUp 81 = .ok (.aload_n 0, 1) := by decide +kernel
theorem dX3_sumUp_82 : decode cX3_sumUp 82 = .ok (.getfield 37, 3) := by decide +kernel
theorem dX3_sumUp_85 : decode cX3_sumUp 85 = .ok (.iload_n 2, 1) := by decide +kernel
theorem dX3_sumUp_86 : decode cX3_sumUp 86 = .ok (.iload 6, 2) := by decide +kernel
theorem dX3_sumUp_88 : decode cX3_sumUp 88 = .ok (.iadd, 1) := by decide +kernel
theorem dX3_sumUp_89 : decode cX3_sumUp 89 = .ok (.iaload, 1) := by decide +kernel
theorem dX3_sumUp_90 : decode cX3_sumUp 90 = .ok (.iload 5, 2) := by decide +kernel
theorem dX3_sumUp_92 : decode cX3_sumUp 92 = .ok (.iadd, 1) := by decide +kernel
theorem dX3_sumUp_93 : decode cX3_sumUp 93 = .ok (.iastore, 1) := by decide +kernel
theorem dX3_sumUp_94 : decode cX3_sumUp 94 = .ok (.aload_n 0, 1) := by decide +kernel
theorem dX3_sumUp_95 : decode cX3_sumUp 95 = .ok (.getfield 37, 3) := by decide +kernel
theorem dX3_sumUp_98 : decode cX3_sumUp 98 = .ok (.iload_n 3, 1) := by decide +kernel
theorem dX3_sumUp_99 : decode cX3_sumUp 99 = .ok (.iload 7, 2) := by decide +kernel
theorem dX3_sumUp_101 : decode cX3_sumUp 101 = .ok (.iadd, 1) := by decide +kernel
theorem dX3_sumUp_102 : decode cX3_sumUp 102 = .ok (.aload_n 0, 1) := by decide +kernel
theorem dX3_sumUp_103 : decode cX3_sumUp 103 = .ok (.getfield 37, 3) := by decide +kernel
theorem dX3_sumUp_106 : decode cX3_sumUp 106 = .ok (.iload_n 3, 1) := by decide +kernel
theorem dX3_sumUp_107 : decode cX3_sumUp 107 = .ok (.iload 6, 2) := by decide +kernel
theorem dX3_sumUp_109 : decode cX3_sumUp 109 = .ok (.iadd, 1) := by decide +kernel
theorem dX3_sumUp_110 : decode cX3_sumUp 110 = .ok (.iaload, 1) := by decide +kernel
theorem dX3_sumUp_111 : decode cX3_sumUp 111 = .ok (.iload 5, 2) := by decide +kernel
theorem dX3_sumUp_113 : decode cX3_sumUp 113 = .ok (.iconst 2, 1) := by decide +kernel
theorem dX3_sumUp_114 : decode cX3_sumUp 114 = .ok (.idiv, 1) := by decide +kernel
theorem dX3_sumUp_115 : decode cX3_sumUp 115 = .ok (.iadd, 1) := by decide +kernel
theorem dX3_sumUp_116 : decode cX3_sumUp 116 = .ok (.iastore, 1) := by decide +kernel
theorem dX3_sumUp_117 : decode cX3_sumUp 117 = .ok (.iinc 6 1, 3) := by decide +kernel
theorem dX3_sumUp_120 : decode cX3_sumUp 120 = .ok (.goto (-65), 3) := by decide +kernel
theorem dX3_sumUp_123 : decode cX3_sumUp 123 = .ok (.iinc 4 1, 3) := by decide +kernel
theorem dX3_sumUp_126 : decode cX3_sumUp 126 = .ok (.goto (-97), 3) := by decide +kernel
theorem dX3_sumUp_129 : decode cX3_sumUp 129 = .ok (.return_, 1) := by decide +kernel
theorem dX3_compareSeasons_0 : decode cX3_compareSeasons 0 = .ok (.iconst 0, 1) := by decide +kernel
theorem dX3_compareSeasons_1 : decode cX3_compareSeasons 1 = .ok (.istore_n 1, 1) := by decide +kernel
theorem dX3_compareSeasons_2 : decode cX3_compareSeasons 2 = .ok (.iload_n 1, 1) := by decide +kernel
theorem dX3_compareSeasons_3 : decode cX3_compareSeasons 3 = .ok (.iconst 1, 1) := by decide +kernel
theorem dX3_compareSeasons_4 : decode cX3_compareSeasons 4 = .ok (.aload_n 0, 1) := by decide +kernel
theorem dX3_compareSeasons_5 : decode cX3_compareSeasons 5 = .ok (.getfield 45, 3) := by decide +kernel
theorem dX3_compareSeasons_8 : decode cX3_compareSeasons 8 = .ok (.ishl, 1) := by decide +kernel
theorem dX3_compareSeasons_9 : decode cX3_compareSeasons 9 = .ok (.if_icmp .ge 94, 3) := by decide +kernel
theorem dX3_compareSeasons_12 : decode cX3_compareSeasons 12 = .ok (.aload_n 0, 1) := by decide +kernel
theorem dX3_compareSeasons_13 : decode cX3_compareSeasons 13 = .ok (.getfield 37, 3) := by decide +kernel
theorem dX3_compareSeasons_16 : decode cX3_compareSeasons 16 = .ok (.iload_n 1, 1) := by decide +kernel
theorem dX3_compareSeasons_17 : decode cX3_compareSeasons 17 = .ok (.iaload, 1) := by decide +kernel
theorem dX3_compareSeasons_18 : decode cX3_compareSeasons 18 = .ok (.istore_n 2, 1) := by decide +kernel
theorem dX3_compareSeasons_19 : decode cX3_compareSeasons 19 = .ok (.aload_n 0, 1) := by decide +kernel
theorem dX3_compareSeasons_20 : decode cX3_compareSeasons 20 = .ok (.getfield 37, 3) := by decide +kernel
theorem dX3_compareSeasons_23 : decode cX3_compareSeasons 23 = .ok (.iload_n 1, 1) := by decide +kernel
theorem dX3_compareSeasons_24 : decode cX3_compareSeasons 24 = .ok (.iaload, 1) := by decide +kernel
theorem dX3_compareSeasons_25 : decode cX3_compareSeasons 25 = .ok (.istore_n 3, 1) := by decide +kernel
theorem dX3_compareSeasons_26 : decode cX3_compareSeasons 26 = .ok (.iconst 1, 1) := by decide +kernel
theorem dX3_compareSeasons_27 : decode cX3_compareSeasons 27 = .ok (.istore 4, 2) := by decide +kernel
theorem dX3_compareSeasons_29 : decode cX3_compareSeasons 29 = .ok (.iload 4, 2) := by decide +kernel
theorem dX3_compareSeasons_31 : decode cX3_compareSeasons 31 = .ok (.iconst 4, 1) := by decide +kernel
theorem dX3_compareSeasons_32 : decode cX3_compareSeasons 32 = .ok (.if_icmp .ge 43, 3) := by decide +kernel
theorem dX3_compareSeasons_35 : decode cX3_compareSeasons 35 = .ok (.iload_n 2, 1) := by decide +kernel
theorem dX3_compareSeasons_36 : decode cX3_compareSeasons 36 = .ok (.aload_n 0, 1) := by decide +kernel
theorem dX3_compareSeasons_37 : decode cX3_compareSeasons 37 = .ok (.getfield 37, 3) := by decide +kernel
theorem dX3_compareSeasons_40 : decode cX3_compareSeasons 40 = .ok (.iload 4, 2) := by decide +kernel
theorem dX3_compareSeasons_42 : decode cX3_compareSeasons 42 = .ok (.bipush 64, 2) := by decide +kernel
theorem dX3_compareSeasons_44 : decode cX3_compareSeasons 44 = .ok (.imul, 1) := by decide +kernel
theorem dX3_compareSeasons_45 : decode cX3_compareSeasons 45 = .ok (.iload_n 1, 1) := by decide +kernel
theorem dX3_compareSeasons_46 : decode cX3_compareSeasons 46 = .ok (.iadd, 1) := by decide +kernel
theorem dX3_compareSeasons_47 : decode cX3_compareSeasons 47 = .ok (.iaload, 1) := by decide +kernel
theorem dX3_compareSeasons_48 : decode cX3_compareSeasons 48 = .ok (.invokestatic 94, 3) := by decide +kernel
theorem dX3_compareSeasons_51 : decode cX3_compareSeasons 51 = .ok (.istore_n 2, 1) := by decide +kernel
theorem dX3_compareSeasons_52 : decode cX3_compareSeasons 52 = .ok (.iload_n 3, 1) := by decide +kernel
theorem dX3_compareSeasons_53 : decode cX3_compareSeasons 53 = .ok (.aload_n 0, 1) := by decide +kernel
theorem dX3_compareSeasons_54 : decode cX3_compareSeasons 54 = .ok (.getfield 37, 3) := by decide +kernel
theorem dX3_compareSeasons_57 : decode cX3_compareSeasons 57 = .ok (.iload 4, 2) := by decide +kernel
theorem dX3_compareSeasons_59 : decode cX3_compareSeasons 59 = .ok (.bipush 64, 2) := by decide +kernel
theorem dX3_compareSeasons_61 : decode cX3_compareSeasons 61 = .ok (.imul, 1) := by decide +kernel
theorem dX3_compareSeasons_62 : decode cX3_compareSeasons 62 = .ok (.iload_n 1, 1) := by decide +kernel
theorem dX3_compareSeasons_63 : decode cX3_compareSeasons 63 = .ok (.iadd, 1) := by decide +kernel
theorem dX3_compareSeasons_64 : decode cX3_compareSeasons 64 = .ok (.iaload, 1) := by decide +kernel
theorem dX3_compareSeasons_65 : decode cX3_compareSeasons 65 = .ok (.invokestatic 99, 3) := by decide +kernel
theorem dX3_compareSeasons_68 : decode cX3_compareSeasons 68 = .ok (.istore_n 3, 1) := by decide +kernel
theorem dX3_compareSeasons_69 : decode cX3_compareSeasons 69 = .ok (.iinc 4 1, 3) := by decide +kernel
theorem dX3_compareSeasons_72 : decode cX3_compareSeasons 72 = .ok (.goto (-43), 3) := by decide +kernel
theorem dX3_compareSeasons_75 : decode cX3_compareSeasons 75 = .ok (.aload_n 0, 1) := by decide +kernel
theorem dX3_compareSeasons_76 : decode cX3_compareSeasons 76 = .ok (.getfield 37, 3) := by decide +kernel
theorem dX3_compareSeasons_79 : decode cX3_compareSeasons 79 = .ok (.sipush 512, 3) := by decide +kernel
theorem dX3_compareSeasons_82 : decode cX3_compareSeasons 82 = .ok (.iload_n 1, 1) := by decide +kernel
theorem dX3_compareSeasons_83 : decode cX3_compareSeasons 83 = .ok (.iadd, 1) := by decide +kernel
theorem dX3_compareSeasons_84 : decode cX3_compareSeasons 84 = .ok (.iload_n 2, 1) := by decide +kernel
theorem dX3_compareSeasons_85 : decode cX3_compareSeasons 85 = .ok (.iastore, 1) := by decide +kernel
theorem dX3_compareSeasons_86 : decode cX3_compareSeasons 86 = .ok (.aload_n 0, 1) := by decide +kernel
theorem dX3_compareSeasons_87 : decode cX3_compareSeasons 87 = .ok (.getfield 37, 3) := by decide +kernel
theorem dX3_compareSeasons_90 : decode cX3_compareSeasons 90 = .ok (.sipush 576, 3) := by decide +kernel
theorem dX3_compareSeasons_93 : decode cX3_compareSeasons 93 = .ok (.iload_n 1, 1) := by decide +kernel
theorem dX3_compareSeasons_94 : decode cX3_compareSeasons 94 = .ok (.iadd, 1) := by decide +kernel
theorem dX3_compareSeasons_95 : decode cX3_compareSeasons 95 = .ok (.iload_n 3, 1) := by decide +kernel
theorem dX3_compareSeasons_96 : decode cX3_compareSeasons 96 = .ok (.iastore, 1) := by decide +kernel
theorem dX3_compareSeasons_97 : decode cX3_compareSeasons 97 = .ok (.iinc 1 1, 3) := by decide +kernel
theorem dX3_compareSeasons_100 : decode cX3_compareSeasons 100 = .ok (.goto (-98), 3) := by decide +kernel
theorem dX3_compareSeasons_103 : decode cX3_compareSeasons 103 = .ok (.return_, 1) := by decide +kernel
theorem dX3_all_0 : decode cX3_all 0 = .ok (.iconst 1, 1) := by decide +kernel
theorem dX3_all_1 : decode cX3_all 1 = .ok (.aload_n 0, 1) := by decide +kernel
theorem dX3_all_2 : decode cX3_all 2 = .ok (.getfield 45, 3) := by decide +kernel
theorem dX3_all_5 : decode cX3_all 5 = .ok (.ishl, 1) := by decide +kernel
theorem dX3_all_6 : decode cX3_all 6 = .ok (.iconst 1, 1) := by decide +kernel
theorem dX3_all_7 : decode cX3_all 7 = .ok (.isub, 1) := by decide +kernel
theorem dX3_all_8 : decode cX3_all 8 = .ok (.ireturn, 1) := by decide +kernel
theorem dX6_init_0 : decode cX6_init 0 = .ok (.aload_n 0, 1) := by decide +kernel
theorem dX6_init_1 : decode cX6_init 1 = .ok (.invokespecial 3, 3) := by decide +kernel
theorem dX6_init_4 : decode cX6_init 4 = .ok (.aload_n 0, 1) := by decide +kernel
theorem dX6_init_5 : decode cX6_init 5 = .ok (.bipush 24, 2) := by decide +kernel
theorem dX6_init_7 : decode cX6_init 7 = .ok (.newarray .int, 2) := by decide +kernel
theorem dX6_init_9 : decode cX6_init 9 = .ok (.putfield 9, 3) := by decide +kernel
theorem dX6_init_12 : decode cX6_init 12 = .ok (.aload_n 0, 1) := by decide +kernel
theorem dX6_init_13 : decode cX6_init 13 = .ok (.bipush 6, 2) := by decide +kernel
theorem dX6_init_15 : decode cX6_init 15 = .ok (.newarray .int, 2) := by decide +kernel
theorem dX6_init_17 : decode cX6_init 17 = .ok (.putfield 15, 3) := by decide +kernel
theorem dX6_init_20 : decode cX6_init 20 = .ok (.aload_n 0, 1) := by decide +kernel
theorem dX6_init_21 : decode cX6_init 21 = .ok (.aload_n 1, 1) := by decide +kernel
theorem dX6_init_22 : decode cX6_init 22 = .ok (.putfield 18, 3) := by decide +kernel
theorem dX6_init_25 : decode cX6_init 25 = .ok (.aload_n 0, 1) := by decide +kernel
theorem dX6_init_26 : decode cX6_init 26 = .ok (.aload_n 2, 1) := by decide +kernel
theorem dX6_init_27 : decode cX6_init 27 = .ok (.putfield 22, 3) := by decide +kernel
theorem dX6_init_30 : decode cX6_init 30 = .ok (.aload_n 0, 1) := by decide +kernel
theorem dX6_init_31 : decode cX6_init 31 = .ok (.aload_n 2, 1) := by decide +kernel
theorem dX6_init_32 : decode cX6_init 32 = .ok (.getfield 26, 3) := by decide +kernel
theorem dX6_init_35 : decode cX6_init 35 = .ok (.putfield 32, 3) := by decide +kernel
theorem dX6_init_38 : decode cX6_init 38 = .ok (.return_, 1) := by decide +kernel
set_option maxRecDepth 20000 in
theorem ggX6_readLand_X6_begin : GoodIn wsX6_readLand wsX6_begin := goodIn_r _ [7, 8, 2, 9, 10, 11, 12, 13, 14, 15, 16, 17, 18, 19, 20, 21, 22, 23, 24, 25, 26, 27, 28, 29, 30, 31, 32, 33, 34, 35, 36, 37, 38, 39, 40, 41, 42, 43, 44, 45, 46, 47, 48, 49, 50, 51, 52, 53, 54, 55, 56, 57, 58, 59, 60, 61, 62, 63, 64, 65, 66, 67, 68, 69, 70, 71, 72, 73, 74, 75, 76, 77, 78, 79, 80, 81, 82, 83, 84, 85, 86, 87, 88, 89, 90, 91, 92, 93, 94, 95, 96, 97, 98, 99, 100, 101, 102, 103, 104, 105, 106, 107, 108, 109, 110, 111, 112, 113, 114, 115, 116, 117, 118, 119, 120, 121, 122, 123, 124, 125, 126, 127, 128, 129, 130, 131, 132, 133, 134, 135, 136, 137, 138, 139, 140, 141, 142, 143, 144, 145, 146, 147, 148, 149, 150, 151, 407, 408, 409, 410, 411, 412, 413, 414, 415, 416, 417, 418, 419, 420, 421, 422, 423, 424, 425, 426, 427, 428, 429] (by decide +kernel) (by decide +kernel)
set_option maxRecDepth 20000 in
theorem gX6_readLand_X6_begin : GoodIn wsX6_readLand (wsV RX6 35 RX6 yX6_begin wsX6_begin) := goodIn_app (goodIn_of _ (by decide +kernel)) ggX6_readLand_X6_begin
set_option maxRecDepth 20000 in
theorem ggX6_readLand_X3_clear : GoodIn wsX6_readLand wsX3_clear := goodIn_r _ [156, 157, 158, 159, 160, 161, 162, 163, 164, 165, 166, 167, 168, 169, 170, 171, 172, 173, 174, 430, 431, 432, 433, 434, 435, 436, 437, 438, 439, 440, 441, 442, 443, 444] (by decide +kernel) (by decide +kernel)
set_option maxRecDepth 20000 in
theorem gX6_readLand_X3_clear : GoodIn wsX6_readLand (wsV RX6 39 RX3 yX3_clear wsX3_clear) := goodIn_app (goodIn_of _ (by decide +kernel)) ggX6_readLand_X3_clear
set_option maxRecDepth 20000 in
theorem ggX6_readLand_X6_goesOn : GoodIn wsX6_readLand wsX6_goesOn := goodIn_r _ [178, 2, 9, 179, 407, 408, 409, 410, 411, 412, 413, 414, 415, 416, 417, 418, 419, 420, 421, 422, 423, 424, 425, 426, 427, 428, 429] (by decide +kernel) (by decide +kernel)
set_option maxRecDepth 20000 in
theorem gX6_readLand_X6_goesOn : GoodIn wsX6_readLand (wsV RX6 46 RX6 yX6_goesOn wsX6_goesOn) := goodIn_app (goodIn_of _ (by decide +kernel)) ggX6_readLand_X6_goesOn
set_option maxRecDepth 20000 in
theorem ggX6_readLand_X6_landLine : GoodIn wsX6_readLand wsX6_landLine := goodIn_r _ [183, 9, 184, 185, 186, 187, 188, 6, 189, 190, 2, 191, 192, 193, 194, 195, 196, 197, 198, 199, 200, 201, 8, 202, 203, 204, 142, 143, 13, 144, 40, 18, 145, 41, 146, 42, 147, 148, 149, 150, 151, 15, 205, 206, 207, 208, 209, 210, 211, 212, 213, 214, 215, 216, 217, 218, 219, 220, 221, 222, 223, 224, 225, 179, 226, 227, 228, 155, 229, 157, 230, 231, 232, 233, 234, 235, 236, 237, 238, 239, 240, 241, 242, 243, 244, 245, 246, 247, 248, 249, 250, 251, 252, 253, 254, 255, 256, 257, 258, 259, 260, 261, 262, 263, 264, 265, 266, 267, 268, 269, 270, 271, 272, 273, 274, 275, 276, 277, 278, 279, 280, 281, 282, 283, 284, 285, 286, 287, 288, 289, 290, 291, 292, 293, 294, 295, 296, 297, 298, 299, 300, 301, 302, 303, 304, 305, 306, 307, 158, 308, 309, 310, 311, 312, 313, 314, 315, 316, 317, 1, 318, 319, 320, 321, 322, 323, 324, 325, 326, 327, 328, 329, 330, 331, 332, 333, 165, 166, 167, 168, 169, 334, 335, 336, 337, 338, 339, 340, 341, 342, 343, 344, 345, 346, 347, 171, 172, 173, 174, 348, 349, 350, 351, 352, 353, 354, 355, 356, 357, 358, 359, 360, 361, 362, 363, 364, 365, 366, 367, 368, 369, 370, 371, 372, 373, 407, 408, 409, 410, 411, 412, 413, 414, 415, 416, 417, 418, 419, 420, 421, 422, 423, 424, 425, 426, 427, 428, 429, 430, 431, 432, 433, 434, 435, 436, 437, 438, 439, 440, 441, 445, 446, 447, 448, 449, 450, 451, 452, 453, 454, 455, 456, 442, 443, 444] (by decide +kernel) (by decide +kernel)
set_option maxRecDepth 20000 in
theorem gX6_readLand_X6_landLine : GoodIn wsX6_readLand (wsV RX6 50 RX6 yX6_landLine wsX6_landLine) := goodIn_app (goodIn_of _ (by decide +kernel)) ggX6_readLand_X6_landLine
set_option maxRecDepth 20000 in
theorem ggX6_readLand_X6_lineEnd : GoodIn wsX6_readLand wsX6_lineEnd := goodIn_r _ [377, 358, 359, 360, 6, 361, 9, 350, 351, 352, 353, 179, 217, 186, 187, 188, 189, 190, 2, 204, 142, 143, 13, 144, 40, 18, 145, 41, 146, 42, 147, 148, 149, 150, 151, 15, 407, 408, 409, 410, 411, 412, 413, 414, 415, 416, 417, 418, 419, 420, 421, 422, 423, 424, 425, 426, 427, 428, 429] (by decide +kernel) (by decide +kernel)
set_option maxRecDepth 20000 in
theorem gX6_readLand_X6_lineEnd : GoodIn wsX6_readLand (wsV RX6 53 RX6 yX6_lineEnd wsX6_lineEnd) := goodIn_app (goodIn_of _ (by decide +kernel)) ggX6_readLand_X6_lineEnd
set_option maxRecDepth 20000 in
theorem ggX6_readLand_X3_settle : GoodIn wsX6_readLand wsX3_settle := goodIn_r _ [381, 157, 382, 383, 384, 385, 155, 386, 230, 387, 388, 389, 159, 390, 391, 392, 393, 394, 395, 396, 397, 398, 399, 400, 401, 402, 403, 404, 405, 85, 82, 86, 406, 81, 83, 430, 431, 432, 433, 434, 435, 436, 437, 438, 439, 440, 441, 445, 446, 447, 448, 449, 450, 451, 452, 453, 454, 455, 456] (by decide +kernel) (by decide +kernel)
set_option maxRecDepth 20000 in
theorem gX6_readLand_X3_settle : GoodIn wsX6_readLand (wsV RX6 59 RX3 yX3_settle wsX3_settle) := goodIn_app (goodIn_of _ (by decide +kernel)) ggX6_readLand_X3_settle
theorem dX6_readLand_0 : decode cX6_readLand 0 = .ok (.aload_n 0, 1) := by decide +kernel
theorem dX6_readLand_1 : decode cX6_readLand 1 = .ok (.aload_n 1, 1) := by decide +kernel
theorem dX6_readLand_2 : decode cX6_readLand 2 = .ok (.invokevirtual 35, 3) := by decide +kernel
theorem dX6_readLand_5 : decode cX6_readLand 5 = .ok (.aload_n 1, 1) := by decide +kernel
theorem dX6_readLand_6 : decode cX6_readLand 6 = .ok (.invokevirtual 39, 3) := by decide +kernel
theorem dX6_readLand_9 : decode cX6_readLand 9 = .ok (.aload_n 0, 1) := by decide +kernel
theorem dX6_readLand_10 : decode cX6_readLand 10 = .ok (.iconst 0, 1) := by decide +kernel
theorem dX6_readLand_11 : decode cX6_readLand 11 = .ok (.putfield 42, 3) := by decide +kernel
theorem dX6_readLand_14 : decode cX6_readLand 14 = .ok (.iconst 0, 1) := by decide +kernel
theorem dX6_readLand_15 : decode cX6_readLand 15 = .ok (.istore_n 2, 1) := by decide +kernel
theorem dX6_readLand_16 : decode cX6_readLand 16 = .ok (.iload_n 2, 1) := by decide +kernel
theorem dX6_readLand_17 : decode cX6_readLand 17 = .ok (.sipush 1000, 3) := by decide +kernel
theorem dX6_readLand_20 : decode cX6_readLand 20 = .ok (.if_icmp .gt 28, 3) := by decide +kernel
theorem dX6_readLand_23 : decode cX6_readLand 23 = .ok (.aload_n 0, 1) := by decide +kernel
theorem dX6_readLand_24 : decode cX6_readLand 24 = .ok (.invokevirtual 46, 3) := by decide +kernel
theorem dX6_readLand_27 : decode cX6_readLand 27 = .ok (.ifCond .eq 21, 3) := by decide +kernel
theorem dX6_readLand_30 : decode cX6_readLand 30 = .ok (.aload_n 0, 1) := by decide +kernel
theorem dX6_readLand_31 : decode cX6_readLand 31 = .ok (.invokevirtual 50, 3) := by decide +kernel
theorem dX6_readLand_34 : decode cX6_readLand 34 = .ok (.ifCond .eq 8, 3) := by decide +kernel
theorem dX6_readLand_37 : decode cX6_readLand 37 = .ok (.aload_n 0, 1) := by decide +kernel
theorem dX6_readLand_38 : decode cX6_readLand 38 = .ok (.invokevirtual 53, 3) := by decide +kernel
theorem dX6_readLand_41 : decode cX6_readLand 41 = .ok (.pop, 1) := by decide +kernel
theorem dX6_readLand_42 : decode cX6_readLand 42 = .ok (.iinc 2 1, 3) := by decide +kernel
theorem dX6_readLand_45 : decode cX6_readLand 45 = .ok (.goto (-29), 3) := by decide +kernel
theorem dX6_readLand_48 : decode cX6_readLand 48 = .ok (.aload_n 0, 1) := by decide +kernel
theorem dX6_readLand_49 : decode cX6_readLand 49 = .ok (.getfield 56, 3) := by decide +kernel
theorem dX6_readLand_52 : decode cX6_readLand 52 = .ok (.ifCond .ne 7, 3) := by decide +kernel
theorem dX6_readLand_55 : decode cX6_readLand 55 = .ok (.aload_n 1, 1) := by decide +kernel
theorem dX6_readLand_56 : decode cX6_readLand 56 = .ok (.invokevirtual 59, 3) := by decide +kernel
theorem dX6_readLand_59 : decode cX6_readLand 59 = .ok (.aload_n 0, 1) := by decide +kernel
theorem dX6_readLand_60 : decode cX6_readLand 60 = .ok (.getfield 56, 3) := by decide +kernel
theorem dX6_readLand_63 : decode cX6_readLand 63 = .ok (.ireturn, 1) := by decide +kernel
set_option maxRecDepth 20000 in
theorem ggX6_readVows_X6_begin : GoodIn wsX6_readVows wsX6_begin := goodIn_r _ [7, 8, 2, 9, 10, 11, 12, 13, 14, 15, 16, 17, 18, 19, 20, 21, 22, 23, 24, 25, 26, 27, 28, 29, 30, 31, 32, 33, 34, 35, 36, 37, 38, 39, 40, 41, 42, 43, 44, 45, 46, 47, 48, 49, 50, 51, 52, 53, 54, 55, 56, 57, 58, 59, 60, 61, 62, 63, 64, 65, 66, 67, 68, 69, 70, 71, 72, 73, 74, 75, 76, 77, 78, 79, 80, 81, 82, 83, 84, 85, 86, 87, 88, 89, 90, 91, 92, 93, 94, 95, 96, 97, 98, 99, 100, 101, 102, 103, 104, 105, 106, 107, 108, 109, 110, 111, 112, 113, 114, 115, 116, 117, 118, 119, 120, 121, 122, 123, 124, 125, 126, 127, 128, 129, 130, 131, 132, 133, 134, 135, 136, 137, 138, 139, 140, 141, 142, 143, 144, 145, 146, 147, 148, 149, 150, 151, 210, 211, 212, 213, 214, 215, 216, 217, 218, 219, 220, 221, 222, 223, 224, 225, 226, 227, 228, 229, 230, 231, 232] (by decide +kernel) (by decide +kernel)
set_option maxRecDepth 20000 in
theorem gX6_readVows_X6_begin : GoodIn wsX6_readVows (wsV RX6 35 RX6 yX6_begin wsX6_begin) := goodIn_app (goodIn_of _ (by decide +kernel)) ggX6_readVows_X6_begin
set_option maxRecDepth 20000 in
theorem ggX6_readVows_X6_goesOn : GoodIn wsX6_readVows wsX6_goesOn := goodIn_r _ [155, 2, 9, 156, 210, 211, 212, 213, 214, 215, 216, 217, 218, 219, 220, 221, 222, 223, 224, 225, 226, 227, 228, 229, 230, 231, 232] (by decide +kernel) (by decide +kernel)
set_option maxRecDepth 20000 in
theorem gX6_readVows_X6_goesOn : GoodIn wsX6_readVows (wsV RX6 46 RX6 yX6_goesOn wsX6_goesOn) := goodIn_app (goodIn_of _ (by decide +kernel)) ggX6_readVows_X6_goesOn
set_option maxRecDepth 20000 in
theorem ggX6_readVows_X6_vowLine : GoodIn wsX6_readVows wsX6_vowLine := goodIn_r _ [160, 9, 161, 162, 163, 164, 1, 165, 166, 2, 167, 168, 169, 6, 170, 171, 172, 142, 143, 13, 144, 40, 18, 145, 41, 146, 42, 147, 148, 149, 150, 151, 15, 173, 174, 175, 176, 177, 178, 179, 8, 180, 181, 182, 183, 184, 185, 156, 186, 187, 188, 189, 190, 191, 192, 193, 194, 195, 196, 197, 210, 211, 212, 213, 214, 215, 216, 217, 218, 219, 220, 221, 222, 223, 224, 225, 226, 227, 228, 229, 230, 231, 232, 233, 234, 235, 236, 237, 238, 239, 240, 241, 242, 243, 244, 245, 246, 247, 248, 249, 250, 251, 252, 253, 254, 255, 256] (by decide +kernel) (by decide +kernel)
set_option maxRecDepth 20000 in
theorem gX6_readVows_X6_vowLine : GoodIn wsX6_readVows (wsV RX6 65 RX6 yX6_vowLine wsX6_vowLine) := goodIn_app (goodIn_of _ (by decide +kernel)) ggX6_readVows_X6_vowLine
set_option maxRecDepth 20000 in
theorem ggX6_readVows_X6_lineEnd : GoodIn wsX6_readVows wsX6_lineEnd := goodIn_r _ [201, 202, 203, 204, 6, 205, 9, 206, 207, 208, 209, 156, 180, 167, 168, 169, 170, 171, 2, 172, 142, 143, 13, 144, 40, 18, 145, 41, 146, 42, 147, 148, 149, 150, 151, 15, 210, 211, 212, 213, 214, 215, 216, 217, 218, 219, 220, 221, 222, 223, 224, 225, 226, 227, 228, 229, 230, 231, 232] (by decide +kernel) (by decide +kernel)
set_option maxRecDepth 20000 in
theorem gX6_readVows_X6_lineEnd : GoodIn wsX6_readVows (wsV RX6 53 RX6 yX6_lineEnd wsX6_lineEnd) := goodIn_app (goodIn_of _ (by decide +kernel)) ggX6_readVows_X6_lineEnd
theorem dX6_readVows_0 : decode cX6_readVows 0 = .ok (.aload_n 0, 1) := by decide +kernel
theorem dX6_readVows_1 : decode cX6_readVows 1 = .ok (.aload_n 1, 1) := by decide +kernel
theorem dX6_readVows_2 : decode cX6_readVows 2 = .ok (.invokevirtual 35, 3) := by decide +kernel
theorem dX6_readVows_5 : decode cX6_readVows 5 = .ok (.aload_n 0, 1) := by decide +kernel
theorem dX6_readVows_6 : decode cX6_readVows 6 = .ok (.iconst 0, 1) := by decide +kernel
theorem dX6_readVows_7 : decode cX6_readVows 7 = .ok (.putfield 62, 3) := by decide +kernel
theorem dX6_readVows_10 : decode cX6_readVows 10 = .ok (.iconst 0, 1) := by decide +kernel
theorem dX6_readVows_11 : decode cX6_readVows 11 = .ok (.istore_n 2, 1) := by decide +kernel
theorem dX6_readVows_12 : decode cX6_readVows 12 = .ok (.iload_n 2, 1) := by decide +kernel
theorem dX6_readVows_13 : decode cX6_readVows 13 = .ok (.bipush 24, 2) := by decide +kernel
theorem dX6_readVows_15 : decode cX6_readVows 15 = .ok (.if_icmp .gt 28, 3) := by decide +kernel
theorem dX6_readVows_18 : decode cX6_readVows 18 = .ok (.aload_n 0, 1) := by decide +kernel
theorem dX6_readVows_19 : decode cX6_readVows 19 = .ok (.invokevirtual 46, 3) := by decide +kernel
theorem dX6_readVows_22 : decode cX6_readVows 22 = .ok (.ifCond .eq 21, 3) := by decide +kernel
theorem dX6_readVows_25 : decode cX6_readVows 25 = .ok (.aload_n 0, 1) := by decide +kernel
theorem dX6_readVows_26 : decode cX6_readVows 26 = .ok (.invokevirtual 65, 3) := by decide +kernel
theorem dX6_readVows_29 : decode cX6_readVows 29 = .ok (.ifCond .eq 8, 3) := by decide +kernel
theorem dX6_readVows_32 : decode cX6_readVows 32 = .ok (.aload_n 0, 1) := by decide +kernel
theorem dX6_readVows_33 : decode cX6_readVows 33 = .ok (.invokevirtual 53, 3) := by decide +kernel
theorem dX6_readVows_36 : decode cX6_readVows 36 = .ok (.pop, 1) := by decide +kernel
theorem dX6_readVows_37 : decode cX6_readVows 37 = .ok (.iinc 2 1, 3) := by decide +kernel
theorem dX6_readVows_40 : decode cX6_readVows 40 = .ok (.goto (-28), 3) := by decide +kernel
theorem dX6_readVows_43 : decode cX6_readVows 43 = .ok (.aload_n 0, 1) := by decide +kernel
theorem dX6_readVows_44 : decode cX6_readVows 44 = .ok (.getfield 56, 3) := by decide +kernel
theorem dX6_readVows_47 : decode cX6_readVows 47 = .ok (.ireturn, 1) := by decide +kernel
set_option maxRecDepth 20000 in
theorem ggX6_readWill_X6_begin : GoodIn wsX6_readWill wsX6_begin := goodIn_r _ [8, 1, 3, 9, 10, 11, 12, 13, 14, 15, 16, 17, 18, 19, 20, 21, 22, 23, 24, 25, 26, 27, 28, 29, 30, 31, 32, 33, 34, 35, 36, 37, 38, 39, 40, 41, 42, 43, 44, 45, 46, 47, 48, 49, 50, 51, 52, 53, 54, 55, 56, 57, 58, 59, 60, 61, 62, 63, 64, 65, 66, 67, 68, 69, 70, 71, 72, 73, 74, 75, 76, 77, 78, 79, 80, 81, 82, 83, 84, 85, 86, 87, 88, 89, 90, 91, 92, 93, 94, 95, 96, 97, 98, 99, 100, 101, 102, 103, 104, 105, 106, 107, 108, 109, 110, 111, 112, 113, 114, 115, 116, 117, 118, 119, 120, 121, 122, 123, 124, 125, 126, 127, 128, 129, 130, 131, 132, 133, 134, 135, 136, 137, 138, 139, 140, 141, 142, 143, 144, 145, 146, 147, 148, 149, 150, 151, 192, 193, 194, 195, 196, 197, 198, 199, 200, 201, 202, 203, 204, 205, 206, 207, 208, 209, 210, 211, 212, 213, 214] (by decide +kernel) (by decide +kernel)
set_option maxRecDepth 20000 in
theorem gX6_readWill_X6_begin : GoodIn wsX6_readWill (wsV RX6 35 RX6 yX6_begin wsX6_begin) := goodIn_app (goodIn_of _ (by decide +kernel)) ggX6_readWill_X6_begin
set_option maxRecDepth 20000 in
theorem ggX6_readWill_X6_goesOn : GoodIn wsX6_readWill wsX6_goesOn := goodIn_r _ [155, 3, 9, 156, 192, 193, 194, 195, 196, 197, 198, 199, 200, 201, 202, 203, 204, 205, 206, 207, 208, 209, 210, 211, 212, 213, 214] (by decide +kernel) (by decide +kernel)
set_option maxRecDepth 20000 in
theorem gX6_readWill_X6_goesOn : GoodIn wsX6_readWill (wsV RX6 46 RX6 yX6_goesOn wsX6_goesOn) := goodIn_app (goodIn_of _ (by decide +kernel)) ggX6_readWill_X6_goesOn
set_option maxRecDepth 20000 in
theorem ggX6_readWill_X6_heirLine : GoodIn wsX6_readWill wsX6_heirLine := goodIn_r _ [160, 9, 161, 162, 2, 163, 164, 165, 166, 167, 7, 168, 169, 3, 170, 142, 143, 13, 144, 40, 18, 145, 41, 146, 42, 147, 148, 149, 150, 151, 15, 171, 172, 173, 174, 175, 176, 177, 178, 156, 179, 192, 193, 194, 195, 196, 197, 198, 199, 200, 201, 202, 203, 204, 205, 206, 207, 208, 209, 210, 211, 212, 213, 214] (by decide +kernel) (by decide +kernel)
set_option maxRecDepth 20000 in
theorem gX6_readWill_X6_heirLine : GoodIn wsX6_readWill (wsV RX6 71 RX6 yX6_heirLine wsX6_heirLine) := goodIn_app (goodIn_of _ (by decide +kernel)) ggX6_readWill_X6_heirLine
set_option maxRecDepth 20000 in
theorem ggX6_readWill_X6_lineEnd : GoodIn wsX6_readWill wsX6_lineEnd := goodIn_r _ [183, 184, 185, 186, 7, 187, 9, 188, 189, 190, 191, 156, 179, 165, 166, 167, 168, 169, 3, 170, 142, 143, 13, 144, 40, 18, 145, 41, 146, 42, 147, 148, 149, 150, 151, 15, 192, 193, 194, 195, 196, 197, 198, 199, 200, 201, 202, 203, 204, 205, 206, 207, 208, 209, 210, 211, 212, 213, 214] (by decide +kernel) (by decide +kernel)
set_option maxRecDepth 20000 in
theorem gX6_readWill_X6_lineEnd : GoodIn wsX6_readWill (wsV RX6 53 RX6 yX6_lineEnd wsX6_lineEnd) := goodIn_app (goodIn_of _ (by decide +kernel)) ggX6_readWill_X6_lineEnd
theorem dX6_readWill_0 : decode cX6_readWill 0 = .ok (.aload_n 0, 1) := by decide +kernel
theorem dX6_readWill_1 : decode cX6_readWill 1 = .ok (.aload_n 0, 1) := by decide +kernel
theorem dX6_readWill_2 : decode cX6_readWill 2 = .ok (.getfield 22, 3) := by decide +kernel
theorem dX6_readWill_5 : decode cX6_readWill 5 = .ok (.invokevirtual 35, 3) := by decide +kernel
theorem dX6_readWill_8 : decode cX6_readWill 8 = .ok (.aload_n 0, 1) := by decide +kernel
theorem dX6_readWill_9 : decode cX6_readWill 9 = .ok (.iconst 0, 1) := by decide +kernel
theorem dX6_readWill_10 : decode cX6_readWill 10 = .ok (.putfield 68, 3) := by decide +kernel
theorem dX6_readWill_13 : decode cX6_readWill 13 = .ok (.iconst 0, 1) := by decide +kernel
theorem dX6_readWill_14 : decode cX6_readWill 14 = .ok (.istore_n 1, 1) := by decide +kernel
theorem dX6_readWill_15 : decode cX6_readWill 15 = .ok (.iload_n 1, 1) := by decide +kernel
theorem dX6_readWill_16 : decode cX6_readWill 16 = .ok (.bipush 6, 2) := by decide +kernel
theorem dX6_readWill_18 : decode cX6_readWill 18 = .ok (.if_icmp .gt 28, 3) := by decide +kernel
theorem dX6_readWill_21 : decode cX6_readWill 21 = .ok (.aload_n 0, 1) := by decide +kernel
theorem dX6_readWill_22 : decode cX6_readWill 22 = .ok (.invokevirtual 46, 3) := by decide +kernel
theorem dX6_readWill_25 : decode cX6_readWill 25 = .ok (.ifCond .eq 21, 3) := by decide +kernel
theorem dX6_readWill_28 : decode cX6_readWill 28 = .ok (.aload_n 0, 1) := by decide +kernel
theorem dX6_readWill_29 : decode cX6_readWill 29 = .ok (.invokevirtual 71, 3) := by decide +kernel
theorem dX6_readWill_32 : decode cX6_readWill 32 = .ok (.ifCond .eq 8, 3) := by decide +kernel
theorem dX6_readWill_35 : decode cX6_readWill 35 = .ok (.aload_n 0, 1) := by decide +kernel
theorem dX6_readWill_36 : decode cX6_readWill 36 = .ok (.invokevirtual 53, 3) := by decide +kernel
theorem dX6_readWill_39 : decode cX6_readWill 39 = .ok (.pop, 1) := by decide +kernel
theorem dX6_readWill_40 : decode cX6_readWill 40 = .ok (.iinc 1 1, 3) := by decide +kernel
theorem dX6_readWill_43 : decode cX6_readWill 43 = .ok (.goto (-28), 3) := by decide +kernel
theorem dX6_readWill_46 : decode cX6_readWill 46 = .ok (.aload_n 0, 1) := by decide +kernel
theorem dX6_readWill_47 : decode cX6_readWill 47 = .ok (.getfield 56, 3) := by decide +kernel
theorem dX6_readWill_50 : decode cX6_readWill 50 = .ok (.ireturn, 1) := by decide +kernel
set_option maxRecDepth 20000 in
theorem ggX6_begin_X8_begin : GoodIn wsX6_begin wsX8_begin := goodIn_r _ [8, 9, 10, 11, 12, 13, 14, 15, 7, 16, 17, 18, 19, 20, 21, 22, 23, 24, 25, 26, 27, 28, 29, 30, 31, 32, 33, 34, 35, 36, 37, 38, 39, 40, 41, 42, 43, 44, 45, 46, 47, 48, 49, 50, 51, 52, 53, 54, 55, 56, 57, 58, 59, 60, 61, 62, 63, 64, 65, 66, 67, 68, 69, 70, 71, 72, 73, 74, 75, 76, 77, 78, 79, 80, 81, 82, 83, 84, 85, 86, 87, 88, 89, 90, 91, 92, 93, 94, 95, 96, 97, 98, 99, 100, 101, 102, 103, 104, 105, 106, 107, 108, 109, 110, 111, 112, 113, 114, 115, 116, 117, 118, 119, 120, 121, 122, 123, 124, 125, 126, 127, 128, 129, 130, 131, 132, 133, 134, 135, 136, 137, 138, 139, 140, 141, 142, 143, 144, 145, 157, 158, 159, 160, 161, 162, 163, 164, 165, 166, 167, 168] (by decide +kernel) (by decide +kernel)
set_option maxRecDepth 20000 in
theorem gX6_begin_X8_begin : GoodIn wsX6_begin (wsV RX6 74 RX8 yX8_begin wsX8_begin) := goodIn_app (goodIn_of _ (by decide +kernel)) ggX6_begin_X8_begin
theorem dX6_begin_0 : decode cX6_begin 0 = .ok (.aload_n 0, 1) := by decide +kernel
theorem dX6_begin_1 : decode cX6_begin 1 = .ok (.aload_n 1, 1) := by decide +kernel
theorem dX6_begin_2 : decode cX6_begin 2 = .ok (.putfield 22, 3) := by decide +kernel
theorem dX6_begin_5 : decode cX6_begin 5 = .ok (.aload_n 0, 1) := by decide +kernel
theorem dX6_begin_6 : decode cX6_begin 6 = .ok (.iconst 0, 1) := by decide +kernel
theorem dX6_begin_7 : decode cX6_begin 7 = .ok (.putfield 56, 3) := by decide +kernel
theorem dX6_begin_10 : decode cX6_begin 10 = .ok (.aload_n 0, 1) := by decide +kernel
theorem dX6_begin_11 : decode cX6_begin 11 = .ok (.getfield 18, 3) := by decide +kernel
theorem dX6_begin_14 : decode cX6_begin 14 = .ok (.invokevirtual 74, 3) := by decide +kernel
theorem dX6_begin_17 : decode cX6_begin 17 = .ok (.return_, 1) := by decide +kernel
theorem dX6_goesOn_0 : decode cX6_goesOn 0 = .ok (.aload_n 0, 1) := by decide +kernel
theorem dX6_goesOn_1 : decode cX6_goesOn 1 = .ok (.getfield 56, 3) := by decide +kernel
theorem dX6_goesOn_4 : decode cX6_goesOn 4 = .ok (.ifCond .ne 17, 3) := by decide +kernel
theorem dX6_goesOn_7 : decode cX6_goesOn 7 = .ok (.aload_n 0, 1) := by decide +kernel
theorem dX6_goesOn_8 : decode cX6_goesOn 8 = .ok (.getfield 18, 3) := by decide +kernel
theorem dX6_goesOn_11 : decode cX6_goesOn 11 = .ok (.getfield 78, 3) := by decide +kernel
theorem dX6_goesOn_14 : decode cX6_goesOn 14 = .ok (.ifCond .eq 7, 3) := by decide +kernel
theorem dX6_goesOn_17 : decode cX6_goesOn 17 = .ok (.iconst 1, 1) := by decide +kernel
theorem dX6_goesOn_18 : decode cX6_goesOn 18 = .ok (.goto 4, 3) := by decide +kernel
theorem dX6_goesOn_21 : decode cX6_goesOn 21 = .ok (.iconst 0, 1) := by decide +kernel
theorem dX6_goesOn_22 : decode cX6_goesOn 22 = .ok (.ireturn, 1) := by decide +kernel
