set_option maxRecDepth 20000 in
theorem ggX12_hyphen_X12_isRiver : GoodIn wsX12_hyphen wsX12_isRiver := goodIn_r _ [10, 2, 3, 49, 50, 51, 52, 53, 54, 55, 56, 57, 58, 59, 60, 61, 62, 63, 64, 65, 66, 67, 68, 69, 70, 71, 72, 73, 74, 75, 76] (by decide +kernel) (by decide +kernel)
set_option maxRecDepth 20000 in
theorem gX12_hyphen_X12_isRiver : GoodIn wsX12_hyphen (wsV RX12 154 RX12 yX12_isRiver wsX12_isRiver) := goodIn_app (goodIn_of _ (by decide +kernel)) ggX12_hyphen_X12_isRiver
set_option maxRecDepth 20000 in
theorem ggX12_hyphen_X12_netNow : GoodIn wsX12_hyphen wsX12_netNow := goodIn_r _ [14, 15, 2, 16, 17, 18, 19, 20, 21, 22, 23, 24, 25, 26, 27, 28, 29, 30, 31, 32, 33, 34, 35, 36, 37, 38, 49, 50, 51, 52, 53, 54, 55, 56, 57, 58, 59, 60, 61, 62, 63, 64, 89, 90, 91, 92, 93, 94, 95, 96, 97, 98, 99, 65, 66, 67, 68, 69, 70, 71, 72, 73, 74, 75, 76, 46, 47, 48] (by decide +kernel) (by decide +kernel)
set_option maxRecDepth 20000 in
theorem gX12_hyphen_X12_netNow : GoodIn wsX12_hyphen (wsV RX12 177 RX12 yX12_netNow wsX12_netNow) := goodIn_app (goodIn_of _ (by decide +kernel)) ggX12_hyphen_X12_netNow
set_option maxRecDepth 20000 in
theorem ggX12_hyphen_J6_bitCount_0f7a4 : GoodIn wsX12_hyphen wsJ6_bitCount_0f7a4 := goodIn_r _ [42, 43, 44, 45] (by decide +kernel) (by decide +kernel)
set_option maxRecDepth 20000 in
theorem gX12_hyphen_J6_bitCount_0f7a4 : GoodIn wsX12_hyphen (va_wsS RX12 312 yJ6_bitCount_0f7a4 wsJ6_bitCount_0f7a4) := goodIn_app (goodIn_of _ (by decide +kernel)) ggX12_hyphen_J6_bitCount_0f7a4
theorem dX12_hyphen_0 : decode cX12_hyphen 0 = .ok (.aload_n 0, 1) := by decide +kernel
theorem dX12_hyphen_1 : decode cX12_hyphen 1 = .ok (.iload_n 1, 1) := by decide +kernel
theorem dX12_hyphen_2 : decode cX12_hyphen 2 = .ok (.invokevirtual 154, 3) := by decide +kernel
theorem dX12_hyphen_5 : decode cX12_hyphen 5 = .ok (.ifCond .ne 5, 3) := by decide +kernel
theorem dX12_hyphen_8 : decode cX12_hyphen 8 = .ok (.iconst (-1), 1) := by decide +kernel
theorem dX12_hyphen_9 : decode cX12_hyphen 9 = .ok (.ireturn, 1) := by decide +kernel
theorem dX12_hyphen_10 : decode cX12_hyphen 10 = .ok (.aload_n 0, 1) := by decide +kernel
theorem dX12_hyphen_11 : decode cX12_hyphen 11 = .ok (.invokevirtual 177, 3) := by decide +kernel
theorem dX12_hyphen_14 : decode cX12_hyphen 14 = .ok (.getfield 181, 3) := by decide +kernel
theorem dX12_hyphen_17 : decode cX12_hyphen 17 = .ok (.iload_n 1, 1) := by decide +kernel
theorem dX12_hyphen_18 : decode cX12_hyphen 18 = .ok (.iaload, 1) := by decide +kernel
theorem dX12_hyphen_19 : decode cX12_hyphen 19 = .ok (.istore_n 2, 1) := by decide +kernel
theorem dX12_hyphen_20 : decode cX12_hyphen 20 = .ok (.iload_n 2, 1) := by decide +kernel
theorem dX12_hyphen_21 : decode cX12_hyphen 21 = .ok (.invokestatic 312, 3) := by decide +kernel
theorem dX12_hyphen_24 : decode cX12_hyphen 24 = .ok (.iconst 1, 1) := by decide +kernel
theorem dX12_hyphen_25 : decode cX12_hyphen 25 = .ok (.isub, 1) := by decide +kernel
theorem dX12_hyphen_26 : decode cX12_hyphen 26 = .ok (.istore_n 3, 1) := by decide +kernel
theorem dX12_hyphen_27 : decode cX12_hyphen 27 = .ok (.iconst 0, 1) := by decide +kernel
theorem dX12_hyphen_28 : decode cX12_hyphen 28 = .ok (.istore 4, 2) := by decide +kernel
theorem dX12_hyphen_30 : decode cX12_hyphen 30 = .ok (.iload 4, 2) := by decide +kernel
theorem dX12_hyphen_32 : decode cX12_hyphen 32 = .ok (.aload_n 0, 1) := by decide +kernel
theorem dX12_hyphen_33 : decode cX12_hyphen 33 = .ok (.getfield 19, 3) := by decide +kernel
theorem dX12_hyphen_36 : decode cX12_hyphen 36 = .ok (.getfield 151, 3) := by decide +kernel
theorem dX12_hyphen_39 : decode cX12_hyphen 39 = .ok (.if_icmp .ge 34, 3) := by decide +kernel
theorem dX12_hyphen_42 : decode cX12_hyphen 42 = .ok (.iload_n 2, 1) := by decide +kernel
theorem dX12_hyphen_43 : decode cX12_hyphen 43 = .ok (.iload 4, 2) := by decide +kernel
theorem dX12_hyphen_45 : decode cX12_hyphen 45 = .ok (.ishr, 1) := by decide +kernel
theorem dX12_hyphen_46 : decode cX12_hyphen 46 = .ok (.iconst 1, 1) := by decide +kernel
theorem dX12_hyphen_47 : decode cX12_hyphen 47 = .ok (.iand, 1) := by decide +kernel
theorem dX12_hyphen_48 : decode cX12_hyphen 48 = .ok (.ifCond .eq 19, 3) := by decide +kernel
theorem dX12_hyphen_51 : decode cX12_hyphen 51 = .ok (.iload_n 3, 1) := by decide +kernel
theorem dX12_hyphen_52 : decode cX12_hyphen 52 = .ok (.aload_n 0, 1) := by decide +kernel
theorem dX12_hyphen_53 : decode cX12_hyphen 53 = .ok (.getfield 19, 3) := by decide +kernel
theorem dX12_hyphen_56 : decode cX12_hyphen 56 = .ok (.getfield 158, 3) := by decide +kernel
theorem dX12_hyphen_59 : decode cX12_hyphen 59 = .ok (.iload 4, 2) := by decide +kernel
theorem dX12_hyphen_61 : decode cX12_hyphen 61 = .ok (.aaload, 1) := by decide +kernel
theorem dX12_hyphen_62 : decode cX12_hyphen 62 = .ok (.getfield 317, 3) := by decide +kernel
theorem dX12_hyphen_65 : decode cX12_hyphen 65 = .ok (.iadd, 1) := by decide +kernel
theorem dX12_hyphen_66 : decode cX12_hyphen 66 = .ok (.istore_n 3, 1) := by decide +kernel
theorem dX12_hyphen_67 : decode cX12_hyphen 67 = .ok (.iinc 4 1, 3) := by decide +kernel
theorem dX12_hyphen_70 : decode cX12_hyphen 70 = .ok (.goto (-40), 3) := by decide +kernel
theorem dX12_hyphen_73 : decode cX12_hyphen 73 = .ok (.iload_n 3, 1) := by decide +kernel
theorem dX12_hyphen_74 : decode cX12_hyphen 74 = .ok (.ireturn, 1) := by decide +kernel
set_option maxRecDepth 20000 in
theorem ggX12_match_X10_refresh : GoodIn wsX12_match wsX10_refresh := goodIn_r _ [15, 16, 17, 18, 19, 20, 21, 22, 23, 24, 25, 26, 27, 28, 29, 30, 31, 32, 33, 34, 35, 36, 37, 38, 39, 40, 41, 42, 43, 14, 44, 45, 46, 47, 48, 49, 50, 51, 52, 53, 54, 55, 56, 57, 58, 59, 60, 61, 62, 63, 64, 65, 66, 67, 68, 69, 70, 71, 72, 73, 74, 75, 76, 77, 78, 5, 79, 80, 9, 81, 82, 83, 84, 85, 86, 87, 88, 89, 90, 91, 92, 93, 94, 95, 96, 97, 98, 99, 100, 101, 102, 103, 104, 105, 106, 107, 108, 109, 110, 111, 112, 113, 114, 115, 116, 117, 118, 119, 120, 121, 122, 123, 124, 125, 126, 127, 128, 129, 130, 131, 132, 133, 134, 135, 136, 137, 138, 139, 140, 141, 142, 143, 144, 145, 146, 147, 148, 149, 150, 151, 152, 153, 154, 155, 156, 157, 158, 159, 160, 161, 162, 163, 164, 165, 166, 167, 168, 169, 198, 199, 200, 201, 202, 203, 204, 205, 206, 207, 208, 209, 210, 211, 212, 213, 186, 187, 188, 189, 190, 191, 192, 193, 194, 195, 196, 197, 214, 215, 216, 217, 218, 219, 220, 221, 222, 223, 224, 225, 226, 227, 228, 229, 230, 231, 232, 233, 234, 235, 236] (by decide +kernel) (by decide +kernel)
set_option maxRecDepth 20000 in
theorem gX12_match_X10_refresh_u320X4 : GoodIn wsX12_match (va_wsU RX12 320 RX4 "RiverVows$Ways" ⟨"RiverVows$Matches", "refresh", "(LRiverVows$Land;)V"⟩ yX10_refresh wsX10_refresh) := goodIn_app (goodIn_of _ (by decide +kernel)) ggX12_match_X10_refresh
theorem dX12_match_0 : decode cX12_match 0 = .ok (.iload_n 1, 1) := by decide +kernel
theorem dX12_match_1 : decode cX12_match 1 = .ok (.ifCond .lt 16, 3) := by decide +kernel
theorem dX12_match_4 : decode cX12_match 4 = .ok (.iload_n 1, 1) := by decide +kernel
theorem dX12_match_5 : decode cX12_match 5 = .ok (.iconst 3, 1) := by decide +kernel
theorem dX12_match_6 : decode cX12_match 6 = .ok (.aload_n 0, 1) := by decide +kernel
theorem dX12_match_7 : decode cX12_match 7 = .ok (.getfield 19, 3) := by decide +kernel
theorem dX12_match_10 : decode cX12_match 10 = .ok (.getfield 151, 3) := by decide +kernel
theorem dX12_match_13 : decode cX12_match 13 = .ok (.iadd, 1) := by decide +kernel
theorem dX12_match_14 : decode cX12_match 14 = .ok (.if_icmp .lt 6, 3) := by decide +kernel
theorem dX12_match_17 : decode cX12_match 17 = .ok (.bipush (-2), 2) := by decide +kernel
theorem dX12_match_19 : decode cX12_match 19 = .ok (.ireturn, 1) := by decide +kernel
theorem dX12_match_20 : decode cX12_match 20 = .ok (.aload_n 0, 1) := by decide +kernel
theorem dX12_match_21 : decode cX12_match 21 = .ok (.getfield 67, 3) := by decide +kernel
theorem dX12_match_24 : decode cX12_match 24 = .ok (.aload_n 0, 1) := by decide +kernel
theorem dX12_match_25 : decode cX12_match 25 = .ok (.getfield 19, 3) := by decide +kernel
theorem dX12_match_28 : decode cX12_match 28 = .ok (.invokevirtual 320, 3) := by decide +kernel
theorem dX12_match_31 : decode cX12_match 31 = .ok (.aload_n 0, 1) := by decide +kernel
theorem dX12_match_32 : decode cX12_match 32 = .ok (.getfield 67, 3) := by decide +kernel
theorem dX12_match_35 : decode cX12_match 35 = .ok (.getfield 323, 3) := by decide +kernel
theorem dX12_match_38 : decode cX12_match 38 = .ok (.ifCond .ne 6, 3) := by decide +kernel
theorem dX12_match_41 : decode cX12_match 41 = .ok (.bipush (-2), 2) := by decide +kernel
theorem dX12_match_43 : decode cX12_match 43 = .ok (.ireturn, 1) := by decide +kernel
theorem dX12_match_44 : decode cX12_match 44 = .ok (.iload_n 1, 1) := by decide +kernel
theorem dX12_match_45 : decode cX12_match 45 = .ok (.tableswitch 51 0 2 #[27, 35, 43], 27) := by decide +kernel
theorem dX12_match_72 : decode cX12_match 72 = .ok (.aload_n 0, 1) := by decide +kernel
theorem dX12_match_73 : decode cX12_match 73 = .ok (.getfield 67, 3) := by decide +kernel
theorem dX12_match_76 : decode cX12_match 76 = .ok (.getfield 326, 3) := by decide +kernel
theorem dX12_match_79 : decode cX12_match 79 = .ok (.ireturn, 1) := by decide +kernel
theorem dX12_match_80 : decode cX12_match 80 = .ok (.aload_n 0, 1) := by decide +kernel
theorem dX12_match_81 : decode cX12_match 81 = .ok (.getfield 67, 3) := by decide +kernel
theorem dX12_match_84 : decode cX12_match 84 = .ok (.getfield 329, 3) := by decide +kernel
theorem dX12_match_87 : decode cX12_match 87 = .ok (.ireturn, 1) := by decide +kernel
theorem dX12_match_88 : decode cX12_match 88 = .ok (.aload_n 0, 1) := by decide +kernel
theorem dX12_match_89 : decode cX12_match 89 = .ok (.getfield 67, 3) := by decide +kernel
theorem dX12_match_92 : decode cX12_match 92 = .ok (.getfield 323, 3) := by decide +kernel
theorem dX12_match_95 : decode cX12_match 95 = .ok (.ireturn, 1) := by decide +kernel
theorem dX12_match_96 : decode cX12_match 96 = .ok (.aload_n 0, 1) := by decide +kernel
theorem dX12_match_97 : decode cX12_match 97 = .ok (.getfield 67, 3) := by decide +kernel
theorem dX12_match_100 : decode cX12_match 100 = .ok (.getfield 332, 3) := by decide +kernel
theorem dX12_match_103 : decode cX12_match 103 = .ok (.iload_n 1, 1) := by decide +kernel
theorem dX12_match_104 : decode cX12_match 104 = .ok (.iconst 3, 1) := by decide +kernel
theorem dX12_match_105 : decode cX12_match 105 = .ok (.isub, 1) := by decide +kernel
theorem dX12_match_106 : decode cX12_match 106 = .ok (.iaload, 1) := by decide +kernel
theorem dX12_match_107 : decode cX12_match 107 = .ok (.ireturn, 1) := by decide +kernel
set_option maxRecDepth 20000 in
theorem ggX12_chain_X12_areTwo : GoodIn wsX12_chain wsX12_areTwo := goodIn_r _ [6, 7, 8, 9, 5, 10, 11, 12, 54, 55, 56, 57, 58, 59, 60, 61, 62, 63, 64, 65, 66, 67, 68, 69, 70, 71, 72, 73, 74, 75, 76, 77, 78, 79, 80, 81] (by decide +kernel) (by decide +kernel)
set_option maxRecDepth 20000 in
theorem gX12_chain_X12_areTwo : GoodIn wsX12_chain (wsV RX12 238 RX12 yX12_areTwo wsX12_areTwo) := goodIn_app (goodIn_of _ (by decide +kernel)) ggX12_chain_X12_areTwo
set_option maxRecDepth 20000 in
theorem ggX12_chain_X12_priceChains : GoodIn wsX12_chain wsX12_priceChains := goodIn_r _ [16, 1, 11, 12, 17, 18, 19, 5, 20, 21, 22, 23, 24, 25, 26, 27, 28, 29, 30, 31, 32, 33, 34, 35, 36, 37, 38, 39, 40, 41, 42, 43, 44, 45, 46, 47, 48, 49, 54, 55, 56, 57, 58, 59, 60, 61, 62, 63, 64, 65, 66, 67, 68, 69, 70, 71, 72, 73, 74, 75, 76, 77, 78, 79, 80, 81, 82, 83, 84, 85, 86, 87, 88, 89, 90, 91, 92, 93] (by decide +kernel) (by decide +kernel)
set_option maxRecDepth 20000 in
theorem gX12_chain_X12_priceChains : GoodIn wsX12_chain (wsV RX12 333 RX12 yX12_priceChains wsX12_priceChains) := goodIn_app (goodIn_of _ (by decide +kernel)) ggX12_chain_X12_priceChains
set_option maxRecDepth 20000 in
theorem ggX12_chain_X12_chainLink : GoodIn wsX12_chain wsX12_chainLink := goodIn_r _ [53, 11, 12, 1, 21, 22, 23, 5, 24, 25, 26, 27, 28, 29, 30, 31, 32, 33, 34, 35, 36, 37, 38, 39, 40, 41, 42, 43, 44, 45, 46, 47, 48, 49, 54, 55, 56, 57, 58, 59, 60, 61, 62, 63, 64, 65, 66, 67, 68, 69, 70, 71, 72, 73, 74, 75, 76, 77, 78, 79, 80, 81, 82, 83, 84, 85, 86, 87, 88, 89, 90, 91, 92, 93] (by decide +kernel) (by decide +kernel)
set_option maxRecDepth 20000 in
theorem gX12_chain_X12_chainLink : GoodIn wsX12_chain (wsV RX12 336 RX12 yX12_chainLink wsX12_chainLink) := goodIn_app (goodIn_of _ (by decide +kernel)) ggX12_chain_X12_chainLink
theorem dX12_chain_0 : decode cX12_chain 0 = .ok (.aload_n 0, 1) := by decide +kernel
theorem dX12_chain_1 : decode cX12_chain 1 = .ok (.iload_n 1, 1) := by decide +kernel
theorem dX12_chain_2 : decode cX12_chain 2 = .ok (.iload_n 2, 1) := by decide +kernel
theorem dX12_chain_3 : decode cX12_chain 3 = .ok (.invokevirtual 238, 3) := by decide +kernel
theorem dX12_chain_6 : decode cX12_chain 6 = .ok (.ifCond .eq 7, 3) := by decide +kernel
theorem dX12_chain_9 : decode cX12_chain 9 = .ok (.iload_n 3, 1) := by decide +kernel
theorem dX12_chain_10 : decode cX12_chain 10 = .ok (.ifCond .ge 5, 3) := by decide +kernel
theorem dX12_chain_13 : decode cX12_chain 13 = .ok (.iconst (-1), 1) := by decide +kernel
theorem dX12_chain_14 : decode cX12_chain 14 = .ok (.ireturn, 1) := by decide +kernel
theorem dX12_chain_15 : decode cX12_chain 15 = .ok (.aload_n 0, 1) := by decide +kernel
theorem dX12_chain_16 : decode cX12_chain 16 = .ok (.iload_n 2, 1) := by decide +kernel
theorem dX12_chain_17 : decode cX12_chain 17 = .ok (.invokevirtual 333, 3) := by decide +kernel
theorem dX12_chain_20 : decode cX12_chain 20 = .ok (.aload_n 0, 1) := by decide +kernel
theorem dX12_chain_21 : decode cX12_chain 21 = .ok (.getfield 83, 3) := by decide +kernel
theorem dX12_chain_24 : decode cX12_chain 24 = .ok (.iload_n 1, 1) := by decide +kernel
theorem dX12_chain_25 : decode cX12_chain 25 = .ok (.iaload, 1) := by decide +kernel
theorem dX12_chain_26 : decode cX12_chain 26 = .ok (.istore 4, 2) := by decide +kernel
theorem dX12_chain_28 : decode cX12_chain 28 = .ok (.iload 4, 2) := by decide +kernel
theorem dX12_chain_30 : decode cX12_chain 30 = .ok (.iconst (-1), 1) := by decide +kernel
theorem dX12_chain_31 : decode cX12_chain 31 = .ok (.if_icmp .ne 5, 3) := by decide +kernel
theorem dX12_chain_34 : decode cX12_chain 34 = .ok (.iconst (-1), 1) := by decide +kernel
theorem dX12_chain_35 : decode cX12_chain 35 = .ok (.ireturn, 1) := by decide +kernel
theorem dX12_chain_36 : decode cX12_chain 36 = .ok (.iload_n 3, 1) := by decide +kernel
theorem dX12_chain_37 : decode cX12_chain 37 = .ok (.ifCond .ne 9, 3) := by decide +kernel
theorem dX12_chain_40 : decode cX12_chain 40 = .ok (.iload 4, 2) := by decide +kernel
theorem dX12_chain_42 : decode cX12_chain 42 = .ok (.bipush 16, 2) := by decide +kernel
theorem dX12_chain_44 : decode cX12_chain 44 = .ok (.idiv, 1) := by decide +kernel
theorem dX12_chain_45 : decode cX12_chain 45 = .ok (.ireturn, 1) := by decide +kernel
theorem dX12_chain_46 : decode cX12_chain 46 = .ok (.iload 4, 2) := by decide +kernel
theorem dX12_chain_48 : decode cX12_chain 48 = .ok (.bipush 16, 2) := by decide +kernel
theorem dX12_chain_50 : decode cX12_chain 50 = .ok (.irem, 1) := by decide +kernel
theorem dX12_chain_51 : decode cX12_chain 51 = .ok (.istore 5, 2) := by decide +kernel
theorem dX12_chain_53 : decode cX12_chain 53 = .ok (.iload_n 3, 1) := by decide +kernel
theorem dX12_chain_54 : decode cX12_chain 54 = .ok (.iconst 1, 1) := by decide +kernel
theorem dX12_chain_55 : decode cX12_chain 55 = .ok (.if_icmp .ne 6, 3) := by decide +kernel
theorem dX12_chain_58 : decode cX12_chain 58 = .ok (.iload 5, 2) := by decide +kernel
theorem dX12_chain_60 : decode cX12_chain 60 = .ok (.ireturn, 1) := by decide +kernel
theorem dX12_chain_61 : decode cX12_chain 61 = .ok (.iload_n 3, 1) := by decide +kernel
theorem dX12_chain_62 : decode cX12_chain 62 = .ok (.iconst 2, 1) := by decide +kernel
theorem dX12_chain_63 : decode cX12_chain 63 = .ok (.isub, 1) := by decide +kernel
theorem dX12_chain_64 : decode cX12_chain 64 = .ok (.iload 5, 2) := by decide +kernel
theorem dX12_chain_66 : decode cX12_chain 66 = .ok (.if_icmp .gt 14, 3) := by decide +kernel
theorem dX12_chain_69 : decode cX12_chain 69 = .ok (.aload_n 0, 1) := by decide +kernel
theorem dX12_chain_70 : decode cX12_chain 70 = .ok (.iload_n 1, 1) := by decide +kernel
theorem dX12_chain_71 : decode cX12_chain 71 = .ok (.iload_n 3, 1) := by decide +kernel
theorem dX12_chain_72 : decode cX12_chain 72 = .ok (.iconst 2, 1) := by decide +kernel
theorem dX12_chain_73 : decode cX12_chain 73 = .ok (.isub, 1) := by decide +kernel
theorem dX12_chain_74 : decode cX12_chain 74 = .ok (.invokevirtual 336, 3) := by decide +kernel
theorem dX12_chain_77 : decode cX12_chain 77 = .ok (.goto 4, 3) := by decide +kernel
theorem dX12_chain_80 : decode cX12_chain 80 = .ok (.iconst (-1), 1) := by decide +kernel
theorem dX12_chain_81 : decode cX12_chain 81 = .ok (.ireturn, 1) := by decide +kernel
set_option maxRecDepth 20000 in
theorem ggX12_peace_J6_bitCount_0f7a4 : GoodIn wsX12_peace wsJ6_bitCount_0f7a4 := goodIn_r _ [8, 9, 10, 11] (by decide +kernel) (by decide +kernel)
set_option maxRecDepth 20000 in
theorem gX12_peace_J6_bitCount_0f7a4 : GoodIn wsX12_peace (va_wsS RX12 312 yJ6_bitCount_0f7a4 wsJ6_bitCount_0f7a4) := goodIn_app (goodIn_of _ (by decide +kernel)) ggX12_peace_J6_bitCount_0f7a4
set_option maxRecDepth 20000 in
theorem ggX12_peace_X12_isPeace : GoodIn wsX12_peace wsX12_isPeace := goodIn_r _ [16, 1, 2, 17, 18, 19, 15, 20, 21, 3, 4, 22, 23, 24, 25, 26, 27, 28, 29, 30, 31, 32, 33, 34, 35, 36, 37, 38, 39, 40, 41, 42, 43, 44, 45, 46, 47, 48, 49, 50, 51, 52, 53, 54, 55, 56, 57, 58, 59, 60, 61, 62, 63, 64, 65, 66, 67, 68, 69, 70, 71, 72, 73, 74, 75, 76, 77, 78, 79, 80, 81, 82, 83, 84, 85, 86, 87, 88, 89, 90, 91, 92, 93, 94, 95, 96, 97, 98, 99, 100, 101, 102, 103, 104, 105, 106, 107, 108, 109, 110, 111, 112, 113, 114, 115, 116, 117, 118, 119, 120, 121, 122, 123, 124, 125, 126, 127, 128, 129, 130, 131, 132, 133, 134] (by decide +kernel) (by decide +kernel)
set_option maxRecDepth 20000 in
theorem gX12_peace_X12_isPeace : GoodIn wsX12_peace (wsV RX12 345 RX12 yX12_isPeace wsX12_isPeace) := goodIn_app (goodIn_of _ (by decide +kernel)) ggX12_peace_X12_isPeace
theorem dX12_peace_0 : decode cX12_peace 0 = .ok (.iconst 0, 1) := by decide +kernel
theorem dX12_peace_1 : decode cX12_peace 1 = .ok (.istore_n 1, 1) := by decide +kernel
theorem dX12_peace_2 : decode cX12_peace 2 = .ok (.iconst 0, 1) := by decide +kernel
theorem dX12_peace_3 : decode cX12_peace 3 = .ok (.istore_n 2, 1) := by decide +kernel
theorem dX12_peace_4 : decode cX12_peace 4 = .ok (.iload_n 2, 1) := by decide +kernel
theorem dX12_peace_5 : decode cX12_peace 5 = .ok (.aload_n 0, 1) := by decide +kernel
theorem dX12_peace_6 : decode cX12_peace 6 = .ok (.getfield 19, 3) := by decide +kernel
theorem dX12_peace_9 : decode cX12_peace 9 = .ok (.getfield 151, 3) := by decide +kernel
theorem dX12_peace_12 : decode cX12_peace 12 = .ok (.if_icmp .ge 28, 3) := by decide +kernel
theorem dX12_peace_15 : decode cX12_peace 15 = .ok (.aload_n 0, 1) := by decide +kernel
theorem dX12_peace_16 : decode cX12_peace 16 = .ok (.getfield 38, 3) := by decide +kernel
theorem dX12_peace_19 : decode cX12_peace 19 = .ok (.getfield 170, 3) := by decide +kernel
theorem dX12_peace_22 : decode cX12_peace 22 = .ok (.iload_n 2, 1) := by decide +kernel
theorem dX12_peace_23 : decode cX12_peace 23 = .ok (.iaload, 1) := by decide +kernel
theorem dX12_peace_24 : decode cX12_peace 24 = .ok (.iconst (-1), 1) := by decide +kernel
theorem dX12_peace_25 : decode cX12_peace 25 = .ok (.if_icmp .eq 9, 3) := by decide +kernel
theorem dX12_peace_28 : decode cX12_peace 28 = .ok (.iload_n 1, 1) := by decide +kernel
theorem dX12_peace_29 : decode cX12_peace 29 = .ok (.iconst 1, 1) := by decide +kernel
theorem dX12_peace_30 : decode cX12_peace 30 = .ok (.iload_n 2, 1) := by decide +kernel
theorem dX12_peace_31 : decode cX12_peace 31 = .ok (.ishl, 1) := by decide +kernel
theorem dX12_peace_32 : decode cX12_peace 32 = .ok (.ior, 1) := by decide +kernel
theorem dX12_peace_33 : decode cX12_peace 33 = .ok (.istore_n 1, 1) := by decide +kernel
theorem dX12_peace_34 : decode cX12_peace 34 = .ok (.iinc 2 1, 3) := by decide +kernel
theorem dX12_peace_37 : decode cX12_peace 37 = .ok (.goto (-33), 3) := by decide +kernel
theorem dX12_peace_40 : decode cX12_peace 40 = .ok (.iconst (-1), 1) := by decide +kernel
theorem dX12_peace_41 : decode cX12_peace 41 = .ok (.istore_n 2, 1) := by decide +kernel
theorem dX12_peace_42 : decode cX12_peace 42 = .ok (.iconst 0, 1) := by decide +kernel
theorem dX12_peace_43 : decode cX12_peace 43 = .ok (.istore_n 3, 1) := by decide +kernel
theorem dX12_peace_44 : decode cX12_peace 44 = .ok (.iload_n 3, 1) := by decide +kernel
theorem dX12_peace_45 : decode cX12_peace 45 = .ok (.bipush 64, 2) := by decide +kernel
theorem dX12_peace_47 : decode cX12_peace 47 = .ok (.if_icmp .ge 55, 3) := by decide +kernel
theorem dX12_peace_50 : decode cX12_peace 50 = .ok (.iload_n 2, 1) := by decide +kernel
theorem dX12_peace_51 : decode cX12_peace 51 = .ok (.iconst (-1), 1) := by decide +kernel
theorem dX12_peace_52 : decode cX12_peace 52 = .ok (.if_icmp .eq 14, 3) := by decide +kernel
theorem dX12_peace_55 : decode cX12_peace 55 = .ok (.iload_n 3, 1) := by decide +kernel
theorem dX12_peace_56 : decode cX12_peace 56 = .ok (.invokestatic 312, 3) := by decide +kernel
theorem dX12_peace_59 : decode cX12_peace 59 = .ok (.iload_n 2, 1) := by decide +kernel
theorem dX12_peace_60 : decode cX12_peace 60 = .ok (.invokestatic 312, 3) := by decide +kernel
theorem dX12_peace_63 : decode cX12_peace 63 = .ok (.if_icmp .ge 7, 3) := by decide +kernel
theorem dX12_peace_66 : decode cX12_peace 66 = .ok (.iconst 1, 1) := by decide +kernel
theorem dX12_peace_67 : decode cX12_peace 67 = .ok (.goto 4, 3) := by decide +kernel
theorem dX12_peace_70 : decode cX12_peace 70 = .ok (.iconst 0, 1) := by decide +kernel
theorem dX12_peace_71 : decode cX12_peace 71 = .ok (.istore 4, 2) := by decide +kernel
theorem dX12_peace_73 : decode cX12_peace 73 = .ok (.iload_n 3, 1) := by decide +kernel
theorem dX12_peace_74 : decode cX12_peace 74 = .ok (.iload_n 1, 1) := by decide +kernel
theorem dX12_peace_75 : decode cX12_peace 75 = .ok (.iconst (-1), 1) := by decide +kernel
theorem dX12_peace_76 : decode cX12_peace 76 = .ok (.ixor, 1) := by decide +kernel
theorem dX12_peace_77 : decode cX12_peace 77 = .ok (.iand, 1) := by decide +kernel
theorem dX12_peace_78 : decode cX12_peace 78 = .ok (.ifCond .ne 18, 3) := by decide +kernel
theorem dX12_peace_81 : decode cX12_peace 81 = .ok (.iload 4, 2) := by decide +kernel
theorem dX12_peace_83 : decode cX12_peace 83 = .ok (.ifCond .eq 13, 3) := by decide +kernel
theorem dX12_peace_86 : decode cX12_peace 86 = .ok (.aload_n 0, 1) := by decide +kernel
theorem dX12_peace_87 : decode cX12_peace 87 = .ok (.iload_n 3, 1) := by decide +kernel
theorem dX12_peace_88 : decode cX12_peace 88 = .ok (.invokevirtual 345, 3) := by decide +kernel
theorem dX12_peace_91 : decode cX12_peace 91 = .ok (.ifCond .eq 5, 3) := by decide +kernel
theorem dX12_peace_94 : decode cX12_peace 94 = .ok (.iload_n 3, 1) := by decide +kernel
theorem dX12_peace_95 : decode cX12_peace 95 = .ok (.istore_n 2, 1) := by decide +kernel
theorem dX12_peace_96 : decode cX12_peace 96 = .ok (.iinc 3 1, 3) := by decide +kernel
theorem dX12_peace_99 : decode cX12_peace 99 = .ok (.goto (-55), 3) := by decide +kernel
theorem dX12_peace_102 : decode cX12_peace 102 = .ok (.iload_n 2, 1) := by decide +kernel
theorem dX12_peace_103 : decode cX12_peace 103 = .ok (.ireturn, 1) := by decide +kernel
set_option maxRecDepth 20000 in
theorem ggX12_isPeace_X12_netNow : GoodIn wsX12_isPeace wsX12_netNow := goodIn_r _ [7, 8, 1, 9, 10, 11, 12, 13, 14, 15, 16, 17, 18, 19, 20, 21, 22, 23, 24, 25, 26, 27, 28, 29, 30, 31, 70, 71, 72, 73, 74, 75, 76, 77, 78, 79, 80, 81, 82, 83, 84, 85, 98, 99, 100, 101, 102, 103, 104, 105, 106, 107, 108, 86, 87, 88, 89, 90, 91, 92, 93, 94, 95, 96, 97, 109, 110, 111] (by decide +kernel) (by decide +kernel)
set_option maxRecDepth 20000 in
theorem gX12_isPeace_X12_netNow : GoodIn wsX12_isPeace (wsV RX12 177 RX12 yX12_netNow wsX12_netNow) := goodIn_app (goodIn_of _ (by decide +kernel)) ggX12_isPeace_X12_netNow
set_option maxRecDepth 20000 in
theorem ggX12_isPeace_X5_release : GoodIn wsX12_isPeace wsX5_release := goodIn_r _ [35, 22, 23, 28, 29, 30, 14, 31, 21, 16, 109, 110, 111, 86, 87, 88, 89, 90, 91, 92, 93, 94, 95, 96, 97] (by decide +kernel) (by decide +kernel)
set_option maxRecDepth 20000 in
theorem gX12_isPeace_X5_release : GoodIn wsX12_isPeace (wsV RX12 299 RX5 yX5_release wsX5_release) := goodIn_app (goodIn_of _ (by decide +kernel)) ggX12_isPeace_X5_release
set_option maxRecDepth 20000 in
theorem ggX12_isPeace_X12_season : GoodIn wsX12_isPeace wsX12_season := goodIn_r _ [39, 9, 40, 70, 71, 72, 73, 74, 75, 76, 77, 78, 79, 80, 81, 82, 83, 84, 85, 98, 99, 100, 101, 102, 103, 104, 105, 106, 107, 108] (by decide +kernel) (by decide +kernel)
set_option maxRecDepth 20000 in
theorem gX12_isPeace_X12_season : GoodIn wsX12_isPeace (wsV RX12 226 RX12 yX12_season wsX12_season) := goodIn_app (goodIn_of _ (by decide +kernel)) ggX12_isPeace_X12_season
set_option maxRecDepth 20000 in
theorem ggX12_isPeace_X5_isNeedy : GoodIn wsX12_isPeace wsX5_isNeedy := goodIn_r _ [44, 45, 46, 47, 14, 48, 21, 16, 49, 50, 51, 52, 53, 54, 55, 56, 57, 22, 23, 58, 59, 60, 61, 62, 63, 64, 65, 66, 67, 68, 69, 109, 110, 111, 86, 87, 88, 89, 90, 91, 92, 93, 94, 95, 96, 97, 112, 113, 114, 115, 116, 117, 118, 119, 120, 121, 122, 123] (by decide +kernel) (by decide +kernel)
set_option maxRecDepth 20000 in
theorem gX12_isPeace_X5_isNeedy : GoodIn wsX12_isPeace (wsV RX12 293 RX5 yX5_isNeedy wsX5_isNeedy) := goodIn_app (goodIn_of _ (by decide +kernel)) ggX12_isPeace_X5_isNeedy
theorem dX12_isPeace_0 : decode cX12_isPeace 0 = .ok (.aload_n 0, 1) := by decide +kernel
theorem dX12_isPeace_1 : decode cX12_isPeace 1 = .ok (.invokevirtual 177, 3) := by decide +kernel
theorem dX12_isPeace_4 : decode cX12_isPeace 4 = .ok (.astore_n 2, 1) := by decide +kernel
theorem dX12_isPeace_5 : decode cX12_isPeace 5 = .ok (.iconst 0, 1) := by decide +kernel
theorem dX12_isPeace_6 : decode cX12_isPeace 6 = .ok (.istore_n 3, 1) := by decide +kernel
theorem dX12_isPeace_7 : decode cX12_isPeace 7 = .ok (.iload_n 3, 1) := by decide +kernel
theorem dX12_isPeace_8 : decode cX12_isPeace 8 = .ok (.aload_n 0, 1) := by decide +kernel
theorem dX12_isPeace_9 : decode cX12_isPeace 9 = .ok (.getfield 19, 3) := by decide +kernel
theorem dX12_isPeace_12 : decode cX12_isPeace 12 = .ok (.getfield 151, 3) := by decide +kernel
theorem dX12_isPeace_15 : decode cX12_isPeace 15 = .ok (.if_icmp .ge 23, 3) := by decide +kernel
theorem dX12_isPeace_18 : decode cX12_isPeace 18 = .ok (.iload_n 1, 1) := by decide +kernel
theorem dX12_isPeace_19 : decode cX12_isPeace 19 = .ok (.iload_n 3, 1) := by decide +kernel
theorem dX12_isPeace_20 : decode cX12_isPeace 20 = .ok (.ishr, 1) := by decide +kernel
theorem dX12_isPeace_21 : decode cX12_isPeace 21 = .ok (.iconst 1, 1) := by decide +kernel
theorem dX12_isPeace_22 : decode cX12_isPeace 22 = .ok (.iand, 1) := by decide +kernel
theorem dX12_isPeace_23 : decode cX12_isPeace 23 = .ok (.ifCond .eq 9, 3) := by decide +kernel
theorem dX12_isPeace_26 : decode cX12_isPeace 26 = .ok (.aload_n 2, 1) := by decide +kernel
theorem dX12_isPeace_27 : decode cX12_isPeace 27 = .ok (.iload_n 3, 1) := by decide +kernel
theorem dX12_isPeace_28 : decode cX12_isPeace 28 = .ok (.invokevirtual 299, 3) := by decide +kernel
theorem dX12_isPeace_31 : decode cX12_isPeace 31 = .ok (.pop, 1) := by decide +kernel
theorem dX12_isPeace_32 : decode cX12_isPeace 32 = .ok (.iinc 3 1, 3) := by decide +kernel
theorem dX12_isPeace_35 : decode cX12_isPeace 35 = .ok (.goto (-28), 3) := by decide +kernel
theorem dX12_isPeace_38 : decode cX12_isPeace 38 = .ok (.aload_n 2, 1) := by decide +kernel
theorem dX12_isPeace_39 : decode cX12_isPeace 39 = .ok (.aload_n 0, 1) := by decide +kernel
theorem dX12_isPeace_40 : decode cX12_isPeace 40 = .ok (.invokevirtual 226, 3) := by decide +kernel
theorem dX12_isPeace_43 : decode cX12_isPeace 43 = .ok (.invokevirtual 293, 3) := by decide +kernel
theorem dX12_isPeace_46 : decode cX12_isPeace 46 = .ok (.ifCond .ne 7, 3) := by decide +kernel
theorem dX12_isPeace_49 : decode cX12_isPeace 49 = .ok (.iconst 1, 1) := by decide +kernel
theorem dX12_isPeace_50 : decode cX12_isPeace 50 = .ok (.goto 4, 3) := by decide +kernel
theorem dX12_isPeace_53 : decode cX12_isPeace 53 = .ok (.iconst 0, 1) := by decide +kernel
theorem dX12_isPeace_54 : decode cX12_isPeace 54 = .ok (.ireturn, 1) := by decide +kernel
set_option maxRecDepth 20000 in
theorem ggX12_cathedral_X12_isSeason : GoodIn wsX12_cathedral wsX12_isSeason := goodIn_r _ [10] (by decide +kernel) (by decide +kernel)
set_option maxRecDepth 20000 in
theorem gX12_cathedral_X12_isSeason : GoodIn wsX12_cathedral (va_wsS RX12 223 yX12_isSeason wsX12_isSeason) := goodIn_app (goodIn_of _ (by decide +kernel)) ggX12_cathedral_X12_isSeason
set_option maxRecDepth 20000 in
theorem ggX12_cathedral_X12_netNow : GoodIn wsX12_cathedral wsX12_netNow := goodIn_r _ [14, 15, 1, 3, 4, 16, 17, 18, 19, 20, 21, 22, 23, 24, 25, 26, 27, 28, 29, 30, 31, 32, 33, 34, 35, 36, 50, 51, 52, 53, 54, 55, 56, 57, 58, 59, 60, 61, 62, 63, 64, 65, 78, 79, 80, 81, 82, 83, 84, 85, 86, 87, 88, 66, 67, 68, 69, 70, 71, 72, 73, 74, 75, 76, 77, 101, 102, 103] (by decide +kernel) (by decide +kernel)
set_option maxRecDepth 20000 in
theorem gX12_cathedral_X12_netNow : GoodIn wsX12_cathedral (wsV RX12 177 RX12 yX12_netNow wsX12_netNow) := goodIn_app (goodIn_of _ (by decide +kernel)) ggX12_cathedral_X12_netNow
set_option maxRecDepth 20000 in
theorem ggX12_cathedral_X5_waters : GoodIn wsX12_cathedral wsX5_waters := goodIn_r _ [40, 26, 41, 42, 43, 21, 27, 28, 101, 102, 103, 66, 67, 68, 69, 70, 71, 72, 73, 74, 75, 76, 77, 89, 90, 91, 92, 93, 94, 95, 96, 97, 98, 99, 100] (by decide +kernel) (by decide +kernel)
set_option maxRecDepth 20000 in
theorem gX12_cathedral_X5_waters : GoodIn wsX12_cathedral (wsV RX12 188 RX5 yX5_waters wsX5_waters) := goodIn_app (goodIn_of _ (by decide +kernel)) ggX12_cathedral_X5_waters
set_option maxRecDepth 20000 in
theorem ggX12_cathedral_X3_water : GoodIn wsX12_cathedral wsX3_water := goodIn_r _ [48, 49, 66, 67, 68, 69, 70, 71, 72, 73, 74, 75, 76, 77] (by decide +kernel) (by decide +kernel)
set_option maxRecDepth 20000 in
theorem gX12_cathedral_X3_water : GoodIn wsX12_cathedral (wsV RX12 184 RX3 yX3_water wsX3_water) := goodIn_app (goodIn_of _ (by decide +kernel)) ggX12_cathedral_X3_water
theorem dX12_cathedral_0 : decode cX12_cathedral 0 = .ok (.iload_n 1, 1) := by decide +kernel
theorem dX12_cathedral_1 : decode cX12_cathedral 1 = .ok (.invokestatic 223, 3) := by decide +kernel
theorem dX12_cathedral_4 : decode cX12_cathedral 4 = .ok (.ifCond .ne 5, 3) := by decide +kernel
theorem dX12_cathedral_7 : decode cX12_cathedral 7 = .ok (.iconst (-1), 1) := by decide +kernel
theorem dX12_cathedral_8 : decode cX12_cathedral 8 = .ok (.ireturn, 1) := by decide +kernel
theorem dX12_cathedral_9 : decode cX12_cathedral 9 = .ok (.aload_n 0, 1) := by decide +kernel
theorem dX12_cathedral_10 : decode cX12_cathedral 10 = .ok (.invokevirtual 177, 3) := by decide +kernel
theorem dX12_cathedral_13 : decode cX12_cathedral 13 = .ok (.astore_n 2, 1) := by decide +kernel
theorem dX12_cathedral_14 : decode cX12_cathedral 14 = .ok (.iconst (-1), 1) := by decide +kernel
theorem dX12_cathedral_15 : decode cX12_cathedral 15 = .ok (.istore_n 3, 1) := by decide +kernel
theorem dX12_cathedral_16 : decode cX12_cathedral 16 = .ok (.iconst (-1), 1) := by decide +kernel
theorem dX12_cathedral_17 : decode cX12_cathedral 17 = .ok (.istore 4, 2) := by decide +kernel
theorem dX12_cathedral_19 : decode cX12_cathedral 19 = .ok (.iconst 0, 1) := by decide +kernel
theorem dX12_cathedral_20 : decode cX12_cathedral 20 = .ok (.istore 5, 2) := by decide +kernel
theorem dX12_cathedral_22 : decode cX12_cathedral 22 = .ok (.iload 5, 2) := by decide +kernel
theorem dX12_cathedral_24 : decode cX12_cathedral 24 = .ok (.aload_n 0, 1) := by decide +kernel
theorem dX12_cathedral_25 : decode cX12_cathedral 25 = .ok (.getfield 19, 3) := by decide +kernel
theorem dX12_cathedral_28 : decode cX12_cathedral 28 = .ok (.getfield 151, 3) := by decide +kernel
theorem dX12_cathedral_31 : decode cX12_cathedral 31 = .ok (.if_icmp .ge 70, 3) := by decide +kernel
theorem dX12_cathedral_34 : decode cX12_cathedral 34 = .ok (.aload_n 0, 1) := by decide +kernel
theorem dX12_cathedral_35 : decode cX12_cathedral 35 = .ok (.getfield 38, 3) := by decide +kernel
theorem dX12_cathedral_38 : decode cX12_cathedral 38 = .ok (.getfield 170, 3) := by decide +kernel
theorem dX12_cathedral_41 : decode cX12_cathedral 41 = .ok (.iload 5, 2) := by decide +kernel
theorem dX12_cathedral_43 : decode cX12_cathedral 43 = .ok (.iaload, 1) := by decide +kernel
theorem dX12_cathedral_44 : decode cX12_cathedral 44 = .ok (.istore 6, 2) := by decide +kernel
theorem dX12_cathedral_46 : decode cX12_cathedral 46 = .ok (.iload 6, 2) := by decide +kernel
theorem dX12_cathedral_48 : decode cX12_cathedral 48 = .ok (.iconst (-1), 1) := by decide +kernel
theorem dX12_cathedral_49 : decode cX12_cathedral 49 = .ok (.if_icmp .eq 46, 3) := by decide +kernel
theorem dX12_cathedral_52 : decode cX12_cathedral 52 = .ok (.aload_n 0, 1) := by decide +kernel
theorem dX12_cathedral_53 : decode cX12_cathedral 53 = .ok (.getfield 19, 3) := by decide +kernel
theorem dX12_cathedral_56 : decode cX12_cathedral 56 = .ok (.aload_n 2, 1) := by decide +kernel
theorem dX12_cathedral_57 : decode cX12_cathedral 57 = .ok (.iload 6, 2) := by decide +kernel
theorem dX12_cathedral_59 : decode cX12_cathedral 59 = .ok (.aload_n 0, 1) := by decide +kernel
theorem dX12_cathedral_60 : decode cX12_cathedral 60 = .ok (.getfield 19, 3) := by decide +kernel
theorem dX12_cathedral_63 : decode cX12_cathedral 63 = .ok (.getfield 158, 3) := by decide +kernel
theorem dX12_cathedral_66 : decode cX12_cathedral 66 = .ok (.iload 5, 2) := by decide +kernel
theorem dX12_cathedral_68 : decode cX12_cathedral 68 = .ok (.aaload, 1) := by decide +kernel
theorem dX12_cathedral_69 : decode cX12_cathedral 69 = .ok (.getfield 204, 3) := by decide +kernel
theorem dX12_cathedral_72 : decode cX12_cathedral 72 = .ok (.invokevirtual 188, 3) := by decide +kernel
theorem dX12_cathedral_75 : decode cX12_cathedral 75 = .ok (.iload_n 1, 1) := by decide +kernel
theorem dX12_cathedral_76 : decode cX12_cathedral 76 = .ok (.invokevirtual 184, 3) := by decide +kernel
theorem dX12_cathedral_79 : decode cX12_cathedral 79 = .ok (.istore 7, 2) := by decide +kernel
theorem dX12_cathedral_81 : decode cX12_cathedral 81 = .ok (.iload 7, 2) := by decide +kernel
theorem dX12_cathedral_83 : decode cX12_cathedral 83 = .ok (.iload 4, 2) := by decide +kernel
theorem dX12_cathedral_85 : decode cX12_cathedral 85 = .ok (.if_icmp .le 10, 3) := by decide +kernel
theorem dX12_cathedral_88 : decode cX12_cathedral 88 = .ok (.iload 7, 2) := by decide +kernel
theorem dX12_cathedral_90 : decode cX12_cathedral 90 = .ok (.istore 4, 2) := by decide +kernel
theorem dX12_cathedral_92 : decode cX12_cathedral 92 = .ok (.iload 5, 2) := by decide +kernel
theorem dX12_cathedral_94 : decode cX12_cathedral 94 = .ok (.istore_n 3, 1) := by decide +kernel
theorem dX12_cathedral_95 : decode cX12_cathedral 95 = .ok (.iinc 5 1, 3) := by decide +kernel
theorem dX12_cathedral_98 : decode cX12_cathedral 98 = .ok (.goto (-76), 3) := by decide +kernel
theorem dX12_cathedral_101 : decode cX12_cathedral 101 = .ok (.iload_n 3, 1) := by decide +kernel
theorem dX12_cathedral_102 : decode cX12_cathedral 102 = .ok (.ireturn, 1) := by decide +kernel
theorem dX12_eddies_0 : decode cX12_eddies 0 = .ok (.iconst 0, 1) := by decide +kernel
theorem dX12_eddies_1 : decode cX12_eddies 1 = .ok (.istore_n 1, 1) := by decide +kernel
theorem dX12_eddies_2 : decode cX12_eddies 2 = .ok (.iconst 0, 1) := by decide +kernel
theorem dX12_eddies_3 : decode cX12_eddies 3 = .ok (.istore_n 2, 1) := by decide +kernel
theorem dX12_eddies_4 : decode cX12_eddies 4 = .ok (.iload_n 2, 1) := by decide +kernel
theorem dX12_eddies_5 : decode cX12_eddies 5 = .ok (.aload_n 0, 1) := by decide +kernel
theorem dX12_eddies_6 : decode cX12_eddies 6 = .ok (.getfield 19, 3) := by decide +kernel
theorem dX12_eddies_9 : decode cX12_eddies 9 = .ok (.getfield 151, 3) := by decide +kernel
theorem dX12_eddies_12 : decode cX12_eddies 12 = .ok (.if_icmp .ge 106, 3) := by decide +kernel
theorem dX12_eddies_15 : decode cX12_eddies 15 = .ok (.iload_n 2, 1) := by decide +kernel
theorem dX12_eddies_16 : decode cX12_eddies 16 = .ok (.iconst 1, 1) := by decide +kernel
theorem dX12_eddies_17 : decode cX12_eddies 17 = .ok (.iadd, 1) := by decide +kernel
theorem dX12_eddies_18 : decode cX12_eddies 18 = .ok (.istore_n 3, 1) := by decide +kernel
theorem dX12_eddies_19 : decode cX12_eddies 19 = .ok (.iload_n 3, 1) := by decide +kernel
theorem dX12_eddies_20 : decode cX12_eddies 20 = .ok (.aload_n 0, 1) := by decide +kernel
theorem dX12_eddies_21 : decode cX12_eddies 21 = .ok (.getfield 19, 3) := by decide +kernel
theorem dX12_eddies_24 : decode cX12_eddies 24 = .ok (.getfield 151, 3) := by decide +kernel
theorem dX12_eddies_27 : decode cX12_eddies 27 = .ok (.if_icmp .ge 85, 3) := by decide +kernel
theorem dX12_eddies_30 : decode cX12_eddies 30 = .ok (.aload_n 0, 1) := by decide +kernel
theorem dX12_eddies_31 : decode cX12_eddies 31 = .ok (.getfield 38, 3) := by decide +kernel
theorem dX12_eddies_34 : decode cX12_eddies 34 = .ok (.getfield 170, 3) := by decide +kernel
theorem dX12_eddies_37 : decode cX12_eddies 37 = .ok (.iload_n 2, 1) := by decide +kernel
theorem dX12_eddies_38 : decode cX12_eddies 38 = .ok (.iaload, 1) := by decide +kernel
theorem dX12_eddies_39 : decode cX12_eddies 39 = .ok (.iconst (-1), 1) := by decide +kernel
theorem dX12_eddies_40 : decode cX12_eddies 40 = .ok (.if_icmp .eq 28, 3) := by decide +kernel
theorem dX12_eddies_43 : decode cX12_eddies 43 = .ok (.aload_n 0, 1) := by decide +kernel
theorem dX12_eddies_44 : decode cX12_eddies 44 = .ok (.getfield 38, 3) := by decide +kernel
theorem dX12_eddies_47 : decode cX12_eddies 47 = .ok (.getfield 170, 3) := by decide +kernel
theorem dX12_eddies_50 : decode cX12_eddies 50 = .ok (.iload_n 2, 1) := by decide +kernel
theorem dX12_eddies_51 : decode cX12_eddies 51 = .ok (.iaload, 1) := by decide +kernel
theorem dX12_eddies_52 : decode cX12_eddies 52 = .ok (.aload_n 0, 1) := by decide +kernel
theorem dX12_eddies_53 : decode cX12_eddies 53 = .ok (.getfield 38, 3) := by decide +kernel
theorem dX12_eddies_56 : decode cX12_eddies 56 = .ok (.getfield 170, 3) := by decide +kernel
theorem dX12_eddies_59 : decode cX12_eddies 59 = .ok (.iload_n 3, 1) := by decide +kernel
theorem dX12_eddies_60 : decode cX12_eddies 60 = .ok (.iaload, 1) := by decide +kernel
theorem dX12_eddies_61 : decode cX12_eddies 61 = .ok (.if_icmp .ne 7, 3) := by decide +kernel
theorem dX12_eddies_64 : decode cX12_eddies 64 = .ok (.iconst 1, 1) := by decide +kernel
theorem dX12_eddies_65 : decode cX12_eddies 65 = .ok (.goto 4, 3) := by decide +kernel
theorem dX12_eddies_68 : decode cX12_eddies 68 = .ok (.iconst 0, 1) := by decide +kernel
theorem dX12_eddies_69 : decode cX12_eddies 69 = .ok (.istore 4, 2) := by decide +kernel
theorem dX12_eddies_71 : decode cX12_eddies 71 = .ok (.iload 4, 2) := by decide +kernel
theorem dX12_eddies_73 : decode cX12_eddies 73 = .ok (.ifCond .eq 33, 3) := by decide +kernel
theorem dX12_eddies_76 : decode cX12_eddies 76 = .ok (.aload_n 0, 1) := by decide +kernel
theorem dX12_eddies_77 : decode cX12_eddies 77 = .ok (.getfield 19, 3) := by decide +kernel
theorem dX12_eddies_80 : decode cX12_eddies 80 = .ok (.getfield 158, 3) := by decide +kernel
theorem dX12_eddies_83 : decode cX12_eddies 83 = .ok (.iload_n 2, 1) := by decide +kernel
theorem dX12_eddies_84 : decode cX12_eddies 84 = .ok (.aaload, 1) := by decide +kernel
theorem dX12_eddies_85 : decode cX12_eddies 85 = .ok (.getfield 204, 3) := by decide +kernel
theorem dX12_eddies_88 : decode cX12_eddies 88 = .ok (.aload_n 0, 1) := by decide +kernel
theorem dX12_eddies_89 : decode cX12_eddies 89 = .ok (.getfield 19, 3) := by decide +kernel
theorem dX12_eddies_92 : decode cX12_eddies 92 = .ok (.getfield 158, 3) := by decide +kernel
theorem dX12_eddies_95 : decode cX12_eddies 95 = .ok (.iload_n 3, 1) := by decide +kernel
theorem dX12_eddies_96 : decode cX12_eddies 96 = .ok (.aaload, 1) := by decide +kernel
theorem dX12_eddies_97 : decode cX12_eddies 97 = .ok (.getfield 204, 3) := by decide +kernel
theorem dX12_eddies_100 : decode cX12_eddies 100 = .ok (.if_icmp .ne 6, 3) := by decide +kernel
theorem dX12_eddies_103 : decode cX12_eddies 103 = .ok (.iinc 1 1, 3) := by decide +kernel
theorem dX12_eddies_106 : decode cX12_eddies 106 = .ok (.iinc 3 1, 3) := by decide +kernel
theorem dX12_eddies_109 : decode cX12_eddies 109 = .ok (.goto (-90), 3) := by decide +kernel
theorem dX12_eddies_112 : decode cX12_eddies 112 = .ok (.iinc 2 1, 3) := by decide +kernel
theorem dX12_eddies_115 : decode cX12_eddies 115 = .ok (.goto (-111), 3) := by decide +kernel
theorem dX12_eddies_118 : decode cX12_eddies 118 = .ok (.iload_n 1, 1) := by decide +kernel
theorem dX12_eddies_119 : decode cX12_eddies 119 = .ok (.ireturn, 1) := by decide +kernel
set_option maxRecDepth 20000 in
theorem ggX12_worst_X12_hasTown : GoodIn wsX12_worst wsX12_hasTown := goodIn_r _ [12, 3, 6, 13, 14, 15, 16, 11, 17, 18, 71, 72, 73, 74, 75, 76, 77, 78, 79, 80, 81, 82, 83, 84, 85, 86, 87, 88, 89, 90, 91, 92, 93, 94, 95, 96, 97, 98, 99, 100, 101, 102, 103, 104, 105, 106, 107, 108, 109, 110] (by decide +kernel) (by decide +kernel)
set_option maxRecDepth 20000 in
theorem gX12_worst_X12_hasTown : GoodIn wsX12_worst (wsV RX12 348 RX12 yX12_hasTown wsX12_hasTown) := goodIn_app (goodIn_of _ (by decide +kernel)) ggX12_worst_X12_hasTown
set_option maxRecDepth 20000 in
theorem ggX12_worst_X12_townWaters : GoodIn wsX12_worst wsX12_townWaters := goodIn_r _ [22, 3, 6, 13, 23, 24, 25, 11, 26, 27, 28, 29, 30, 31, 32, 33, 34, 35, 36, 37, 38, 39, 40, 41, 42, 43, 44, 45, 46, 47, 48, 49, 50, 51, 52, 53, 54, 55, 56, 57, 71, 72, 73, 74, 75, 76, 77, 78, 79, 80, 81, 82, 83, 84, 85, 86, 87, 88, 89, 90, 91, 92, 93, 94, 95, 96, 97, 98, 99, 100, 101, 102, 103, 104, 105, 106, 107, 108, 109, 110, 111, 112, 113, 114, 115, 116, 117, 118, 119, 120, 121, 122, 123, 124] (by decide +kernel) (by decide +kernel)
set_option maxRecDepth 20000 in
theorem gX12_worst_X12_townWaters : GoodIn wsX12_worst (wsV RX12 353 RX12 yX12_townWaters wsX12_townWaters) := goodIn_app (goodIn_of _ (by decide +kernel)) ggX12_worst_X12_townWaters
set_option maxRecDepth 20000 in
theorem ggX12_worst_X3_water : GoodIn wsX12_worst wsX3_water := goodIn_r _ [62, 63, 87, 88, 89, 90, 91, 92, 93, 94, 95, 96, 97, 98] (by decide +kernel) (by decide +kernel)
set_option maxRecDepth 20000 in
theorem gX12_worst_X3_water : GoodIn wsX12_worst (wsV RX12 184 RX3 yX3_water wsX3_water) := goodIn_app (goodIn_of _ (by decide +kernel)) ggX12_worst_X3_water
set_option maxRecDepth 20000 in
theorem ggX12_worst_J6_bitCount_0f7a4 : GoodIn wsX12_worst wsJ6_bitCount_0f7a4 := goodIn_r _ [67, 68, 69, 70] (by decide +kernel) (by decide +kernel)
set_option maxRecDepth 20000 in
theorem gX12_worst_J6_bitCount_0f7a4 : GoodIn wsX12_worst (va_wsS RX12 312 yJ6_bitCount_0f7a4 wsJ6_bitCount_0f7a4) := goodIn_app (goodIn_of _ (by decide +kernel)) ggX12_worst_J6_bitCount_0f7a4
theorem dX12_worst_0 : decode cX12_worst 0 = .ok (.aload_n 0, 1) := by decide +kernel
theorem dX12_worst_1 : decode cX12_worst 1 = .ok (.iload_n 1, 1) := by decide +kernel
theorem dX12_worst_2 : decode cX12_worst 2 = .ok (.invokevirtual 348, 3) := by decide +kernel
theorem dX12_worst_5 : decode cX12_worst 5 = .ok (.ifCond .eq 12, 3) := by decide +kernel
theorem dX12_worst_8 : decode cX12_worst 8 = .ok (.iload_n 2, 1) := by decide +kernel
theorem dX12_worst_9 : decode cX12_worst 9 = .ok (.ifCond .lt 8, 3) := by decide +kernel
theorem dX12_worst_12 : decode cX12_worst 12 = .ok (.iload_n 2, 1) := by decide +kernel
theorem dX12_worst_13 : decode cX12_worst 13 = .ok (.iconst 1, 1) := by decide +kernel
theorem dX12_worst_14 : decode cX12_worst 14 = .ok (.if_icmp .le 14, 3) := by decide +kernel
theorem dX12_worst_17 : decode cX12_worst 17 = .ok (.new 191, 3) := by decide +kernel
theorem dX12_worst_20 : decode cX12_worst 20 = .ok (.dup, 1) := by decide +kernel
theorem dX12_worst_21 : decode cX12_worst 21 = .ok (.ldc_w 351, 3) := by decide +kernel
theorem dX12_worst_24 : decode cX12_worst 24 = .ok (.invokespecial 195, 3) := by decide +kernel
theorem dX12_worst_27 : decode cX12_worst 27 = .ok (.athrow, 1) := by decide +kernel
theorem dX12_worst_28 : decode cX12_worst 28 = .ok (.aload_n 0, 1) := by decide +kernel
theorem dX12_worst_29 : decode cX12_worst 29 = .ok (.iload_n 1, 1) := by decide +kernel
theorem dX12_worst_30 : decode cX12_worst 30 = .ok (.invokevirtual 353, 3) := by decide +kernel
theorem dX12_worst_33 : decode cX12_worst 33 = .ok (.istore_n 3, 1) := by decide +kernel
theorem dX12_worst_34 : decode cX12_worst 34 = .ok (.iconst 0, 1) := by decide +kernel
theorem dX12_worst_35 : decode cX12_worst 35 = .ok (.istore 4, 2) := by decide +kernel
theorem dX12_worst_37 : decode cX12_worst 37 = .ok (.iconst 1, 1) := by decide +kernel
theorem dX12_worst_38 : decode cX12_worst 38 = .ok (.istore 5, 2) := by decide +kernel
theorem dX12_worst_40 : decode cX12_worst 40 = .ok (.iload 5, 2) := by decide +kernel
theorem dX12_worst_42 : decode cX12_worst 42 = .ok (.iconst 4, 1) := by decide +kernel
theorem dX12_worst_43 : decode cX12_worst 43 = .ok (.if_icmp .ge 36, 3) := by decide +kernel
theorem dX12_worst_46 : decode cX12_worst 46 = .ok (.aload_n 0, 1) := by decide +kernel
theorem dX12_worst_47 : decode cX12_worst 47 = .ok (.getfield 19, 3) := by decide +kernel
theorem dX12_worst_50 : decode cX12_worst 50 = .ok (.iload_n 3, 1) := by decide +kernel
theorem dX12_worst_51 : decode cX12_worst 51 = .ok (.iload 5, 2) := by decide +kernel
theorem dX12_worst_53 : decode cX12_worst 53 = .ok (.invokevirtual 184, 3) := by decide +kernel
theorem dX12_worst_56 : decode cX12_worst 56 = .ok (.aload_n 0, 1) := by decide +kernel
theorem dX12_worst_57 : decode cX12_worst 57 = .ok (.getfield 19, 3) := by decide +kernel
theorem dX12_worst_60 : decode cX12_worst 60 = .ok (.iload_n 3, 1) := by decide +kernel
theorem dX12_worst_61 : decode cX12_worst 61 = .ok (.iload 4, 2) := by decide +kernel
theorem dX12_worst_63 : decode cX12_worst 63 = .ok (.invokevirtual 184, 3) := by decide +kernel
theorem dX12_worst_66 : decode cX12_worst 66 = .ok (.if_icmp .le 7, 3) := by decide +kernel
theorem dX12_worst_69 : decode cX12_worst 69 = .ok (.iload 5, 2) := by decide +kernel
theorem dX12_worst_71 : decode cX12_worst 71 = .ok (.istore 4, 2) := by decide +kernel
theorem dX12_worst_73 : decode cX12_worst 73 = .ok (.iinc 5 1, 3) := by decide +kernel
theorem dX12_worst_76 : decode cX12_worst 76 = .ok (.goto (-36), 3) := by decide +kernel
theorem dX12_worst_79 : decode cX12_worst 79 = .ok (.iload_n 2, 1) := by decide +kernel
theorem dX12_worst_80 : decode cX12_worst 80 = .ok (.ifCond .ne 6, 3) := by decide +kernel
theorem dX12_worst_83 : decode cX12_worst 83 = .ok (.iload 4, 2) := by decide +kernel
theorem dX12_worst_85 : decode cX12_worst 85 = .ok (.ireturn, 1) := by decide +kernel
theorem dX12_worst_86 : decode cX12_worst 86 = .ok (.aload_n 0, 1) := by decide +kernel
theorem dX12_worst_87 : decode cX12_worst 87 = .ok (.getfield 19, 3) := by decide +kernel
theorem dX12_worst_90 : decode cX12_worst 90 = .ok (.getfield 356, 3) := by decide +kernel
theorem dX12_worst_93 : decode cX12_worst 93 = .ok (.ifCond .ne 7, 3) := by decide +kernel
theorem dX12_worst_96 : decode cX12_worst 96 = .ok (.iconst 0, 1) := by decide +kernel
theorem dX12_worst_97 : decode cX12_worst 97 = .ok (.goto 15, 3) := by decide +kernel
theorem dX12_worst_100 : decode cX12_worst 100 = .ok (.iload_n 3, 1) := by decide +kernel
theorem dX12_worst_101 : decode cX12_worst 101 = .ok (.invokestatic 312, 3) := by decide +kernel
theorem dX12_worst_104 : decode cX12_worst 104 = .ok (.aload_n 0, 1) := by decide +kernel
theorem dX12_worst_105 : decode cX12_worst 105 = .ok (.getfield 19, 3) := by decide +kernel
theorem dX12_worst_108 : decode cX12_worst 108 = .ok (.getfield 359, 3) := by decide +kernel
theorem dX12_worst_111 : decode cX12_worst 111 = .ok (.imul, 1) := by decide +kernel
theorem dX12_worst_112 : decode cX12_worst 112 = .ok (.istore 5, 2) := by decide +kernel
theorem dX12_worst_114 : decode cX12_worst 114 = .ok (.aload_n 0, 1) := by decide +kernel
theorem dX12_worst_115 : decode cX12_worst 115 = .ok (.getfield 19, 3) := by decide +kernel
theorem dX12_worst_118 : decode cX12_worst 118 = .ok (.iload_n 3, 1) := by decide +kernel
theorem dX12_worst_119 : decode cX12_worst 119 = .ok (.iload 4, 2) := by decide +kernel
theorem dX12_worst_121 : decode cX12_worst 121 = .ok (.invokevirtual 184, 3) := by decide +kernel
theorem dX12_worst_124 : decode cX12_worst 124 = .ok (.iload 5, 2) := by decide +kernel
theorem dX12_worst_126 : decode cX12_worst 126 = .ok (.iadd, 1) := by decide +kernel
theorem dX12_worst_127 : decode cX12_worst 127 = .ok (.aload_n 0, 1) := by decide +kernel
theorem dX12_worst_128 : decode cX12_worst 128 = .ok (.getfield 19, 3) := by decide +kernel
theorem dX12_worst_131 : decode cX12_worst 131 = .ok (.getfield 158, 3) := by decide +kernel
theorem dX12_worst_134 : decode cX12_worst 134 = .ok (.iload_n 1, 1) := by decide +kernel
theorem dX12_worst_135 : decode cX12_worst 135 = .ok (.aaload, 1) := by decide +kernel
theorem dX12_worst_136 : decode cX12_worst 136 = .ok (.getfield 362, 3) := by decide +kernel
theorem dX12_worst_139 : decode cX12_worst 139 = .ok (.isub, 1) := by decide +kernel
theorem dX12_worst_140 : decode cX12_worst 140 = .ok (.ireturn, 1) := by decide +kernel
set_option maxRecDepth 20000 in
theorem ggX12_share_X12_isRiver : GoodIn wsX12_share wsX12_isRiver := goodIn_r _ [8, 9, 10, 56, 57, 58, 59, 60, 61, 62, 63, 64, 65, 66, 67, 68, 69, 70, 71, 83, 84, 85, 86, 87, 88, 89, 90, 91, 92, 93, 94] (by decide +kernel) (by decide +kernel)
set_option maxRecDepth 20000 in
theorem gX12_share_X12_isRiver : GoodIn wsX12_share (wsV RX12 154 RX12 yX12_isRiver wsX12_isRiver) := goodIn_app (goodIn_of _ (by decide +kernel)) ggX12_share_X12_isRiver
set_option maxRecDepth 20000 in
theorem ggX12_share_X12_isSeason : GoodIn wsX12_share wsX12_isSeason := goodIn_r _ [13] (by decide +kernel) (by decide +kernel)
set_option maxRecDepth 20000 in
theorem gX12_share_X12_isSeason : GoodIn wsX12_share (va_wsS RX12 223 yX12_isSeason wsX12_isSeason) := goodIn_app (goodIn_of _ (by decide +kernel)) ggX12_share_X12_isSeason
set_option maxRecDepth 20000 in
theorem ggX12_share_X12_mouthFlow : GoodIn wsX12_share wsX12_mouthFlow := goodIn_r _ [17, 9, 18, 19, 20, 21, 7, 22, 23, 1, 24, 25, 26, 27, 28, 29, 30, 31, 32, 33, 34, 35, 36, 37, 38, 39, 40, 41, 42, 43, 44, 45, 46, 47, 48, 49, 50, 51, 56, 57, 58, 59, 60, 61, 62, 63, 64, 65, 66, 67, 68, 69, 70, 71, 95, 96, 97, 72, 73, 74, 75, 76, 77, 78, 79, 80, 81, 82, 83, 84, 85, 86, 87, 88, 89, 90, 91, 92, 93, 94] (by decide +kernel) (by decide +kernel)
set_option maxRecDepth 20000 in
theorem gX12_share_X12_mouthFlow : GoodIn wsX12_share (wsV RX12 262 RX12 yX12_mouthFlow wsX12_mouthFlow) := goodIn_app (goodIn_of _ (by decide +kernel)) ggX12_share_X12_mouthFlow
set_option maxRecDepth 20000 in
theorem ggX12_share_X12_shareOf : GoodIn wsX12_share wsX12_shareOf := goodIn_r _ [55, 1, 3, 2, 56, 57, 58, 59, 60, 61, 62, 63, 64, 65, 66, 67, 68, 69, 70, 71, 72, 73, 74, 75, 76, 77, 78, 79, 80, 81, 82] (by decide +kernel) (by decide +kernel)
set_option maxRecDepth 20000 in
theorem gX12_share_X12_shareOf : GoodIn wsX12_share (wsV RX12 365 RX12 yX12_shareOf wsX12_shareOf) := goodIn_app (goodIn_of _ (by decide +kernel)) ggX12_share_X12_shareOf
theorem dX12_share_0 : decode cX12_share 0 = .ok (.aload_n 0, 1) := by decide +kernel
theorem dX12_share_1 : decode cX12_share 1 = .ok (.iload_n 1, 1) := by decide +kernel
theorem dX12_share_2 : decode cX12_share 2 = .ok (.invokevirtual 154, 3) := by decide +kernel
theorem dX12_share_5 : decode cX12_share 5 = .ok (.ifCond .eq 25, 3) := by decide +kernel
theorem dX12_share_8 : decode cX12_share 8 = .ok (.iload_n 2, 1) := by decide +kernel
theorem dX12_share_9 : decode cX12_share 9 = .ok (.invokestatic 223, 3) := by decide +kernel
theorem dX12_share_12 : decode cX12_share 12 = .ok (.ifCond .eq 18, 3) := by decide +kernel
theorem dX12_share_15 : decode cX12_share 15 = .ok (.iload_n 3, 1) := by decide +kernel
theorem dX12_share_16 : decode cX12_share 16 = .ok (.ifCond .lt 14, 3) := by decide +kernel
theorem dX12_share_19 : decode cX12_share 19 = .ok (.iload_n 3, 1) := by decide +kernel
theorem dX12_share_20 : decode cX12_share 20 = .ok (.aload_n 0, 1) := by decide +kernel
theorem dX12_share_21 : decode cX12_share 21 = .ok (.getfield 38, 3) := by decide +kernel
theorem dX12_share_24 : decode cX12_share 24 = .ok (.getfield 146, 3) := by decide +kernel
theorem dX12_share_27 : decode cX12_share 27 = .ok (.if_icmp .lt 5, 3) := by decide +kernel
theorem dX12_share_30 : decode cX12_share 30 = .ok (.iconst (-1), 1) := by decide +kernel
theorem dX12_share_31 : decode cX12_share 31 = .ok (.ireturn, 1) := by decide +kernel
theorem dX12_share_32 : decode cX12_share 32 = .ok (.iconst 0, 1) := by decide +kernel
theorem dX12_share_33 : decode cX12_share 33 = .ok (.istore 4, 2) := by decide +kernel
theorem dX12_share_35 : decode cX12_share 35 = .ok (.iconst 0, 1) := by decide +kernel
theorem dX12_share_36 : decode cX12_share 36 = .ok (.istore 5, 2) := by decide +kernel
theorem dX12_share_38 : decode cX12_share 38 = .ok (.iload 5, 2) := by decide +kernel
theorem dX12_share_40 : decode cX12_share 40 = .ok (.aload_n 0, 1) := by decide +kernel
theorem dX12_share_41 : decode cX12_share 41 = .ok (.getfield 38, 3) := by decide +kernel
theorem dX12_share_44 : decode cX12_share 44 = .ok (.getfield 146, 3) := by decide +kernel
theorem dX12_share_47 : decode cX12_share 47 = .ok (.if_icmp .ge 24, 3) := by decide +kernel
theorem dX12_share_50 : decode cX12_share 50 = .ok (.iload 4, 2) := by decide +kernel
theorem dX12_share_52 : decode cX12_share 52 = .ok (.aload_n 0, 1) := by decide +kernel
theorem dX12_share_53 : decode cX12_share 53 = .ok (.getfield 38, 3) := by decide +kernel
theorem dX12_share_56 : decode cX12_share 56 = .ok (.getfield 150, 3) := by decide +kernel
theorem dX12_share_59 : decode cX12_share 59 = .ok (.iload 5, 2) := by decide +kernel
theorem dX12_share_61 : decode cX12_share 61 = .ok (.iaload, 1) := by decide +kernel
theorem dX12_share_62 : decode cX12_share 62 = .ok (.iadd, 1) := by decide +kernel
theorem dX12_share_63 : decode cX12_share 63 = .ok (.istore 4, 2) := by decide +kernel
theorem dX12_share_65 : decode cX12_share 65 = .ok (.iinc 5 1, 3) := by decide +kernel
theorem dX12_share_68 : decode cX12_share 68 = .ok (.goto (-30), 3) := by decide +kernel
theorem dX12_share_71 : decode cX12_share 71 = .ok (.iload 4, 2) := by decide +kernel
theorem dX12_share_73 : decode cX12_share 73 = .ok (.ifCond .ne 5, 3) := by decide +kernel
theorem dX12_share_76 : decode cX12_share 76 = .ok (.iconst 0, 1) := by decide +kernel
theorem dX12_share_77 : decode cX12_share 77 = .ok (.ireturn, 1) := by decide +kernel
theorem dX12_share_78 : decode cX12_share 78 = .ok (.aload_n 0, 1) := by decide +kernel
theorem dX12_share_79 : decode cX12_share 79 = .ok (.iload_n 3, 1) := by decide +kernel
theorem dX12_share_80 : decode cX12_share 80 = .ok (.aload_n 0, 1) := by decide +kernel
theorem dX12_share_81 : decode cX12_share 81 = .ok (.iload_n 1, 1) := by decide +kernel
theorem dX12_share_82 : decode cX12_share 82 = .ok (.iload_n 2, 1) := by decide +kernel
theorem dX12_share_83 : decode cX12_share 83 = .ok (.invokevirtual 262, 3) := by decide +kernel
theorem dX12_share_86 : decode cX12_share 86 = .ok (.iload 4, 2) := by decide +kernel
theorem dX12_share_88 : decode cX12_share 88 = .ok (.invokevirtual 365, 3) := by decide +kernel
theorem dX12_share_91 : decode cX12_share 91 = .ok (.ireturn, 1) := by decide +kernel
set_option maxRecDepth 20000 in
theorem ggX12_storms_X12_hasTown : GoodIn wsX12_storms wsX12_hasTown := goodIn_r _ [8, 1, 2, 9, 10, 11, 12, 7, 13, 14, 80, 81, 82, 83, 84, 85, 86, 87, 88, 89, 90, 91, 92, 93, 94, 95, 96, 97, 98, 99, 100, 101, 102, 103, 104, 105, 106, 107, 108, 109, 110, 111, 112, 113, 114, 115, 116, 117, 118, 119] (by decide +kernel) (by decide +kernel)
set_option maxRecDepth 20000 in
theorem gX12_storms_X12_hasTown : GoodIn wsX12_storms (wsV RX12 348 RX12 yX12_hasTown wsX12_hasTown) := goodIn_app (goodIn_of _ (by decide +kernel)) ggX12_storms_X12_hasTown
set_option maxRecDepth 20000 in
theorem ggX12_storms_X12_isSeason : GoodIn wsX12_storms wsX12_isSeason := goodIn_r _ [17] (by decide +kernel) (by decide +kernel)
set_option maxRecDepth 20000 in
theorem gX12_storms_X12_isSeason : GoodIn wsX12_storms (va_wsS RX12 223 yX12_isSeason wsX12_isSeason) := goodIn_app (goodIn_of _ (by decide +kernel)) ggX12_storms_X12_isSeason
set_option maxRecDepth 20000 in
theorem ggX12_storms_X12_townWaters : GoodIn wsX12_storms wsX12_townWaters := goodIn_r _ [21, 1, 2, 9, 22, 23, 24, 7, 25, 26, 27, 28, 29, 30, 31, 32, 33, 34, 35, 36, 37, 38, 39, 40, 41, 42, 43, 44, 45, 46, 47, 48, 49, 50, 51, 52, 53, 54, 55, 56, 80, 81, 82, 83, 84, 85, 86, 87, 88, 89, 90, 91, 92, 93, 94, 95, 96, 97, 98, 99, 100, 101, 102, 103, 104, 105, 106, 107, 108, 109, 110, 111, 112, 113, 114, 115, 116, 117, 118, 119, 120, 121, 122, 123, 124, 125, 126, 127, 128, 129, 130, 131, 132, 133] (by decide +kernel) (by decide +kernel)
set_option maxRecDepth 20000 in
theorem gX12_storms_X12_townWaters : GoodIn wsX12_storms (wsV RX12 353 RX12 yX12_townWaters wsX12_townWaters) := goodIn_app (goodIn_of _ (by decide +kernel)) ggX12_storms_X12_townWaters
set_option maxRecDepth 20000 in
theorem ggX12_storms_X3_floodChance : GoodIn wsX12_storms wsX3_floodChance := goodIn_r _ [61, 62, 63, 64, 65, 66, 67, 68, 69, 70, 71, 72, 60, 73, 74, 75, 76, 77, 78, 79, 96, 97, 98, 99, 100, 101, 102, 103, 104, 105, 106, 107] (by decide +kernel) (by decide +kernel)
set_option maxRecDepth 20000 in
theorem gX12_storms_X3_floodChance : GoodIn wsX12_storms (wsV RX12 369 RX3 yX3_floodChance wsX3_floodChance) := goodIn_app (goodIn_of _ (by decide +kernel)) ggX12_storms_X3_floodChance
theorem dX12_storms_0 : decode cX12_storms 0 = .ok (.aload_n 0, 1) := by decide +kernel
theorem dX12_storms_1 : decode cX12_storms 1 = .ok (.iload_n 1, 1) := by decide +kernel
theorem dX12_storms_2 : decode cX12_storms 2 = .ok (.invokevirtual 348, 3) := by decide +kernel
theorem dX12_storms_5 : decode cX12_storms 5 = .ok (.ifCond .eq 10, 3) := by decide +kernel
theorem dX12_storms_8 : decode cX12_storms 8 = .ok (.iload_n 2, 1) := by decide +kernel
theorem dX12_storms_9 : decode cX12_storms 9 = .ok (.invokestatic 223, 3) := by decide +kernel
theorem dX12_storms_12 : decode cX12_storms 12 = .ok (.ifCond .ne 5, 3) := by decide +kernel
theorem dX12_storms_15 : decode cX12_storms 15 = .ok (.iconst (-1), 1) := by decide +kernel
theorem dX12_storms_16 : decode cX12_storms 16 = .ok (.ireturn, 1) := by decide +kernel
theorem dX12_storms_17 : decode cX12_storms 17 = .ok (.aload_n 0, 1) := by decide +kernel
theorem dX12_storms_18 : decode cX12_storms 18 = .ok (.getfield 19, 3) := by decide +kernel
theorem dX12_storms_21 : decode cX12_storms 21 = .ok (.aload_n 0, 1) := by decide +kernel
theorem dX12_storms_22 : decode cX12_storms 22 = .ok (.iload_n 1, 1) := by decide +kernel
theorem dX12_storms_23 : decode cX12_storms 23 = .ok (.invokevirtual 353, 3) := by decide +kernel
theorem dX12_storms_26 : decode cX12_storms 26 = .ok (.iload_n 2, 1) := by decide +kernel
theorem dX12_storms_27 : decode cX12_storms 27 = .ok (.aload_n 0, 1) := by decide +kernel
theorem dX12_storms_28 : decode cX12_storms 28 = .ok (.getfield 19, 3) := by decide +kernel
theorem dX12_storms_31 : decode cX12_storms 31 = .ok (.getfield 158, 3) := by decide +kernel
theorem dX12_storms_34 : decode cX12_storms 34 = .ok (.iload_n 1, 1) := by decide +kernel
theorem dX12_storms_35 : decode cX12_storms 35 = .ok (.aaload, 1) := by decide +kernel
theorem dX12_storms_36 : decode cX12_storms 36 = .ok (.getfield 362, 3) := by decide +kernel
theorem dX12_storms_39 : decode cX12_storms 39 = .ok (.invokevirtual 369, 3) := by decide +kernel
theorem dX12_storms_42 : decode cX12_storms 42 = .ok (.ireturn, 1) := by decide +kernel
set_option maxRecDepth 20000 in
theorem ggX12_walls_X12_hasTown : GoodIn wsX12_walls wsX12_hasTown := goodIn_r _ [8, 2, 9, 10, 11, 12, 13, 7, 14, 15, 82, 83, 84, 85, 86, 87, 88, 89, 90, 91, 92, 93, 94, 95, 96, 97, 98, 99, 100, 101, 102, 103, 104, 105, 106, 107, 108, 109, 110, 111, 112, 113, 114, 115, 116, 117, 118, 119, 120, 121] (by decide +kernel) (by decide +kernel)
set_option maxRecDepth 20000 in
theorem gX12_walls_X12_hasTown : GoodIn wsX12_walls (wsV RX12 348 RX12 yX12_hasTown wsX12_hasTown) := goodIn_app (goodIn_of _ (by decide +kernel)) ggX12_walls_X12_hasTown
set_option maxRecDepth 20000 in
theorem ggX12_walls_X12_isSeason : GoodIn wsX12_walls wsX12_isSeason := goodIn_r _ [18] (by decide +kernel) (by decide +kernel)
set_option maxRecDepth 20000 in
theorem gX12_walls_X12_isSeason : GoodIn wsX12_walls (va_wsS RX12 223 yX12_isSeason wsX12_isSeason) := goodIn_app (goodIn_of _ (by decide +kernel)) ggX12_walls_X12_isSeason
set_option maxRecDepth 20000 in
theorem ggX12_walls_X12_townWaters : GoodIn wsX12_walls wsX12_townWaters := goodIn_r _ [22, 2, 9, 10, 23, 24, 25, 7, 26, 27, 28, 29, 30, 31, 32, 33, 34, 35, 36, 37, 38, 39, 40, 41, 42, 43, 44, 45, 46, 47, 48, 49, 50, 51, 52, 53, 54, 55, 56, 57, 82, 83, 84, 85, 86, 87, 88, 89, 90, 91, 92, 93, 94, 95, 96, 97, 98, 99, 100, 101, 102, 103, 104, 105, 106, 107, 108, 109, 110, 111, 112, 113, 114, 115, 116, 117, 118, 119, 120, 121, 122, 123, 124, 125, 126, 127, 128, 129, 130, 131, 132, 133, 134, 135] (by decide +kernel) (by decide +kernel)
set_option maxRecDepth 20000 in
theorem gX12_walls_X12_townWaters : GoodIn wsX12_walls (wsV RX12 353 RX12 yX12_townWaters wsX12_townWaters) := goodIn_app (goodIn_of _ (by decide +kernel)) ggX12_walls_X12_townWaters
set_option maxRecDepth 20000 in
theorem ggX12_walls_X3_water : GoodIn wsX12_walls wsX3_water := goodIn_r _ [62, 63, 98, 99, 100, 101, 102, 103, 104, 105, 106, 107, 108, 109] (by decide +kernel) (by decide +kernel)
set_option maxRecDepth 20000 in
theorem gX12_walls_X3_water : GoodIn wsX12_walls (wsV RX12 184 RX3 yX3_water wsX3_water) := goodIn_app (goodIn_of _ (by decide +kernel)) ggX12_walls_X3_water
set_option maxRecDepth 20000 in
theorem ggX12_walls_X3_floodChance : GoodIn wsX12_walls wsX3_floodChance := goodIn_r _ [67, 68, 69, 70, 71, 72, 73, 74, 75, 76, 59, 60, 61, 62, 63, 77, 78, 79, 80, 81, 98, 99, 100, 101, 102, 103, 104, 105, 106, 107, 108, 109] (by decide +kernel) (by decide +kernel)
set_option maxRecDepth 20000 in
theorem gX12_walls_X3_floodChance : GoodIn wsX12_walls (wsV RX12 369 RX3 yX3_floodChance wsX3_floodChance) := goodIn_app (goodIn_of _ (by decide +kernel)) ggX12_walls_X3_floodChance
theorem dX12_walls_0 : decode cX12_walls 0 = .ok (.aload_n 0, 1) := by decide +kernel
theorem dX12_walls_1 : decode cX12_walls 1 = .ok (.iload_n 1, 1) := by decide +kernel
theorem dX12_walls_2 : decode cX12_walls 2 = .ok (.invokevirtual 348, 3) := by decide +kernel
theorem dX12_walls_5 : decode cX12_walls 5 = .ok (.ifCond .eq 21, 3) := by decide +kernel
theorem dX12_walls_8 : decode cX12_walls 8 = .ok (.iload_n 2, 1) := by decide +kernel
theorem dX12_walls_9 : decode cX12_walls 9 = .ok (.invokestatic 223, 3) := by decide +kernel
theorem dX12_walls_12 : decode cX12_walls 12 = .ok (.ifCond .eq 14, 3) := by decide +kernel
theorem dX12_walls_15 : decode cX12_walls 15 = .ok (.iload_n 3, 1) := by decide +kernel
theorem dX12_walls_16 : decode cX12_walls 16 = .ok (.ifCond .lt 10, 3) := by decide +kernel
theorem dX12_walls_19 : decode cX12_walls 19 = .ok (.iload_n 3, 1) := by decide +kernel
theorem dX12_walls_20 : decode cX12_walls 20 = .ok (.ldc_w 372, 3) := by decide +kernel
theorem dX12_walls_23 : decode cX12_walls 23 = .ok (.if_icmp .le 5, 3) := by decide +kernel
theorem dX12_walls_26 : decode cX12_walls 26 = .ok (.iconst (-1), 1) := by decide +kernel
theorem dX12_walls_27 : decode cX12_walls 27 = .ok (.ireturn, 1) := by decide +kernel
theorem dX12_walls_28 : decode cX12_walls 28 = .ok (.aload_n 0, 1) := by decide +kernel
theorem dX12_walls_29 : decode cX12_walls 29 = .ok (.iload_n 1, 1) := by decide +kernel
theorem dX12_walls_30 : decode cX12_walls 30 = .ok (.invokevirtual 353, 3) := by decide +kernel
theorem dX12_walls_33 : decode cX12_walls 33 = .ok (.istore 4, 2) := by decide +kernel
theorem dX12_walls_35 : decode cX12_walls 35 = .ok (.aload_n 0, 1) := by decide +kernel
theorem dX12_walls_36 : decode cX12_walls 36 = .ok (.getfield 19, 3) := by decide +kernel
theorem dX12_walls_39 : decode cX12_walls 39 = .ok (.iload 4, 2) := by decide +kernel
theorem dX12_walls_41 : decode cX12_walls 41 = .ok (.iload_n 2, 1) := by decide +kernel
theorem dX12_walls_42 : decode cX12_walls 42 = .ok (.invokevirtual 184, 3) := by decide +kernel
theorem dX12_walls_45 : decode cX12_walls 45 = .ok (.istore 5, 2) := by decide +kernel
theorem dX12_walls_47 : decode cX12_walls 47 = .ok (.iconst 0, 1) := by decide +kernel
theorem dX12_walls_48 : decode cX12_walls 48 = .ok (.istore 6, 2) := by decide +kernel
theorem dX12_walls_50 : decode cX12_walls 50 = .ok (.iconst 0, 1) := by decide +kernel
theorem dX12_walls_51 : decode cX12_walls 51 = .ok (.istore 7, 2) := by decide +kernel
theorem dX12_walls_53 : decode cX12_walls 53 = .ok (.iload 7, 2) := by decide +kernel
theorem dX12_walls_55 : decode cX12_walls 55 = .ok (.bipush 6, 2) := by decide +kernel
theorem dX12_walls_57 : decode cX12_walls 57 = .ok (.if_icmp .gt 43, 3) := by decide +kernel
theorem dX12_walls_60 : decode cX12_walls 60 = .ok (.aload_n 0, 1) := by decide +kernel
theorem dX12_walls_61 : decode cX12_walls 61 = .ok (.getfield 19, 3) := by decide +kernel
theorem dX12_walls_64 : decode cX12_walls 64 = .ok (.iload 4, 2) := by decide +kernel
theorem dX12_walls_66 : decode cX12_walls 66 = .ok (.iload_n 2, 1) := by decide +kernel
theorem dX12_walls_67 : decode cX12_walls 67 = .ok (.iload 6, 2) := by decide +kernel
theorem dX12_walls_69 : decode cX12_walls 69 = .ok (.invokevirtual 369, 3) := by decide +kernel
theorem dX12_walls_72 : decode cX12_walls 72 = .ok (.iload_n 3, 1) := by decide +kernel
theorem dX12_walls_73 : decode cX12_walls 73 = .ok (.if_icmp .gt 6, 3) := by decide +kernel
theorem dX12_walls_76 : decode cX12_walls 76 = .ok (.iload 6, 2) := by decide +kernel
theorem dX12_walls_78 : decode cX12_walls 78 = .ok (.ireturn, 1) := by decide +kernel
theorem dX12_walls_79 : decode cX12_walls 79 = .ok (.iload 5, 2) := by decide +kernel
theorem dX12_walls_81 : decode cX12_walls 81 = .ok (.iload 7, 2) := by decide +kernel
theorem dX12_walls_83 : decode cX12_walls 83 = .ok (.aload_n 0, 1) := by decide +kernel
theorem dX12_walls_84 : decode cX12_walls 84 = .ok (.getfield 19, 3) := by decide +kernel
theorem dX12_walls_87 : decode cX12_walls 87 = .ok (.getfield 359, 3) := by decide +kernel
theorem dX12_walls_90 : decode cX12_walls 90 = .ok (.imul, 1) := by decide +kernel
theorem dX12_walls_91 : decode cX12_walls 91 = .ok (.iadd, 1) := by decide +kernel
theorem dX12_walls_92 : decode cX12_walls 92 = .ok (.istore 6, 2) := by decide +kernel
theorem dX12_walls_94 : decode cX12_walls 94 = .ok (.iinc 7 1, 3) := by decide +kernel
theorem dX12_walls_97 : decode cX12_walls 97 = .ok (.goto (-44), 3) := by decide +kernel
theorem dX12_walls_100 : decode cX12_walls 100 = .ok (.iload 6, 2) := by decide +kernel
theorem dX12_walls_102 : decode cX12_walls 102 = .ok (.ireturn, 1) := by decide +kernel
set_option maxRecDepth 20000 in
theorem ggX12_tell_X12_isRiver : GoodIn wsX12_tell wsX12_isRiver := goodIn_r _ [13, 14, 15, 19, 20, 21, 22, 23, 24, 25, 26, 27, 28, 29, 30, 31, 32, 33, 34, 59, 60, 61, 62, 63, 64, 65, 66, 67, 68, 69, 70] (by decide +kernel) (by decide +kernel)
set_option maxRecDepth 20000 in
theorem gX12_tell_X12_isRiver : GoodIn wsX12_tell (wsV RX12 154 RX12 yX12_isRiver wsX12_isRiver) := goodIn_app (goodIn_of _ (by decide +kernel)) ggX12_tell_X12_isRiver
set_option maxRecDepth 20000 in
theorem ggX12_tell_X12_isSeason : GoodIn wsX12_tell wsX12_isSeason := goodIn_r _ [18] (by decide +kernel) (by decide +kernel)
set_option maxRecDepth 20000 in
theorem gX12_tell_X12_isSeason : GoodIn wsX12_tell (va_wsS RX12 223 yX12_isSeason wsX12_isSeason) := goodIn_app (goodIn_of _ (by decide +kernel)) ggX12_tell_X12_isSeason
theorem dX12_tell_0 : decode cX12_tell 0 = .ok (.aload_n 0, 1) := by decide +kernel
theorem dX12_tell_1 : decode cX12_tell 1 = .ok (.iload_n 1, 1) := by decide +kernel
theorem dX12_tell_2 : decode cX12_tell 2 = .ok (.invokevirtual 154, 3) := by decide +kernel
theorem dX12_tell_5 : decode cX12_tell 5 = .ok (.ifCond .eq 33, 3) := by decide +kernel
theorem dX12_tell_8 : decode cX12_tell 8 = .ok (.iload_n 2, 1) := by decide +kernel
theorem dX12_tell_9 : decode cX12_tell 9 = .ok (.invokestatic 223, 3) := by decide +kernel
theorem dX12_tell_12 : decode cX12_tell 12 = .ok (.ifCond .eq 26, 3) := by decide +kernel
theorem dX12_tell_15 : decode cX12_tell 15 = .ok (.iload_n 3, 1) := by decide +kernel
theorem dX12_tell_16 : decode cX12_tell 16 = .ok (.ifCond .lt 22, 3) := by decide +kernel
theorem dX12_tell_19 : decode cX12_tell 19 = .ok (.iload_n 3, 1) := by decide +kernel
theorem dX12_tell_20 : decode cX12_tell 20 = .ok (.sipush 9999, 3) := by decide +kernel
theorem dX12_tell_23 : decode cX12_tell 23 = .ok (.if_icmp .gt 15, 3) := by decide +kernel
theorem dX12_tell_26 : decode cX12_tell 26 = .ok (.aload_n 0, 1) := by decide +kernel
theorem dX12_tell_27 : decode cX12_tell 27 = .ok (.getfield 38, 3) := by decide +kernel
theorem dX12_tell_30 : decode cX12_tell 30 = .ok (.getfield 373, 3) := by decide +kernel
theorem dX12_tell_33 : decode cX12_tell 33 = .ok (.bipush 10, 2) := by decide +kernel
theorem dX12_tell_35 : decode cX12_tell 35 = .ok (.if_icmp .lt 5, 3) := by decide +kernel
theorem dX12_tell_38 : decode cX12_tell 38 = .ok (.iconst 0, 1) := by decide +kernel
theorem dX12_tell_39 : decode cX12_tell 39 = .ok (.ireturn, 1) := by decide +kernel
theorem dX12_tell_40 : decode cX12_tell 40 = .ok (.aload_n 0, 1) := by decide +kernel
theorem dX12_tell_41 : decode cX12_tell 41 = .ok (.getfield 38, 3) := by decide +kernel
theorem dX12_tell_44 : decode cX12_tell 44 = .ok (.getfield 376, 3) := by decide +kernel
theorem dX12_tell_47 : decode cX12_tell 47 = .ok (.aload_n 0, 1) := by decide +kernel
theorem dX12_tell_48 : decode cX12_tell 48 = .ok (.getfield 38, 3) := by decide +kernel
theorem dX12_tell_51 : decode cX12_tell 51 = .ok (.getfield 373, 3) := by decide +kernel
theorem dX12_tell_54 : decode cX12_tell 54 = .ok (.iload_n 1, 1) := by decide +kernel
theorem dX12_tell_55 : decode cX12_tell 55 = .ok (.iastore, 1) := by decide +kernel
theorem dX12_tell_56 : decode cX12_tell 56 = .ok (.aload_n 0, 1) := by decide +kernel
theorem dX12_tell_57 : decode cX12_tell 57 = .ok (.getfield 38, 3) := by decide +kernel
theorem dX12_tell_60 : decode cX12_tell 60 = .ok (.getfield 379, 3) := by decide +kernel
theorem dX12_tell_63 : decode cX12_tell 63 = .ok (.aload_n 0, 1) := by decide +kernel
theorem dX12_tell_64 : decode cX12_tell 64 = .ok (.getfield 38, 3) := by decide +kernel
theorem dX12_tell_67 : decode cX12_tell 67 = .ok (.getfield 373, 3) := by decide +kernel
theorem dX12_tell_70 : decode cX12_tell 70 = .ok (.iload_n 2, 1) := by decide +kernel
theorem dX12_tell_71 : decode cX12_tell 71 = .ok (.iastore, 1) := by decide +kernel
theorem dX12_tell_72 : decode cX12_tell 72 = .ok (.aload_n 0, 1) := by decide +kernel
theorem dX12_tell_73 : decode cX12_tell 73 = .ok (.getfield 38, 3) := by decide +kernel
theorem dX12_tell_76 : decode cX12_tell 76 = .ok (.getfield 382, 3) := by decide +kernel
theorem dX12_tell_79 : decode cX12_tell 79 = .ok (.aload_n 0, 1) := by decide +kernel
theorem dX12_tell_80 : decode cX12_tell 80 = .ok (.getfield 38, 3) := by decide +kernel
theorem dX12_tell_83 : decode cX12_tell 83 = .ok (.getfield 373, 3) := by decide +kernel
theorem dX12_tell_86 : decode cX12_tell 86 = .ok (.iload_n 3, 1) := by decide +kernel
theorem dX12_tell_87 : decode cX12_tell 87 = .ok (.iastore, 1) := by decide +kernel
theorem dX12_tell_88 : decode cX12_tell 88 = .ok (.aload_n 0, 1) := by decide +kernel
theorem dX12_tell_89 : decode cX12_tell 89 = .ok (.getfield 38, 3) := by decide +kernel
theorem dX12_tell_92 : decode cX12_tell 92 = .ok (.dup, 1) := by decide +kernel
theorem dX12_tell_93 : decode cX12_tell 93 = .ok (.getfield 373, 3) := by decide +kernel
theorem dX12_tell_96 : decode cX12_tell 96 = .ok (.iconst 1, 1) := by decide +kernel
theorem dX12_tell_97 : decode cX12_tell 97 = .ok (.iadd, 1) := by decide +kernel
theorem dX12_tell_98 : decode cX12_tell 98 = .ok (.putfield 373, 3) := by decide +kernel
theorem dX12_tell_101 : decode cX12_tell 101 = .ok (.aload_n 0, 1) := by decide +kernel
theorem dX12_tell_102 : decode cX12_tell 102 = .ok (.getfield 76, 3) := by decide +kernel
theorem dX12_tell_105 : decode cX12_tell 105 = .ok (.iconst 0, 1) := by decide +kernel
theorem dX12_tell_106 : decode cX12_tell 106 = .ok (.putfield 127, 3) := by decide +kernel
theorem dX12_tell_109 : decode cX12_tell 109 = .ok (.iconst 1, 1) := by decide +kernel
theorem dX12_tell_110 : decode cX12_tell 110 = .ok (.ireturn, 1) := by decide +kernel
set_option maxRecDepth 20000 in
theorem ggX12_found_X10_refresh : GoodIn wsX12_found wsX10_refresh := goodIn_r _ [14, 15, 16, 17, 18, 19, 20, 21, 22, 23, 24, 25, 26, 27, 28, 29, 30, 31, 32, 33, 34, 35, 36, 37, 38, 39, 40, 41, 42, 13, 43, 44, 45, 46, 47, 48, 49, 50, 51, 52, 53, 54, 55, 56, 57, 58, 59, 60, 61, 5, 62, 8, 63, 64, 65, 66, 67, 68, 69, 70, 71, 72, 73, 74, 75, 76, 77, 78, 79, 80, 81, 82, 83, 84, 85, 86, 87, 88, 89, 90, 91, 92, 93, 94, 95, 96, 97, 98, 99, 100, 101, 102, 103, 104, 105, 106, 107, 108, 109, 110, 111, 112, 113, 114, 115, 116, 117, 118, 119, 120, 121, 122, 123, 124, 125, 126, 127, 128, 129, 130, 131, 132, 133, 134, 135, 136, 137, 138, 139, 140, 141, 142, 143, 144, 145, 146, 147, 148, 149, 150, 151, 152, 153, 154, 155, 156, 157, 158, 159, 160, 161, 162, 163, 164, 165, 166, 167, 168, 197, 198, 199, 200, 201, 202, 203, 204, 205, 206, 207, 208, 209, 210, 211, 212, 185, 186, 187, 188, 189, 190, 191, 192, 193, 194, 195, 196, 213, 214, 215, 216, 217, 218, 219, 220, 221, 222, 223, 224, 225, 226, 227, 228, 229, 230, 231, 232, 233, 234, 235] (by decide +kernel) (by decide +kernel)
set_option maxRecDepth 20000 in
theorem gX12_found_X10_refresh_u385X1 : GoodIn wsX12_found (va_wsU RX12 385 RX1 "RiverVows$Ways" ⟨"RiverVows$Findings", "refresh", "(LRiverVows$Land;)V"⟩ yX10_refresh wsX10_refresh) := goodIn_app (goodIn_of _ (by decide +kernel)) ggX12_found_X10_refresh
theorem dX12_found_0 : decode cX12_found 0 = .ok (.iload_n 1, 1) := by decide +kernel
theorem dX12_found_1 : decode cX12_found 1 = .ok (.ifCond .lt 16, 3) := by decide +kernel
theorem dX12_found_4 : decode cX12_found 4 = .ok (.iload_n 1, 1) := by decide +kernel
theorem dX12_found_5 : decode cX12_found 5 = .ok (.iconst 2, 1) := by decide +kernel
theorem dX12_found_6 : decode cX12_found 6 = .ok (.aload_n 0, 1) := by decide +kernel
theorem dX12_found_7 : decode cX12_found 7 = .ok (.getfield 19, 3) := by decide +kernel
theorem dX12_found_10 : decode cX12_found 10 = .ok (.getfield 151, 3) := by decide +kernel
theorem dX12_found_13 : decode cX12_found 13 = .ok (.iadd, 1) := by decide +kernel
theorem dX12_found_14 : decode cX12_found 14 = .ok (.if_icmp .lt 6, 3) := by decide +kernel
theorem dX12_found_17 : decode cX12_found 17 = .ok (.bipush (-3), 2) := by decide +kernel
theorem dX12_found_19 : decode cX12_found 19 = .ok (.ireturn, 1) := by decide +kernel
theorem dX12_found_20 : decode cX12_found 20 = .ok (.aload_n 0, 1) := by decide +kernel
theorem dX12_found_21 : decode cX12_found 21 = .ok (.getfield 76, 3) := by decide +kernel
theorem dX12_found_24 : decode cX12_found 24 = .ok (.aload_n 0, 1) := by decide +kernel
theorem dX12_found_25 : decode cX12_found 25 = .ok (.getfield 19, 3) := by decide +kernel
theorem dX12_found_28 : decode cX12_found 28 = .ok (.invokevirtual 385, 3) := by decide +kernel
theorem dX12_found_31 : decode cX12_found 31 = .ok (.iload_n 1, 1) := by decide +kernel
theorem dX12_found_32 : decode cX12_found 32 = .ok (.ifCond .ne 11, 3) := by decide +kernel
theorem dX12_found_35 : decode cX12_found 35 = .ok (.aload_n 0, 1) := by decide +kernel
theorem dX12_found_36 : decode cX12_found 36 = .ok (.getfield 76, 3) := by decide +kernel
theorem dX12_found_39 : decode cX12_found 39 = .ok (.getfield 386, 3) := by decide +kernel
theorem dX12_found_42 : decode cX12_found 42 = .ok (.ireturn, 1) := by decide +kernel
theorem dX12_found_43 : decode cX12_found 43 = .ok (.aload_n 0, 1) := by decide +kernel
theorem dX12_found_44 : decode cX12_found 44 = .ok (.getfield 76, 3) := by decide +kernel
theorem dX12_found_47 : decode cX12_found 47 = .ok (.getfield 386, 3) := by decide +kernel
theorem dX12_found_50 : decode cX12_found 50 = .ok (.ifCond .ne 6, 3) := by decide +kernel
theorem dX12_found_53 : decode cX12_found 53 = .ok (.bipush (-3), 2) := by decide +kernel
theorem dX12_found_55 : decode cX12_found 55 = .ok (.ireturn, 1) := by decide +kernel
theorem dX12_found_56 : decode cX12_found 56 = .ok (.iload_n 1, 1) := by decide +kernel
theorem dX12_found_57 : decode cX12_found 57 = .ok (.iconst 1, 1) := by decide +kernel
theorem dX12_found_58 : decode cX12_found 58 = .ok (.if_icmp .ne 13, 3) := by decide +kernel
theorem dX12_found_61 : decode cX12_found 61 = .ok (.aload_n 0, 1) := by decide +kernel
theorem dX12_found_62 : decode cX12_found 62 = .ok (.getfield 76, 3) := by decide +kernel
theorem dX12_found_65 : decode cX12_found 65 = .ok (.getfield 387, 3) := by decide +kernel
theorem dX12_found_68 : decode cX12_found 68 = .ok (.goto 14, 3) := by decide +kernel
theorem dX12_found_71 : decode cX12_found 71 = .ok (.aload_n 0, 1) := by decide +kernel
theorem dX12_found_72 : decode cX12_found 72 = .ok (.getfield 76, 3) := by decide +kernel
theorem dX12_found_75 : decode cX12_found 75 = .ok (.getfield 390, 3) := by decide +kernel
theorem dX12_found_78 : decode cX12_found 78 = .ok (.iload_n 1, 1) := by decide +kernel
theorem dX12_found_79 : decode cX12_found 79 = .ok (.iconst 2, 1) := by decide +kernel
theorem dX12_found_80 : decode cX12_found 80 = .ok (.isub, 1) := by decide +kernel
theorem dX12_found_81 : decode cX12_found 81 = .ok (.iaload, 1) := by decide +kernel
theorem dX12_found_82 : decode cX12_found 82 = .ok (.ireturn, 1) := by decide +kernel
set_option maxRecDepth 20000 in
theorem ggX12_rests_X12_isRiver : GoodIn wsX12_rests wsX12_isRiver := goodIn_r _ [5, 6, 7, 66, 67, 68, 69, 70, 71, 72, 73, 74, 75, 76, 77, 78, 79, 80, 81, 82, 83, 84, 85, 86, 87, 88, 89, 90, 91, 92, 93] (by decide +kernel) (by decide +kernel)
set_option maxRecDepth 20000 in
theorem gX12_rests_X12_isRiver : GoodIn wsX12_rests (wsV RX12 154 RX12 yX12_isRiver wsX12_isRiver) := goodIn_app (goodIn_of _ (by decide +kernel)) ggX12_rests_X12_isRiver
set_option maxRecDepth 20000 in
theorem ggX12_rests_X12_areTwo : GoodIn wsX12_rests wsX12_areTwo := goodIn_r _ [11, 1, 2, 3, 4, 5, 6, 7, 66, 67, 68, 69, 70, 71, 72, 73, 74, 75, 76, 77, 78, 79, 80, 81, 82, 83, 84, 85, 86, 87, 88, 89, 90, 91, 92, 93] (by decide +kernel) (by decide +kernel)
set_option maxRecDepth 20000 in
theorem gX12_rests_X12_areTwo : GoodIn wsX12_rests (wsV RX12 238 RX12 yX12_areTwo wsX12_areTwo) := goodIn_app (goodIn_of _ (by decide +kernel)) ggX12_rests_X12_areTwo
set_option maxRecDepth 20000 in
theorem ggX12_rests_X12_netNow : GoodIn wsX12_rests wsX12_netNow := goodIn_r _ [15, 16, 6, 17, 18, 19, 20, 21, 22, 23, 24, 25, 26, 27, 28, 29, 30, 31, 32, 33, 34, 35, 36, 37, 38, 39, 66, 67, 68, 69, 70, 71, 72, 73, 74, 75, 76, 77, 78, 79, 80, 81, 94, 95, 96, 97, 98, 99, 100, 101, 102, 103, 104, 82, 83, 84, 85, 86, 87, 88, 89, 90, 91, 92, 93, 105, 106, 107] (by decide +kernel) (by decide +kernel)
set_option maxRecDepth 20000 in
theorem gX12_rests_X12_netNow : GoodIn wsX12_rests (wsV RX12 177 RX12 yX12_netNow wsX12_netNow) := goodIn_app (goodIn_of _ (by decide +kernel)) ggX12_rests_X12_netNow
set_option maxRecDepth 20000 in
theorem ggX12_rests_X5_allows : GoodIn wsX12_rests wsX5_allows := goodIn_r _ [43, 30, 29, 44, 31, 45, 46, 36, 37, 38, 22, 39, 24, 105, 106, 107, 82, 83, 84, 85, 86, 87, 88, 89, 90, 91, 92, 93, 108, 109, 110, 111, 112, 113, 114, 115, 116, 117, 118, 119] (by decide +kernel) (by decide +kernel)
set_option maxRecDepth 20000 in
theorem gX12_rests_X5_allows : GoodIn wsX12_rests (wsV RX12 245 RX5 yX5_allows wsX5_allows) := goodIn_app (goodIn_of _ (by decide +kernel)) ggX12_rests_X5_allows
set_option maxRecDepth 20000 in
theorem ggX12_rests_X12_season : GoodIn wsX12_rests wsX12_season := goodIn_r _ [50, 17, 51, 66, 67, 68, 69, 70, 71, 72, 73, 74, 75, 76, 77, 78, 79, 80, 81, 94, 95, 96, 97, 98, 99, 100, 101, 102, 103, 104] (by decide +kernel) (by decide +kernel)
set_option maxRecDepth 20000 in
theorem gX12_rests_X12_season : GoodIn wsX12_rests (wsV RX12 226 RX12 yX12_season wsX12_season) := goodIn_app (goodIn_of _ (by decide +kernel)) ggX12_rests_X12_season
set_option maxRecDepth 20000 in
theorem ggX12_rests_X12_mouthFlow : GoodIn wsX12_rests wsX12_mouthFlow := goodIn_r _ [55, 6, 56, 12, 13, 14, 4, 15, 16, 17, 18, 19, 20, 21, 22, 23, 24, 25, 26, 27, 28, 29, 30, 31, 32, 33, 34, 35, 36, 37, 38, 39, 57, 58, 59, 60, 61, 62, 66, 67, 68, 69, 70, 71, 72, 73, 74, 75, 76, 77, 78, 79, 80, 81, 105, 106, 107, 94, 95, 96, 97, 98, 99, 100, 101, 102, 103, 104, 82, 83, 84, 85, 86, 87, 88, 89, 90, 91, 92, 93] (by decide +kernel) (by decide +kernel)
set_option maxRecDepth 20000 in
theorem gX12_rests_X12_mouthFlow : GoodIn wsX12_rests (wsV RX12 262 RX12 yX12_mouthFlow wsX12_mouthFlow) := goodIn_app (goodIn_of _ (by decide +kernel)) ggX12_rests_X12_mouthFlow
set_option maxRecDepth 20000 in
theorem ggX12_rests_X12_areAtRest : GoodIn wsX12_rests wsX12_areAtRest := goodIn_r _ [65] (by decide +kernel) (by decide +kernel)
set_option maxRecDepth 20000 in
theorem gX12_rests_X12_areAtRest : GoodIn wsX12_rests (va_wsS RX12 391 yX12_areAtRest wsX12_areAtRest) := goodIn_app (goodIn_of _ (by decide +kernel)) ggX12_rests_X12_areAtRest
theorem dX12_rests_0 : decode cX12_rests 0 = .ok (.aload_n 0, 1) := by decide +kernel
theorem dX12_rests_1 : decode cX12_rests 1 = .ok (.iload_n 1, 1) := by decide +kernel
theorem dX12_rests_2 : decode cX12_rests 2 = .ok (.invokevirtual 154, 3) := by decide +kernel
theorem dX12_rests_5 : decode cX12_rests 5 = .ok (.ifCond .eq 18, 3) := by decide +kernel
theorem dX12_rests_8 : decode cX12_rests 8 = .ok (.aload_n 0, 1) := by decide +kernel
theorem dX12_rests_9 : decode cX12_rests 9 = .ok (.iload_n 2, 1) := by decide +kernel
theorem dX12_rests_10 : decode cX12_rests 10 = .ok (.iload_n 3, 1) := by decide +kernel
theorem dX12_rests_11 : decode cX12_rests 11 = .ok (.invokevirtual 238, 3) := by decide +kernel
theorem dX12_rests_14 : decode cX12_rests 14 = .ok (.ifCond .eq 9, 3) := by decide +kernel
theorem dX12_rests_17 : decode cX12_rests 17 = .ok (.iload 4, 2) := by decide +kernel
theorem dX12_rests_19 : decode cX12_rests 19 = .ok (.iconst (-1), 1) := by decide +kernel
theorem dX12_rests_20 : decode cX12_rests 20 = .ok (.if_icmp .ge 5, 3) := by decide +kernel
theorem dX12_rests_23 : decode cX12_rests 23 = .ok (.iconst (-1), 1) := by decide +kernel
theorem dX12_rests_24 : decode cX12_rests 24 = .ok (.ireturn, 1) := by decide +kernel
theorem dX12_rests_25 : decode cX12_rests 25 = .ok (.aload_n 0, 1) := by decide +kernel
theorem dX12_rests_26 : decode cX12_rests 26 = .ok (.invokevirtual 177, 3) := by decide +kernel
theorem dX12_rests_29 : decode cX12_rests 29 = .ok (.astore 5, 2) := by decide +kernel
theorem dX12_rests_31 : decode cX12_rests 31 = .ok (.aload 5, 2) := by decide +kernel
theorem dX12_rests_33 : decode cX12_rests 33 = .ok (.iload_n 1, 1) := by decide +kernel
theorem dX12_rests_34 : decode cX12_rests 34 = .ok (.iload_n 2, 1) := by decide +kernel
theorem dX12_rests_35 : decode cX12_rests 35 = .ok (.invokevirtual 245, 3) := by decide +kernel
theorem dX12_rests_38 : decode cX12_rests 38 = .ok (.ifCond .eq 13, 3) := by decide +kernel
theorem dX12_rests_41 : decode cX12_rests 41 = .ok (.aload 5, 2) := by decide +kernel
theorem dX12_rests_43 : decode cX12_rests 43 = .ok (.iload_n 1, 1) := by decide +kernel
theorem dX12_rests_44 : decode cX12_rests 44 = .ok (.iload_n 3, 1) := by decide +kernel
theorem dX12_rests_45 : decode cX12_rests 45 = .ok (.invokevirtual 245, 3) := by decide +kernel
theorem dX12_rests_48 : decode cX12_rests 48 = .ok (.ifCond .ne 5, 3) := by decide +kernel
theorem dX12_rests_51 : decode cX12_rests 51 = .ok (.iconst (-1), 1) := by decide +kernel
theorem dX12_rests_52 : decode cX12_rests 52 = .ok (.ireturn, 1) := by decide +kernel
theorem dX12_rests_53 : decode cX12_rests 53 = .ok (.aload_n 0, 1) := by decide +kernel
theorem dX12_rests_54 : decode cX12_rests 54 = .ok (.iload_n 1, 1) := by decide +kernel
theorem dX12_rests_55 : decode cX12_rests 55 = .ok (.aload_n 0, 1) := by decide +kernel
theorem dX12_rests_56 : decode cX12_rests 56 = .ok (.invokevirtual 226, 3) := by decide +kernel
theorem dX12_rests_59 : decode cX12_rests 59 = .ok (.invokevirtual 262, 3) := by decide +kernel
theorem dX12_rests_62 : decode cX12_rests 62 = .ok (.iconst 5, 1) := by decide +kernel
theorem dX12_rests_63 : decode cX12_rests 63 = .ok (.idiv, 1) := by decide +kernel
theorem dX12_rests_64 : decode cX12_rests 64 = .ok (.istore 6, 2) := by decide +kernel
theorem dX12_rests_66 : decode cX12_rests 66 = .ok (.iconst 0, 1) := by decide +kernel
theorem dX12_rests_67 : decode cX12_rests 67 = .ok (.istore 7, 2) := by decide +kernel
theorem dX12_rests_69 : decode cX12_rests 69 = .ok (.iconst 0, 1) := by decide +kernel
theorem dX12_rests_70 : decode cX12_rests 70 = .ok (.istore 8, 2) := by decide +kernel
theorem dX12_rests_72 : decode cX12_rests 72 = .ok (.iload 8, 2) := by decide +kernel
theorem dX12_rests_74 : decode cX12_rests 74 = .ok (.bipush 9, 2) := by decide +kernel
theorem dX12_rests_76 : decode cX12_rests 76 = .ok (.if_icmp .gt 56, 3) := by decide +kernel
theorem dX12_rests_79 : decode cX12_rests 79 = .ok (.iconst 0, 1) := by decide +kernel
theorem dX12_rests_80 : decode cX12_rests 80 = .ok (.istore 9, 2) := by decide +kernel
theorem dX12_rests_82 : decode cX12_rests 82 = .ok (.iload 9, 2) := by decide +kernel
theorem dX12_rests_84 : decode cX12_rests 84 = .ok (.bipush 9, 2) := by decide +kernel
theorem dX12_rests_86 : decode cX12_rests 86 = .ok (.if_icmp .gt 40, 3) := by decide +kernel
theorem dX12_rests_89 : decode cX12_rests 89 = .ok (.iload 8, 2) := by decide +kernel
theorem dX12_rests_91 : decode cX12_rests 91 = .ok (.iload 9, 2) := by decide +kernel
theorem dX12_rests_93 : decode cX12_rests 93 = .ok (.iload 6, 2) := by decide +kernel
theorem dX12_rests_95 : decode cX12_rests 95 = .ok (.invokestatic 391, 3) := by decide +kernel
theorem dX12_rests_98 : decode cX12_rests 98 = .ok (.ifCond .eq 22, 3) := by decide +kernel
theorem dX12_rests_101 : decode cX12_rests 101 = .ok (.iload 7, 2) := by decide +kernel
theorem dX12_rests_103 : decode cX12_rests 103 = .ok (.iload 4, 2) := by decide +kernel
theorem dX12_rests_105 : decode cX12_rests 105 = .ok (.if_icmp .ne 12, 3) := by decide +kernel
theorem dX12_rests_108 : decode cX12_rests 108 = .ok (.bipush 10, 2) := by decide +kernel
theorem dX12_rests_110 : decode cX12_rests 110 = .ok (.iload 8, 2) := by decide +kernel
theorem dX12_rests_112 : decode cX12_rests 112 = .ok (.imul, 1) := by decide +kernel
theorem dX12_rests_113 : decode cX12_rests 113 = .ok (.iload 9, 2) := by decide +kernel
theorem dX12_rests_115 : decode cX12_rests 115 = .ok (.iadd, 1) := by decide +kernel
theorem dX12_rests_116 : decode cX12_rests 116 = .ok (.ireturn, 1) := by decide +kernel
theorem dX12_rests_117 : decode cX12_rests 117 = .ok (.iinc 7 1, 3) := by decide +kernel
theorem dX12_rests_120 : decode cX12_rests 120 = .ok (.iinc 9 1, 3) := by decide +kernel
theorem dX12_rests_123 : decode cX12_rests 123 = .ok (.goto (-41), 3) := by decide +kernel
theorem dX12_rests_126 : decode cX12_rests 126 = .ok (.iinc 8 1, 3) := by decide +kernel
theorem dX12_rests_129 : decode cX12_rests 129 = .ok (.goto (-57), 3) := by decide +kernel
theorem dX12_rests_132 : decode cX12_rests 132 = .ok (.iload 4, 2) := by decide +kernel
theorem dX12_rests_134 : decode cX12_rests 134 = .ok (.iconst (-1), 1) := by decide +kernel
theorem dX12_rests_135 : decode cX12_rests 135 = .ok (.if_icmp .ne 8, 3) := by decide +kernel
theorem dX12_rests_138 : decode cX12_rests 138 = .ok (.iload 7, 2) := by decide +kernel
theorem dX12_rests_140 : decode cX12_rests 140 = .ok (.goto 4, 3) := by decide +kernel
theorem dX12_rests_143 : decode cX12_rests 143 = .ok (.iconst (-1), 1) := by decide +kernel
theorem dX12_rests_144 : decode cX12_rests 144 = .ok (.ireturn, 1) := by decide +kernel
set_option maxRecDepth 20000 in
theorem ggX12_dams_X12_areTwo : GoodIn wsX12_dams wsX12_areTwo := goodIn_r _ [10, 11, 12, 13, 9, 14, 1, 15, 31, 32, 33, 34, 35, 36, 37, 38, 39, 40, 41, 42, 43, 44, 45, 46, 47, 48, 49, 50, 51, 52, 53, 54, 55, 56, 57, 58] (by decide +kernel) (by decide +kernel)
set_option maxRecDepth 20000 in
theorem gX12_dams_X12_areTwo : GoodIn wsX12_dams (wsV RX12 238 RX12 yX12_areTwo wsX12_areTwo) := goodIn_app (goodIn_of _ (by decide +kernel)) ggX12_dams_X12_areTwo
set_option maxRecDepth 20000 in
theorem ggX12_dams_X12_season : GoodIn wsX12_dams wsX12_season := goodIn_r _ [19, 20, 21, 31, 32, 33, 34, 35, 36, 37, 38, 39, 40, 41, 42, 43, 44, 45, 46, 59, 60, 61, 62, 63, 64, 65, 66, 67, 68, 69] (by decide +kernel) (by decide +kernel)
set_option maxRecDepth 20000 in
theorem gX12_dams_X12_season : GoodIn wsX12_dams (wsV RX12 226 RX12 yX12_season wsX12_season) := goodIn_app (goodIn_of _ (by decide +kernel)) ggX12_dams_X12_season
set_option maxRecDepth 20000 in
theorem ggX12_dams_X3_water : GoodIn wsX12_dams wsX3_water := goodIn_r _ [26, 27, 47, 48, 49, 50, 51, 52, 53, 54, 55, 56, 57, 58] (by decide +kernel) (by decide +kernel)
set_option maxRecDepth 20000 in
theorem gX12_dams_X3_water : GoodIn wsX12_dams (wsV RX12 184 RX3 yX3_water wsX3_water) := goodIn_app (goodIn_of _ (by decide +kernel)) ggX12_dams_X3_water
set_option maxRecDepth 20000 in
theorem ggX12_dams_X12_winningTake : GoodIn wsX12_dams wsX12_winningTake := goodIn_r _ [30] (by decide +kernel) (by decide +kernel)
set_option maxRecDepth 20000 in
theorem gX12_dams_X12_winningTake : GoodIn wsX12_dams (va_wsS RX12 400 yX12_winningTake wsX12_winningTake) := goodIn_app (goodIn_of _ (by decide +kernel)) ggX12_dams_X12_winningTake
theorem dX12_dams_0 : decode cX12_dams 0 = .ok (.aload_n 0, 1) := by decide +kernel
theorem dX12_dams_1 : decode cX12_dams 1 = .ok (.iload_n 1, 1) := by decide +kernel
theorem dX12_dams_2 : decode cX12_dams 2 = .ok (.iload_n 2, 1) := by decide +kernel
theorem dX12_dams_3 : decode cX12_dams 3 = .ok (.invokevirtual 238, 3) := by decide +kernel
theorem dX12_dams_6 : decode cX12_dams 6 = .ok (.ifCond .eq 12, 3) := by decide +kernel
theorem dX12_dams_9 : decode cX12_dams 9 = .ok (.iload_n 3, 1) := by decide +kernel
theorem dX12_dams_10 : decode cX12_dams 10 = .ok (.ifCond .lt 8, 3) := by decide +kernel
theorem dX12_dams_13 : decode cX12_dams 13 = .ok (.iload_n 3, 1) := by decide +kernel
theorem dX12_dams_14 : decode cX12_dams 14 = .ok (.iconst 1, 1) := by decide +kernel
theorem dX12_dams_15 : decode cX12_dams 15 = .ok (.if_icmp .le 5, 3) := by decide +kernel
theorem dX12_dams_18 : decode cX12_dams 18 = .ok (.iconst (-1), 1) := by decide +kernel
theorem dX12_dams_19 : decode cX12_dams 19 = .ok (.ireturn, 1) := by decide +kernel
theorem dX12_dams_20 : decode cX12_dams 20 = .ok (.aload_n 0, 1) := by decide +kernel
theorem dX12_dams_21 : decode cX12_dams 21 = .ok (.getfield 19, 3) := by decide +kernel
theorem dX12_dams_24 : decode cX12_dams 24 = .ok (.iconst 1, 1) := by decide +kernel
theorem dX12_dams_25 : decode cX12_dams 25 = .ok (.iload_n 1, 1) := by decide +kernel
theorem dX12_dams_26 : decode cX12_dams 26 = .ok (.ishl, 1) := by decide +kernel
theorem dX12_dams_27 : decode cX12_dams 27 = .ok (.aload_n 0, 1) := by decide +kernel
theorem dX12_dams_28 : decode cX12_dams 28 = .ok (.invokevirtual 226, 3) := by decide +kernel
theorem dX12_dams_31 : decode cX12_dams 31 = .ok (.invokevirtual 184, 3) := by decide +kernel
theorem dX12_dams_34 : decode cX12_dams 34 = .ok (.bipush 20, 2) := by decide +kernel
theorem dX12_dams_36 : decode cX12_dams 36 = .ok (.invokestatic 395, 3) := by decide +kernel
theorem dX12_dams_39 : decode cX12_dams 39 = .ok (.istore 4, 2) := by decide +kernel
theorem dX12_dams_41 : decode cX12_dams 41 = .ok (.aload_n 0, 1) := by decide +kernel
theorem dX12_dams_42 : decode cX12_dams 42 = .ok (.getfield 19, 3) := by decide +kernel
theorem dX12_dams_45 : decode cX12_dams 45 = .ok (.iconst 1, 1) := by decide +kernel
theorem dX12_dams_46 : decode cX12_dams 46 = .ok (.iload_n 2, 1) := by decide +kernel
theorem dX12_dams_47 : decode cX12_dams 47 = .ok (.ishl, 1) := by decide +kernel
theorem dX12_dams_48 : decode cX12_dams 48 = .ok (.aload_n 0, 1) := by decide +kernel
theorem dX12_dams_49 : decode cX12_dams 49 = .ok (.invokevirtual 226, 3) := by decide +kernel
theorem dX12_dams_52 : decode cX12_dams 52 = .ok (.invokevirtual 184, 3) := by decide +kernel
theorem dX12_dams_55 : decode cX12_dams 55 = .ok (.bipush 20, 2) := by decide +kernel
theorem dX12_dams_57 : decode cX12_dams 57 = .ok (.invokestatic 395, 3) := by decide +kernel
theorem dX12_dams_60 : decode cX12_dams 60 = .ok (.istore 5, 2) := by decide +kernel
theorem dX12_dams_62 : decode cX12_dams 62 = .ok (.iload 4, 2) := by decide +kernel
theorem dX12_dams_64 : decode cX12_dams 64 = .ok (.iload 5, 2) := by decide +kernel
theorem dX12_dams_66 : decode cX12_dams 66 = .ok (.invokestatic 400, 3) := by decide +kernel
theorem dX12_dams_69 : decode cX12_dams 69 = .ok (.istore 6, 2) := by decide +kernel
theorem dX12_dams_71 : decode cX12_dams 71 = .ok (.iload_n 3, 1) := by decide +kernel
theorem dX12_dams_72 : decode cX12_dams 72 = .ok (.iconst 1, 1) := by decide +kernel
theorem dX12_dams_73 : decode cX12_dams 73 = .ok (.if_icmp .ne 6, 3) := by decide +kernel
theorem dX12_dams_76 : decode cX12_dams 76 = .ok (.iload 6, 2) := by decide +kernel
theorem dX12_dams_78 : decode cX12_dams 78 = .ok (.ireturn, 1) := by decide +kernel
theorem dX12_dams_79 : decode cX12_dams 79 = .ok (.iload 6, 2) := by decide +kernel
theorem dX12_dams_81 : decode cX12_dams 81 = .ok (.iconst (-1), 1) := by decide +kernel
theorem dX12_dams_82 : decode cX12_dams 82 = .ok (.if_icmp .ne 7, 3) := by decide +kernel
theorem dX12_dams_85 : decode cX12_dams 85 = .ok (.iconst 0, 1) := by decide +kernel
theorem dX12_dams_86 : decode cX12_dams 86 = .ok (.goto 4, 3) := by decide +kernel
theorem dX12_dams_89 : decode cX12_dams 89 = .ok (.iconst 1, 1) := by decide +kernel
theorem dX12_dams_90 : decode cX12_dams 90 = .ok (.ireturn, 1) := by decide +kernel
set_option maxRecDepth 20000 in
theorem ggX12_centuries_X12_netNow : GoodIn wsX12_centuries wsX12_netNow := goodIn_r _ [10, 5, 1, 3, 11, 12, 13, 14, 15, 16, 17, 18, 19, 20, 21, 22, 23, 24, 25, 26, 27, 28, 29, 30, 31, 32, 93, 94, 95, 96, 97, 98, 99, 100, 101, 102, 103, 104, 105, 106, 107, 108, 121, 122, 123, 124, 125, 126, 127, 128, 129, 130, 131, 109, 110, 111, 112, 113, 114, 115, 116, 117, 118, 119, 120, 132, 133, 134] (by decide +kernel) (by decide +kernel)
set_option maxRecDepth 20000 in
theorem gX12_centuries_X12_netNow : GoodIn wsX12_centuries (wsV RX12 177 RX12 yX12_netNow wsX12_netNow) := goodIn_app (goodIn_of _ (by decide +kernel)) ggX12_centuries_X12_netNow
set_option maxRecDepth 20000 in
theorem ggX12_centuries_X12_stir : GoodIn wsX12_centuries wsX12_stir := goodIn_r _ [35, 36, 37, 38] (by decide +kernel) (by decide +kernel)
set_option maxRecDepth 20000 in
theorem gX12_centuries_X12_stir : GoodIn wsX12_centuries (va_wsS RX12 403 yX12_stir wsX12_stir) := goodIn_app (goodIn_of _ (by decide +kernel)) ggX12_centuries_X12_stir
set_option maxRecDepth 20000 in
theorem ggX12_centuries_X12_drawn : GoodIn wsX12_centuries wsX12_drawn := goodIn_r _ [41, 42] (by decide +kernel) (by decide +kernel)
set_option maxRecDepth 20000 in
theorem gX12_centuries_X12_drawn : GoodIn wsX12_centuries (va_wsS RX12 407 yX12_drawn wsX12_drawn) := goodIn_app (goodIn_of _ (by decide +kernel)) ggX12_centuries_X12_drawn
set_option maxRecDepth 20000 in
theorem ggX12_centuries_X12_befall : GoodIn wsX12_centuries wsX12_befall := goodIn_r _ [46, 1, 2, 5, 33, 34, 9, 35, 36, 37, 38, 39, 40, 41, 42, 47, 48, 49, 15, 50, 23, 22, 51, 24, 52, 53, 29, 30, 31, 32, 17, 54, 26, 27, 28, 55, 56, 57, 58, 93, 94, 95, 96, 97, 98, 99, 100, 101, 102, 103, 104, 105, 106, 107, 108, 109, 110, 111, 112, 113, 114, 115, 116, 117, 118, 119, 120, 132, 133, 134, 135, 136, 137, 138, 139, 140, 141, 142, 143, 144, 145, 146] (by decide +kernel) (by decide +kernel)
set_option maxRecDepth 20000 in
theorem gX12_centuries_X12_befall : GoodIn wsX12_centuries (wsV RX12 411 RX12 yX12_befall wsX12_befall) := goodIn_app (goodIn_of _ (by decide +kernel)) ggX12_centuries_X12_befall
set_option maxRecDepth 20000 in
theorem ggX12_centuries_X5_dryMills : GoodIn wsX12_centuries wsX5_dryMills := goodIn_r _ [62, 22, 17, 52, 63, 64, 65, 66, 67, 15, 68, 53, 69, 23, 24, 70, 71, 72, 73, 74, 75, 132, 133, 134, 109, 110, 111, 112, 113, 114, 115, 116, 117, 118, 119, 120, 135, 136, 137, 138, 139, 140, 141, 142, 143, 144, 145, 146] (by decide +kernel) (by decide +kernel)
set_option maxRecDepth 20000 in
theorem gX12_centuries_X5_dryMills : GoodIn wsX12_centuries (wsV RX12 229 RX5 yX5_dryMills wsX5_dryMills) := goodIn_app (goodIn_of _ (by decide +kernel)) ggX12_centuries_X5_dryMills
set_option maxRecDepth 20000 in
theorem ggX12_centuries_J6_bitCount_0f7a4 : GoodIn wsX12_centuries wsJ6_bitCount_0f7a4 := goodIn_r _ [79, 80, 81, 82] (by decide +kernel) (by decide +kernel)
set_option maxRecDepth 20000 in
theorem gX12_centuries_J6_bitCount_0f7a4 : GoodIn wsX12_centuries (va_wsS RX12 312 yJ6_bitCount_0f7a4 wsJ6_bitCount_0f7a4) := goodIn_app (goodIn_of _ (by decide +kernel)) ggX12_centuries_J6_bitCount_0f7a4
set_option maxRecDepth 20000 in
theorem ggX12_centuries_X5_floodedTowns : GoodIn wsX12_centuries wsX5_floodedTowns := goodIn_r _ [86, 22, 17, 52, 87, 88, 65, 66, 67, 15, 68, 53, 69, 23, 24, 70, 71, 72, 73, 74, 75, 132, 133, 134, 109, 110, 111, 112, 113, 114, 115, 116, 117, 118, 119, 120, 135, 136, 137, 138, 139, 140, 141, 142, 143, 144, 145, 146] (by decide +kernel) (by decide +kernel)
set_option maxRecDepth 20000 in
theorem gX12_centuries_X5_floodedTowns : GoodIn wsX12_centuries (wsV RX12 232 RX5 yX5_floodedTowns wsX5_floodedTowns) := goodIn_app (goodIn_of _ (by decide +kernel)) ggX12_centuries_X5_floodedTowns
set_option maxRecDepth 20000 in
theorem ggX12_centuries_X5_weddings : GoodIn wsX12_centuries wsX5_weddings := goodIn_r _ [92, 22, 17, 23, 132, 133, 134, 109, 110, 111, 112, 113, 114, 115, 116, 117, 118, 119, 120] (by decide +kernel) (by decide +kernel)
set_option maxRecDepth 20000 in
theorem gX12_centuries_X5_weddings : GoodIn wsX12_centuries (wsV RX12 296 RX5 yX5_weddings wsX5_weddings) := goodIn_app (goodIn_of _ (by decide +kernel)) ggX12_centuries_X5_weddings
theorem dX12_centuries_0 : decode cX12_centuries 0 = .ok (.iload_n 1, 1) := by decide +kernel
theorem dX12_centuries_1 : decode cX12_centuries 1 = .ok (.ifCond .lt 21, 3) := by decide +kernel
theorem dX12_centuries_4 : decode cX12_centuries 4 = .ok (.iload_n 1, 1) := by decide +kernel
theorem dX12_centuries_5 : decode cX12_centuries 5 = .ok (.sipush 9999, 3) := by decide +kernel
theorem dX12_centuries_8 : decode cX12_centuries 8 = .ok (.if_icmp .gt 14, 3) := by decide +kernel
theorem dX12_centuries_11 : decode cX12_centuries 11 = .ok (.iload_n 2, 1) := by decide +kernel
theorem dX12_centuries_12 : decode cX12_centuries 12 = .ok (.iconst 1, 1) := by decide +kernel
theorem dX12_centuries_13 : decode cX12_centuries 13 = .ok (.if_icmp .lt 9, 3) := by decide +kernel
theorem dX12_centuries_16 : decode cX12_centuries 16 = .ok (.iload_n 2, 1) := by decide +kernel
theorem dX12_centuries_17 : decode cX12_centuries 17 = .ok (.bipush 100, 2) := by decide +kernel
theorem dX12_centuries_19 : decode cX12_centuries 19 = .ok (.if_icmp .le 5, 3) := by decide +kernel
theorem dX12_centuries_22 : decode cX12_centuries 22 = .ok (.iconst (-1), 1) := by decide +kernel
theorem dX12_centuries_23 : decode cX12_centuries 23 = .ok (.ireturn, 1) := by decide +kernel
theorem dX12_centuries_24 : decode cX12_centuries 24 = .ok (.iload_n 3, 1) := by decide +kernel
theorem dX12_centuries_25 : decode cX12_centuries 25 = .ok (.ifCond .lt 18, 3) := by decide +kernel
theorem dX12_centuries_28 : decode cX12_centuries 28 = .ok (.iload_n 3, 1) := by decide +kernel
theorem dX12_centuries_29 : decode cX12_centuries 29 = .ok (.iconst 2, 1) := by decide +kernel
theorem dX12_centuries_30 : decode cX12_centuries 30 = .ok (.if_icmp .gt 13, 3) := by decide +kernel
theorem dX12_centuries_33 : decode cX12_centuries 33 = .ok (.aload_n 0, 1) := by decide +kernel
theorem dX12_centuries_34 : decode cX12_centuries 34 = .ok (.getfield 19, 3) := by decide +kernel
theorem dX12_centuries_37 : decode cX12_centuries 37 = .ok (.getfield 151, 3) := by decide +kernel
theorem dX12_centuries_40 : decode cX12_centuries 40 = .ok (.ifCond .ne 5, 3) := by decide +kernel
theorem dX12_centuries_43 : decode cX12_centuries 43 = .ok (.iconst (-1), 1) := by decide +kernel
theorem dX12_centuries_44 : decode cX12_centuries 44 = .ok (.ireturn, 1) := by decide +kernel
theorem dX12_centuries_45 : decode cX12_centuries 45 = .ok (.aload_n 0, 1) := by decide +kernel
theorem dX12_centuries_46 : decode cX12_centuries 46 = .ok (.invokevirtual 177, 3) := by decide +kernel
theorem dX12_centuries_49 : decode cX12_centuries 49 = .ok (.pop, 1) := by decide +kernel
theorem dX12_centuries_50 : decode cX12_centuries 50 = .ok (.iload_n 1, 1) := by decide +kernel
theorem dX12_centuries_51 : decode cX12_centuries 51 = .ok (.i2l, 1) := by decide +kernel
theorem dX12_centuries_52 : decode cX12_centuries 52 = .ok (.lstore 4, 2) := by decide +kernel
theorem dX12_centuries_54 : decode cX12_centuries 54 = .ok (.iconst 0, 1) := by decide +kernel
theorem dX12_centuries_55 : decode cX12_centuries 55 = .ok (.istore 6, 2) := by decide +kernel
theorem dX12_centuries_57 : decode cX12_centuries 57 = .ok (.iconst 0, 1) := by decide +kernel
theorem dX12_centuries_58 : decode cX12_centuries 58 = .ok (.istore 7, 2) := by decide +kernel
theorem dX12_centuries_60 : decode cX12_centuries 60 = .ok (.iconst 0, 1) := by decide +kernel
theorem dX12_centuries_61 : decode cX12_centuries 61 = .ok (.istore 8, 2) := by decide +kernel
theorem dX12_centuries_63 : decode cX12_centuries 63 = .ok (.iload 8, 2) := by decide +kernel
theorem dX12_centuries_65 : decode cX12_centuries 65 = .ok (.iload_n 2, 1) := by decide +kernel
theorem dX12_centuries_66 : decode cX12_centuries 66 = .ok (.if_icmp .ge 94, 3) := by decide +kernel
theorem dX12_centuries_69 : decode cX12_centuries 69 = .ok (.lload 4, 2) := by decide +kernel
theorem dX12_centuries_71 : decode cX12_centuries 71 = .ok (.invokestatic 403, 3) := by decide +kernel
theorem dX12_centuries_74 : decode cX12_centuries 74 = .ok (.lstore 4, 2) := by decide +kernel
theorem dX12_centuries_76 : decode cX12_centuries 76 = .ok (.lload 4, 2) := by decide +kernel
theorem dX12_centuries_78 : decode cX12_centuries 78 = .ok (.bipush 10, 2) := by decide +kernel
theorem dX12_centuries_80 : decode cX12_centuries 80 = .ok (.invokestatic 407, 3) := by decide +kernel
theorem dX12_centuries_83 : decode cX12_centuries 83 = .ok (.istore 9, 2) := by decide +kernel
theorem dX12_centuries_85 : decode cX12_centuries 85 = .ok (.aload_n 0, 1) := by decide +kernel
theorem dX12_centuries_86 : decode cX12_centuries 86 = .ok (.iload 9, 2) := by decide +kernel
theorem dX12_centuries_88 : decode cX12_centuries 88 = .ok (.lload 4, 2) := by decide +kernel
theorem dX12_centuries_90 : decode cX12_centuries 90 = .ok (.invokevirtual 411, 3) := by decide +kernel
theorem dX12_centuries_93 : decode cX12_centuries 93 = .ok (.lstore 4, 2) := by decide +kernel
theorem dX12_centuries_95 : decode cX12_centuries 95 = .ok (.aload_n 0, 1) := by decide +kernel
theorem dX12_centuries_96 : decode cX12_centuries 96 = .ok (.getfield 38, 3) := by decide +kernel
theorem dX12_centuries_99 : decode cX12_centuries 99 = .ok (.getfield 167, 3) := by decide +kernel
theorem dX12_centuries_102 : decode cX12_centuries 102 = .ok (.iload 8, 2) := by decide +kernel
theorem dX12_centuries_104 : decode cX12_centuries 104 = .ok (.iadd, 1) := by decide +kernel
theorem dX12_centuries_105 : decode cX12_centuries 105 = .ok (.iconst 4, 1) := by decide +kernel
theorem dX12_centuries_106 : decode cX12_centuries 106 = .ok (.irem, 1) := by decide +kernel
theorem dX12_centuries_107 : decode cX12_centuries 107 = .ok (.iload 9, 2) := by decide +kernel
theorem dX12_centuries_109 : decode cX12_centuries 109 = .ok (.ifCond .ne 7, 3) := by decide +kernel
theorem dX12_centuries_112 : decode cX12_centuries 112 = .ok (.iconst 4, 1) := by decide +kernel
theorem dX12_centuries_113 : decode cX12_centuries 113 = .ok (.goto 4, 3) := by decide +kernel
theorem dX12_centuries_116 : decode cX12_centuries 116 = .ok (.iconst 0, 1) := by decide +kernel
theorem dX12_centuries_117 : decode cX12_centuries 117 = .ok (.iadd, 1) := by decide +kernel
theorem dX12_centuries_118 : decode cX12_centuries 118 = .ok (.istore 10, 2) := by decide +kernel
theorem dX12_centuries_120 : decode cX12_centuries 120 = .ok (.iload 6, 2) := by decide +kernel
theorem dX12_centuries_122 : decode cX12_centuries 122 = .ok (.aload_n 0, 1) := by decide +kernel
theorem dX12_centuries_123 : decode cX12_centuries 123 = .ok (.getfield 58, 3) := by decide +kernel
theorem dX12_centuries_126 : decode cX12_centuries 126 = .ok (.iload 10, 2) := by decide +kernel
theorem dX12_centuries_128 : decode cX12_centuries 128 = .ok (.invokevirtual 229, 3) := by decide +kernel
theorem dX12_centuries_131 : decode cX12_centuries 131 = .ok (.invokestatic 312, 3) := by decide +kernel
theorem dX12_centuries_134 : decode cX12_centuries 134 = .ok (.iadd, 1) := by decide +kernel
theorem dX12_centuries_135 : decode cX12_centuries 135 = .ok (.istore 6, 2) := by decide +kernel
theorem dX12_centuries_137 : decode cX12_centuries 137 = .ok (.iload 7, 2) := by decide +kernel
theorem dX12_centuries_139 : decode cX12_centuries 139 = .ok (.aload_n 0, 1) := by decide +kernel
theorem dX12_centuries_140 : decode cX12_centuries 140 = .ok (.getfield 58, 3) := by decide +kernel
theorem dX12_centuries_143 : decode cX12_centuries 143 = .ok (.iload 10, 2) := by decide +kernel
theorem dX12_centuries_145 : decode cX12_centuries 145 = .ok (.invokevirtual 232, 3) := by decide +kernel
theorem dX12_centuries_148 : decode cX12_centuries 148 = .ok (.invokestatic 312, 3) := by decide +kernel
theorem dX12_centuries_151 : decode cX12_centuries 151 = .ok (.iadd, 1) := by decide +kernel
theorem dX12_centuries_152 : decode cX12_centuries 152 = .ok (.istore 7, 2) := by decide +kernel
theorem dX12_centuries_154 : decode cX12_centuries 154 = .ok (.iinc 8 1, 3) := by decide +kernel
theorem dX12_centuries_157 : decode cX12_centuries 157 = .ok (.goto (-94), 3) := by decide +kernel
theorem dX12_centuries_160 : decode cX12_centuries 160 = .ok (.iload_n 3, 1) := by decide +kernel
theorem dX12_centuries_161 : decode cX12_centuries 161 = .ok (.iconst 2, 1) := by decide +kernel
theorem dX12_centuries_162 : decode cX12_centuries 162 = .ok (.if_icmp .ne 11, 3) := by decide +kernel
theorem dX12_centuries_165 : decode cX12_centuries 165 = .ok (.aload_n 0, 1) := by decide +kernel
theorem dX12_centuries_166 : decode cX12_centuries 166 = .ok (.getfield 58, 3) := by decide +kernel
theorem dX12_centuries_169 : decode cX12_centuries 169 = .ok (.invokevirtual 296, 3) := by decide +kernel
theorem dX12_centuries_172 : decode cX12_centuries 172 = .ok (.ireturn, 1) := by decide +kernel
theorem dX12_centuries_173 : decode cX12_centuries 173 = .ok (.iload_n 3, 1) := by decide +kernel
theorem dX12_centuries_174 : decode cX12_centuries 174 = .ok (.ifCond .ne 8, 3) := by decide +kernel
theorem dX12_centuries_177 : decode cX12_centuries 177 = .ok (.iload 6, 2) := by decide +kernel
theorem dX12_centuries_179 : decode cX12_centuries 179 = .ok (.goto 5, 3) := by decide +kernel
theorem dX12_centuries_182 : decode cX12_centuries 182 = .ok (.iload 7, 2) := by decide +kernel
theorem dX12_centuries_184 : decode cX12_centuries 184 = .ok (.ireturn, 1) := by decide +kernel
set_option maxRecDepth 20000 in
theorem ggX12_count_X12_netNow : GoodIn wsX12_count wsX12_netNow := goodIn_r _ [17, 18, 1, 4, 19, 20, 21, 22, 23, 24, 25, 26, 27, 28, 29, 30, 31, 32, 33, 34, 35, 36, 37, 38, 39, 40, 45, 46, 47, 48, 49, 50, 51, 52, 53, 54, 55, 56, 57, 58, 59, 60, 73, 74, 75, 76, 77, 78, 79, 80, 81, 82, 83, 61, 62, 63, 64, 65, 66, 67, 68, 69, 70, 71, 72, 96, 97, 98] (by decide +kernel) (by decide +kernel)
set_option maxRecDepth 20000 in
theorem gX12_count_X12_netNow : GoodIn wsX12_count (wsV RX12 177 RX12 yX12_netNow wsX12_netNow) := goodIn_app (goodIn_of _ (by decide +kernel)) ggX12_count_X12_netNow
set_option maxRecDepth 20000 in
theorem ggX12_count_X5_weddings : GoodIn wsX12_count wsX5_weddings := goodIn_r _ [44, 30, 25, 31, 96, 97, 98, 61, 62, 63, 64, 65, 66, 67, 68, 69, 70, 71, 72] (by decide +kernel) (by decide +kernel)
set_option maxRecDepth 20000 in
theorem gX12_count_X5_weddings : GoodIn wsX12_count (wsV RX12 296 RX5 yX5_weddings wsX5_weddings) := goodIn_app (goodIn_of _ (by decide +kernel)) ggX12_count_X5_weddings
theorem dX12_count_0 : decode cX12_count 0 = .ok (.iload_n 1, 1) := by decide +kernel
theorem dX12_count_1 : decode cX12_count 1 = .ok (.tableswitch 129 0 9 #[55, 63, 71, 79, 87, 92, 100, 108, 116, 121], 55) := by decide +kernel
theorem dX12_count_56 : decode cX12_count 56 = .ok (.aload_n 0, 1) := by decide +kernel
theorem dX12_count_57 : decode cX12_count 57 = .ok (.getfield 19, 3) := by decide +kernel
theorem dX12_count_60 : decode cX12_count 60 = .ok (.getfield 151, 3) := by decide +kernel
theorem dX12_count_63 : decode cX12_count 63 = .ok (.ireturn, 1) := by decide +kernel
theorem dX12_count_64 : decode cX12_count 64 = .ok (.aload_n 0, 1) := by decide +kernel
theorem dX12_count_65 : decode cX12_count 65 = .ok (.getfield 19, 3) := by decide +kernel
theorem dX12_count_68 : decode cX12_count 68 = .ok (.getfield 423, 3) := by decide +kernel
theorem dX12_count_71 : decode cX12_count 71 = .ok (.ireturn, 1) := by decide +kernel
theorem dX12_count_72 : decode cX12_count 72 = .ok (.aload_n 0, 1) := by decide +kernel
theorem dX12_count_73 : decode cX12_count 73 = .ok (.getfield 38, 3) := by decide +kernel
theorem dX12_count_76 : decode cX12_count 76 = .ok (.getfield 167, 3) := by decide +kernel
theorem dX12_count_79 : decode cX12_count 79 = .ok (.ireturn, 1) := by decide +kernel
theorem dX12_count_80 : decode cX12_count 80 = .ok (.aload_n 0, 1) := by decide +kernel
theorem dX12_count_81 : decode cX12_count 81 = .ok (.invokevirtual 177, 3) := by decide +kernel
theorem dX12_count_84 : decode cX12_count 84 = .ok (.invokevirtual 296, 3) := by decide +kernel
theorem dX12_count_87 : decode cX12_count 87 = .ok (.ireturn, 1) := by decide +kernel
theorem dX12_count_88 : decode cX12_count 88 = .ok (.aload_n 0, 1) := by decide +kernel
theorem dX12_count_89 : decode cX12_count 89 = .ok (.getfield 86, 3) := by decide +kernel
theorem dX12_count_92 : decode cX12_count 92 = .ok (.ireturn, 1) := by decide +kernel
theorem dX12_count_93 : decode cX12_count 93 = .ok (.aload_n 0, 1) := by decide +kernel
theorem dX12_count_94 : decode cX12_count 94 = .ok (.getfield 38, 3) := by decide +kernel
theorem dX12_count_97 : decode cX12_count 97 = .ok (.getfield 146, 3) := by decide +kernel
theorem dX12_count_100 : decode cX12_count 100 = .ok (.ireturn, 1) := by decide +kernel
theorem dX12_count_101 : decode cX12_count 101 = .ok (.aload_n 0, 1) := by decide +kernel
theorem dX12_count_102 : decode cX12_count 102 = .ok (.getfield 38, 3) := by decide +kernel
theorem dX12_count_105 : decode cX12_count 105 = .ok (.getfield 373, 3) := by decide +kernel
theorem dX12_count_108 : decode cX12_count 108 = .ok (.ireturn, 1) := by decide +kernel
theorem dX12_count_109 : decode cX12_count 109 = .ok (.aload_n 0, 1) := by decide +kernel
theorem dX12_count_110 : decode cX12_count 110 = .ok (.getfield 19, 3) := by decide +kernel
theorem dX12_count_113 : decode cX12_count 113 = .ok (.getfield 426, 3) := by decide +kernel
theorem dX12_count_116 : decode cX12_count 116 = .ok (.ireturn, 1) := by decide +kernel
theorem dX12_count_117 : decode cX12_count 117 = .ok (.aload_n 0, 1) := by decide +kernel
theorem dX12_count_118 : decode cX12_count 118 = .ok (.getfield 93, 3) := by decide +kernel
theorem dX12_count_121 : decode cX12_count 121 = .ok (.ireturn, 1) := by decide +kernel
theorem dX12_count_122 : decode cX12_count 122 = .ok (.aload_n 0, 1) := by decide +kernel
theorem dX12_count_123 : decode cX12_count 123 = .ok (.getfield 10, 3) := by decide +kernel
theorem dX12_count_126 : decode cX12_count 126 = .ok (.getfield 100, 3) := by decide +kernel
theorem dX12_count_129 : decode cX12_count 129 = .ok (.ireturn, 1) := by decide +kernel
theorem dX12_count_130 : decode cX12_count 130 = .ok (.iconst (-1), 1) := by decide +kernel
theorem dX12_count_131 : decode cX12_count 131 = .ok (.ireturn, 1) := by decide +kernel
theorem dJ6_bitCount_0f7a4_0 : decode cJ6_bitCount_0f7a4 0 = .ok (.iload_n 0, 1) := by decide +kernel
theorem dJ6_bitCount_0f7a4_1 : decode cJ6_bitCount_0f7a4 1 = .ok (.iload_n 0, 1) := by decide +kernel
theorem dJ6_bitCount_0f7a4_2 : decode cJ6_bitCount_0f7a4 2 = .ok (.iconst 1, 1) := by decide +kernel
theorem dJ6_bitCount_0f7a4_3 : decode cJ6_bitCount_0f7a4 3 = .ok (.iushr, 1) := by decide +kernel
theorem dJ6_bitCount_0f7a4_4 : decode cJ6_bitCount_0f7a4 4 = .ok (.ldc_w 265, 3) := by decide +kernel
theorem dJ6_bitCount_0f7a4_7 : decode cJ6_bitCount_0f7a4 7 = .ok (.iand, 1) := by decide +kernel
theorem dJ6_bitCount_0f7a4_8 : decode cJ6_bitCount_0f7a4 8 = .ok (.isub, 1) := by decide +kernel
theorem dJ6_bitCount_0f7a4_9 : decode cJ6_bitCount_0f7a4 9 = .ok (.istore_n 0, 1) := by decide +kernel
theorem dJ6_bitCount_0f7a4_10 : decode cJ6_bitCount_0f7a4 10 = .ok (.iload_n 0, 1) := by decide +kernel
theorem dJ6_bitCount_0f7a4_11 : decode cJ6_bitCount_0f7a4 11 = .ok (.ldc_w 266, 3) := by decide +kernel
theorem dJ6_bitCount_0f7a4_14 : decode cJ6_bitCount_0f7a4 14 = .ok (.iand, 1) := by decide +kernel
theorem dJ6_bitCount_0f7a4_15 : decode cJ6_bitCount_0f7a4 15 = .ok (.iload_n 0, 1) := by decide +kernel
theorem dJ6_bitCount_0f7a4_16 : decode cJ6_bitCount_0f7a4 16 = .ok (.iconst 2, 1) := by decide +kernel
theorem dJ6_bitCount_0f7a4_17 : decode cJ6_bitCount_0f7a4 17 = .ok (.iushr, 1) := by decide +kernel
theorem dJ6_bitCount_0f7a4_18 : decode cJ6_bitCount_0f7a4 18 = .ok (.ldc_w 266, 3) := by decide +kernel
theorem dJ6_bitCount_0f7a4_21 : decode cJ6_bitCount_0f7a4 21 = .ok (.iand, 1) := by decide +kernel
theorem dJ6_bitCount_0f7a4_22 : decode cJ6_bitCount_0f7a4 22 = .ok (.iadd, 1) := by decide +kernel
theorem dJ6_bitCount_0f7a4_23 : decode cJ6_bitCount_0f7a4 23 = .ok (.istore_n 0, 1) := by decide +kernel
theorem dJ6_bitCount_0f7a4_24 : decode cJ6_bitCount_0f7a4 24 = .ok (.iload_n 0, 1) := by decide +kernel
theorem dJ6_bitCount_0f7a4_25 : decode cJ6_bitCount_0f7a4 25 = .ok (.iload_n 0, 1) := by decide +kernel
theorem dJ6_bitCount_0f7a4_26 : decode cJ6_bitCount_0f7a4 26 = .ok (.iconst 4, 1) := by decide +kernel
theorem dJ6_bitCount_0f7a4_27 : decode cJ6_bitCount_0f7a4 27 = .ok (.iushr, 1) := by decide +kernel
theorem dJ6_bitCount_0f7a4_28 : decode cJ6_bitCount_0f7a4 28 = .ok (.iadd, 1) := by decide +kernel
theorem dJ6_bitCount_0f7a4_29 : decode cJ6_bitCount_0f7a4 29 = .ok (.ldc_w 267, 3) := by decide +kernel
theorem dJ6_bitCount_0f7a4_32 : decode cJ6_bitCount_0f7a4 32 = .ok (.iand, 1) := by decide +kernel
theorem dJ6_bitCount_0f7a4_33 : decode cJ6_bitCount_0f7a4 33 = .ok (.istore_n 0, 1) := by decide +kernel
theorem dJ6_bitCount_0f7a4_34 : decode cJ6_bitCount_0f7a4 34 = .ok (.iload_n 0, 1) := by decide +kernel
theorem dJ6_bitCount_0f7a4_35 : decode cJ6_bitCount_0f7a4 35 = .ok (.iload_n 0, 1) := by decide +kernel
theorem dJ6_bitCount_0f7a4_36 : decode cJ6_bitCount_0f7a4 36 = .ok (.bipush 8, 2) := by decide +kernel
theorem dJ6_bitCount_0f7a4_38 : decode cJ6_bitCount_0f7a4 38 = .ok (.iushr, 1) := by decide +kernel
theorem dJ6_bitCount_0f7a4_39 : decode cJ6_bitCount_0f7a4 39 = .ok (.iadd, 1) := by decide +kernel
theorem dJ6_bitCount_0f7a4_40 : decode cJ6_bitCount_0f7a4 40 = .ok (.istore_n 0, 1) := by decide +kernel
theorem dJ6_bitCount_0f7a4_41 : decode cJ6_bitCount_0f7a4 41 = .ok (.iload_n 0, 1) := by decide +kernel
theorem dJ6_bitCount_0f7a4_42 : decode cJ6_bitCount_0f7a4 42 = .ok (.iload_n 0, 1) := by decide +kernel
theorem dJ6_bitCount_0f7a4_43 : decode cJ6_bitCount_0f7a4 43 = .ok (.bipush 16, 2) := by decide +kernel
theorem dJ6_bitCount_0f7a4_45 : decode cJ6_bitCount_0f7a4 45 = .ok (.iushr, 1) := by decide +kernel
theorem dJ6_bitCount_0f7a4_46 : decode cJ6_bitCount_0f7a4 46 = .ok (.iadd, 1) := by decide +kernel
theorem dJ6_bitCount_0f7a4_47 : decode cJ6_bitCount_0f7a4 47 = .ok (.istore_n 0, 1) := by decide +kernel
theorem dJ6_bitCount_0f7a4_48 : decode cJ6_bitCount_0f7a4 48 = .ok (.iload_n 0, 1) := by decide +kernel
theorem dJ6_bitCount_0f7a4_49 : decode cJ6_bitCount_0f7a4 49 = .ok (.bipush 63, 2) := by decide +kernel
theorem dJ6_bitCount_0f7a4_51 : decode cJ6_bitCount_0f7a4 51 = .ok (.iand, 1) := by decide +kernel
theorem dJ6_bitCount_0f7a4_52 : decode cJ6_bitCount_0f7a4 52 = .ok (.ireturn, 1) := by decide +kernel
theorem dJ9_max_7cf53_0 : decode cJ9_max_7cf53 0 = .ok (.iload_n 0, 1) := by decide +kernel
theorem dJ9_max_7cf53_1 : decode cJ9_max_7cf53 1 = .ok (.iload_n 1, 1) := by decide +kernel
theorem dJ9_max_7cf53_2 : decode cJ9_max_7cf53 2 = .ok (.if_icmp .lt 7, 3) := by decide +kernel
theorem dJ9_max_7cf53_5 : decode cJ9_max_7cf53 5 = .ok (.iload_n 0, 1) := by decide +kernel
theorem dJ9_max_7cf53_6 : decode cJ9_max_7cf53 6 = .ok (.goto 4, 3) := by decide +kernel
theorem dJ9_max_7cf53_9 : decode cJ9_max_7cf53 9 = .ok (.iload_n 1, 1) := by decide +kernel
theorem dJ9_max_7cf53_10 : decode cJ9_max_7cf53 10 = .ok (.ireturn, 1) := by decide +kernel
theorem dJ9_min_7cf53_0 : decode cJ9_min_7cf53 0 = .ok (.iload_n 0, 1) := by decide +kernel
theorem dJ9_min_7cf53_1 : decode cJ9_min_7cf53 1 = .ok (.iload_n 1, 1) := by decide +kernel
theorem dJ9_min_7cf53_2 : decode cJ9_min_7cf53 2 = .ok (.if_icmp .gt 7, 3) := by decide +kernel
theorem dJ9_min_7cf53_5 : decode cJ9_min_7cf53 5 = .ok (.iload_n 0, 1) := by decide +kernel
theorem dJ9_min_7cf53_6 : decode cJ9_min_7cf53 6 = .ok (.goto 4, 3) := by decide +kernel
theorem dJ9_min_7cf53_9 : decode cJ9_min_7cf53 9 = .ok (.iload_n 1, 1) := by decide +kernel
theorem dJ9_min_7cf53_10 : decode cJ9_min_7cf53 10 = .ok (.ireturn, 1) := by decide +kernel
