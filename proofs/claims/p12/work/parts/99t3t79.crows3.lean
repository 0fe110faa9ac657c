theorem dX12_vows_11 : decode cX12_vows 11 = .ok (.istore_n 1, 1) := by decide +kernel
theorem dX12_vows_12 : decode cX12_vows 12 = .ok (.aload_n 0, 1) := by decide +kernel
theorem dX12_vows_13 : decode cX12_vows 13 = .ok (.getfield 10, 3) := by decide +kernel
theorem dX12_vows_16 : decode cX12_vows 16 = .ok (.invokevirtual 111, 3) := by decide +kernel
theorem dX12_vows_19 : decode cX12_vows 19 = .ok (.iload_n 1, 1) := by decide +kernel
theorem dX12_vows_20 : decode cX12_vows 20 = .ok (.ifCond .ne 32, 3) := by decide +kernel
theorem dX12_vows_23 : decode cX12_vows 23 = .ok (.aload_n 0, 1) := by decide +kernel
theorem dX12_vows_24 : decode cX12_vows 24 = .ok (.aload_n 0, 1) := by decide +kernel
theorem dX12_vows_25 : decode cX12_vows 25 = .ok (.getfield 31, 3) := by decide +kernel
theorem dX12_vows_28 : decode cX12_vows 28 = .ok (.getfield 131, 3) := by decide +kernel
theorem dX12_vows_31 : decode cX12_vows 31 = .ok (.putfield 86, 3) := by decide +kernel
theorem dX12_vows_34 : decode cX12_vows 34 = .ok (.aload_n 0, 1) := by decide +kernel
theorem dX12_vows_35 : decode cX12_vows 35 = .ok (.getfield 31, 3) := by decide +kernel
theorem dX12_vows_38 : decode cX12_vows 38 = .ok (.getfield 132, 3) := by decide +kernel
theorem dX12_vows_41 : decode cX12_vows 41 = .ok (.iconst 0, 1) := by decide +kernel
theorem dX12_vows_42 : decode cX12_vows 42 = .ok (.aload_n 0, 1) := by decide +kernel
theorem dX12_vows_43 : decode cX12_vows 43 = .ok (.getfield 49, 3) := by decide +kernel
theorem dX12_vows_46 : decode cX12_vows 46 = .ok (.iconst 0, 1) := by decide +kernel
theorem dX12_vows_47 : decode cX12_vows 47 = .ok (.bipush 24, 2) := by decide +kernel
theorem dX12_vows_49 : decode cX12_vows 49 = .ok (.invokestatic 133, 3) := by decide +kernel
theorem dX12_vows_52 : decode cX12_vows 52 = .ok (.iload_n 1, 1) := by decide +kernel
theorem dX12_vows_53 : decode cX12_vows 53 = .ok (.ireturn, 1) := by decide +kernel
theorem dX12_will_0 : decode cX12_will 0 = .ok (.aload_n 0, 1) := by decide +kernel
theorem dX12_will_1 : decode cX12_will 1 = .ok (.getfield 31, 3) := by decide +kernel
theorem dX12_will_4 : decode cX12_will 4 = .ok (.invokevirtual 139, 3) := by decide +kernel
theorem dX12_will_7 : decode cX12_will 7 = .ok (.istore_n 1, 1) := by decide +kernel
theorem dX12_will_8 : decode cX12_will 8 = .ok (.aload_n 0, 1) := by decide +kernel
theorem dX12_will_9 : decode cX12_will 9 = .ok (.getfield 10, 3) := by decide +kernel
theorem dX12_will_12 : decode cX12_will 12 = .ok (.invokevirtual 111, 3) := by decide +kernel
theorem dX12_will_15 : decode cX12_will 15 = .ok (.iload_n 1, 1) := by decide +kernel
theorem dX12_will_16 : decode cX12_will 16 = .ok (.ifCond .ne 38, 3) := by decide +kernel
theorem dX12_will_19 : decode cX12_will 19 = .ok (.aload_n 0, 1) := by decide +kernel
theorem dX12_will_20 : decode cX12_will 20 = .ok (.getfield 38, 3) := by decide +kernel
theorem dX12_will_23 : decode cX12_will 23 = .ok (.aload_n 0, 1) := by decide +kernel
theorem dX12_will_24 : decode cX12_will 24 = .ok (.getfield 31, 3) := by decide +kernel
theorem dX12_will_27 : decode cX12_will 27 = .ok (.getfield 143, 3) := by decide +kernel
theorem dX12_will_30 : decode cX12_will 30 = .ok (.putfield 146, 3) := by decide +kernel
theorem dX12_will_33 : decode cX12_will 33 = .ok (.aload_n 0, 1) := by decide +kernel
theorem dX12_will_34 : decode cX12_will 34 = .ok (.getfield 31, 3) := by decide +kernel
theorem dX12_will_37 : decode cX12_will 37 = .ok (.getfield 147, 3) := by decide +kernel
theorem dX12_will_40 : decode cX12_will 40 = .ok (.iconst 0, 1) := by decide +kernel
theorem dX12_will_41 : decode cX12_will 41 = .ok (.aload_n 0, 1) := by decide +kernel
theorem dX12_will_42 : decode cX12_will 42 = .ok (.getfield 38, 3) := by decide +kernel
theorem dX12_will_45 : decode cX12_will 45 = .ok (.getfield 150, 3) := by decide +kernel
theorem dX12_will_48 : decode cX12_will 48 = .ok (.iconst 0, 1) := by decide +kernel
theorem dX12_will_49 : decode cX12_will 49 = .ok (.bipush 6, 2) := by decide +kernel
theorem dX12_will_51 : decode cX12_will 51 = .ok (.invokestatic 133, 3) := by decide +kernel
theorem dX12_will_54 : decode cX12_will 54 = .ok (.iload_n 1, 1) := by decide +kernel
theorem dX12_will_55 : decode cX12_will 55 = .ok (.ireturn, 1) := by decide +kernel
theorem dX12_isRiver_0 : decode cX12_isRiver 0 = .ok (.iload_n 1, 1) := by decide +kernel
theorem dX12_isRiver_1 : decode cX12_isRiver 1 = .ok (.ifCond .lt 18, 3) := by decide +kernel
theorem dX12_isRiver_4 : decode cX12_isRiver 4 = .ok (.iload_n 1, 1) := by decide +kernel
theorem dX12_isRiver_5 : decode cX12_isRiver 5 = .ok (.aload_n 0, 1) := by decide +kernel
theorem dX12_isRiver_6 : decode cX12_isRiver 6 = .ok (.getfield 19, 3) := by decide +kernel
theorem dX12_isRiver_9 : decode cX12_isRiver 9 = .ok (.getfield 151, 3) := by decide +kernel
theorem dX12_isRiver_12 : decode cX12_isRiver 12 = .ok (.if_icmp .ge 7, 3) := by decide +kernel
theorem dX12_isRiver_15 : decode cX12_isRiver 15 = .ok (.iconst 1, 1) := by decide +kernel
theorem dX12_isRiver_16 : decode cX12_isRiver 16 = .ok (.goto 4, 3) := by decide +kernel
theorem dX12_isRiver_19 : decode cX12_isRiver 19 = .ok (.iconst 0, 1) := by decide +kernel
theorem dX12_isRiver_20 : decode cX12_isRiver 20 = .ok (.ireturn, 1) := by decide +kernel
theorem dX12_isSeason_0 : decode cX12_isSeason 0 = .ok (.iload_n 0, 1) := by decide +kernel
theorem dX12_isSeason_1 : decode cX12_isSeason 1 = .ok (.ifCond .lt 12, 3) := by decide +kernel
theorem dX12_isSeason_4 : decode cX12_isSeason 4 = .ok (.iload_n 0, 1) := by decide +kernel
theorem dX12_isSeason_5 : decode cX12_isSeason 5 = .ok (.iconst 4, 1) := by decide +kernel
theorem dX12_isSeason_6 : decode cX12_isSeason 6 = .ok (.if_icmp .ge 7, 3) := by decide +kernel
theorem dX12_isSeason_9 : decode cX12_isSeason 9 = .ok (.iconst 1, 1) := by decide +kernel
theorem dX12_isSeason_10 : decode cX12_isSeason 10 = .ok (.goto 4, 3) := by decide +kernel
theorem dX12_isSeason_13 : decode cX12_isSeason 13 = .ok (.iconst 0, 1) := by decide +kernel
theorem dX12_isSeason_14 : decode cX12_isSeason 14 = .ok (.ireturn, 1) := by decide +kernel
theorem dX12_areTwo_0 : decode cX12_areTwo 0 = .ok (.aload_n 0, 1) := by decide +kernel
theorem dX12_areTwo_1 : decode cX12_areTwo 1 = .ok (.iload_n 1, 1) := by decide +kernel
theorem dX12_areTwo_2 : decode cX12_areTwo 2 = .ok (.invokevirtual 154, 3) := by decide +kernel
theorem dX12_areTwo_5 : decode cX12_areTwo 5 = .ok (.ifCond .eq 20, 3) := by decide +kernel
theorem dX12_areTwo_8 : decode cX12_areTwo 8 = .ok (.aload_n 0, 1) := by decide +kernel
theorem dX12_areTwo_9 : decode cX12_areTwo 9 = .ok (.iload_n 2, 1) := by decide +kernel
theorem dX12_areTwo_10 : decode cX12_areTwo 10 = .ok (.invokevirtual 154, 3) := by decide +kernel
theorem dX12_areTwo_13 : decode cX12_areTwo 13 = .ok (.ifCond .eq 12, 3) := by decide +kernel
theorem dX12_areTwo_16 : decode cX12_areTwo 16 = .ok (.iload_n 1, 1) := by decide +kernel
theorem dX12_areTwo_17 : decode cX12_areTwo 17 = .ok (.iload_n 2, 1) := by decide +kernel
theorem dX12_areTwo_18 : decode cX12_areTwo 18 = .ok (.if_icmp .eq 7, 3) := by decide +kernel
theorem dX12_areTwo_21 : decode cX12_areTwo 21 = .ok (.iconst 1, 1) := by decide +kernel
theorem dX12_areTwo_22 : decode cX12_areTwo 22 = .ok (.goto 4, 3) := by decide +kernel
theorem dX12_areTwo_25 : decode cX12_areTwo 25 = .ok (.iconst 0, 1) := by decide +kernel
theorem dX12_areTwo_26 : decode cX12_areTwo 26 = .ok (.ireturn, 1) := by decide +kernel
theorem dX12_hasTown_0 : decode cX12_hasTown 0 = .ok (.aload_n 0, 1) := by decide +kernel
theorem dX12_hasTown_1 : decode cX12_hasTown 1 = .ok (.iload_n 1, 1) := by decide +kernel
theorem dX12_hasTown_2 : decode cX12_hasTown 2 = .ok (.invokevirtual 154, 3) := by decide +kernel
theorem dX12_hasTown_5 : decode cX12_hasTown 5 = .ok (.ifCond .eq 23, 3) := by decide +kernel
theorem dX12_hasTown_8 : decode cX12_hasTown 8 = .ok (.aload_n 0, 1) := by decide +kernel
theorem dX12_hasTown_9 : decode cX12_hasTown 9 = .ok (.getfield 19, 3) := by decide +kernel
theorem dX12_hasTown_12 : decode cX12_hasTown 12 = .ok (.getfield 158, 3) := by decide +kernel
theorem dX12_hasTown_15 : decode cX12_hasTown 15 = .ok (.iload_n 1, 1) := by decide +kernel
theorem dX12_hasTown_16 : decode cX12_hasTown 16 = .ok (.aaload, 1) := by decide +kernel
theorem dX12_hasTown_17 : decode cX12_hasTown 17 = .ok (.getfield 162, 3) := by decide +kernel
theorem dX12_hasTown_20 : decode cX12_hasTown 20 = .ok (.iconst (-1), 1) := by decide +kernel
theorem dX12_hasTown_21 : decode cX12_hasTown 21 = .ok (.if_icmp .eq 7, 3) := by decide +kernel
theorem dX12_hasTown_24 : decode cX12_hasTown 24 = .ok (.iconst 1, 1) := by decide +kernel
theorem dX12_hasTown_25 : decode cX12_hasTown 25 = .ok (.goto 4, 3) := by decide +kernel
theorem dX12_hasTown_28 : decode cX12_hasTown 28 = .ok (.iconst 0, 1) := by decide +kernel
theorem dX12_hasTown_29 : decode cX12_hasTown 29 = .ok (.ireturn, 1) := by decide +kernel
theorem dX12_season_0 : decode cX12_season 0 = .ok (.aload_n 0, 1) := by decide +kernel
theorem dX12_season_1 : decode cX12_season 1 = .ok (.getfield 38, 3) := by decide +kernel
theorem dX12_season_4 : decode cX12_season 4 = .ok (.getfield 167, 3) := by decide +kernel
theorem dX12_season_7 : decode cX12_season 7 = .ok (.iconst 4, 1) := by decide +kernel
theorem dX12_season_8 : decode cX12_season 8 = .ok (.irem, 1) := by decide +kernel
theorem dX12_season_9 : decode cX12_season 9 = .ok (.ireturn, 1) := by decide +kernel
theorem dX12_netNow_0 : decode cX12_netNow 0 = .ok (.aload_n 0, 1) := by decide +kernel
theorem dX12_netNow_1 : decode cX12_netNow 1 = .ok (.getfield 58, 3) := by decide +kernel
theorem dX12_netNow_4 : decode cX12_netNow 4 = .ok (.aload_n 0, 1) := by decide +kernel
theorem dX12_netNow_5 : decode cX12_netNow 5 = .ok (.getfield 19, 3) := by decide +kernel
theorem dX12_netNow_8 : decode cX12_netNow 8 = .ok (.aload_n 0, 1) := by decide +kernel
theorem dX12_netNow_9 : decode cX12_netNow 9 = .ok (.getfield 38, 3) := by decide +kernel
theorem dX12_netNow_12 : decode cX12_netNow 12 = .ok (.getfield 170, 3) := by decide +kernel
theorem dX12_netNow_15 : decode cX12_netNow 15 = .ok (.invokevirtual 173, 3) := by decide +kernel
theorem dX12_netNow_18 : decode cX12_netNow 18 = .ok (.aload_n 0, 1) := by decide +kernel
theorem dX12_netNow_19 : decode cX12_netNow 19 = .ok (.getfield 58, 3) := by decide +kernel
theorem dX12_netNow_22 : decode cX12_netNow 22 = .ok (.areturn, 1) := by decide +kernel
theorem dX12_mouthFlow_0 : decode cX12_mouthFlow 0 = .ok (.aload_n 0, 1) := by decide +kernel
theorem dX12_mouthFlow_1 : decode cX12_mouthFlow 1 = .ok (.getfield 19, 3) := by decide +kernel
theorem dX12_mouthFlow_4 : decode cX12_mouthFlow 4 = .ok (.aload_n 0, 1) := by decide +kernel
theorem dX12_mouthFlow_5 : decode cX12_mouthFlow 5 = .ok (.invokevirtual 177, 3) := by decide +kernel
theorem dX12_mouthFlow_8 : decode cX12_mouthFlow 8 = .ok (.getfield 181, 3) := by decide +kernel
theorem dX12_mouthFlow_11 : decode cX12_mouthFlow 11 = .ok (.iload_n 1, 1) := by decide +kernel
theorem dX12_mouthFlow_12 : decode cX12_mouthFlow 12 = .ok (.iaload, 1) := by decide +kernel
theorem dX12_mouthFlow_13 : decode cX12_mouthFlow 13 = .ok (.iload_n 2, 1) := by decide +kernel
theorem dX12_mouthFlow_14 : decode cX12_mouthFlow 14 = .ok (.invokevirtual 184, 3) := by decide +kernel
theorem dX12_mouthFlow_17 : decode cX12_mouthFlow 17 = .ok (.ireturn, 1) := by decide +kernel
theorem dX12_townWaters_0 : decode cX12_townWaters 0 = .ok (.aload_n 0, 1) := by decide +kernel
theorem dX12_townWaters_1 : decode cX12_townWaters 1 = .ok (.invokevirtual 177, 3) := by decide +kernel
theorem dX12_townWaters_4 : decode cX12_townWaters 4 = .ok (.iload_n 1, 1) := by decide +kernel
theorem dX12_townWaters_5 : decode cX12_townWaters 5 = .ok (.aload_n 0, 1) := by decide +kernel
theorem dX12_townWaters_6 : decode cX12_townWaters 6 = .ok (.getfield 19, 3) := by decide +kernel
theorem dX12_townWaters_9 : decode cX12_townWaters 9 = .ok (.getfield 158, 3) := by decide +kernel
theorem dX12_townWaters_12 : decode cX12_townWaters 12 = .ok (.iload_n 1, 1) := by decide +kernel
theorem dX12_townWaters_13 : decode cX12_townWaters 13 = .ok (.aaload, 1) := by decide +kernel
theorem dX12_townWaters_14 : decode cX12_townWaters 14 = .ok (.getfield 162, 3) := by decide +kernel
theorem dX12_townWaters_17 : decode cX12_townWaters 17 = .ok (.invokevirtual 188, 3) := by decide +kernel
theorem dX12_townWaters_20 : decode cX12_townWaters 20 = .ok (.ireturn, 1) := by decide +kernel
theorem dX12_river_0 : decode cX12_river 0 = .ok (.aload_n 0, 1) := by decide +kernel
theorem dX12_river_1 : decode cX12_river 1 = .ok (.iload_n 1, 1) := by decide +kernel
theorem dX12_river_2 : decode cX12_river 2 = .ok (.invokevirtual 154, 3) := by decide +kernel
theorem dX12_river_5 : decode cX12_river 5 = .ok (.ifCond .eq 13, 3) := by decide +kernel
theorem dX12_river_8 : decode cX12_river 8 = .ok (.iload_n 2, 1) := by decide +kernel
theorem dX12_river_9 : decode cX12_river 9 = .ok (.ifCond .lt 9, 3) := by decide +kernel
theorem dX12_river_12 : decode cX12_river 12 = .ok (.iload_n 2, 1) := by decide +kernel
theorem dX12_river_13 : decode cX12_river 13 = .ok (.bipush 8, 2) := by decide +kernel
theorem dX12_river_15 : decode cX12_river 15 = .ok (.if_icmp .le 13, 3) := by decide +kernel
theorem dX12_river_21 : decode cX12_river 21 = .ok (.dup, 1) := by decide +kernel
theorem dX12_river_28 : decode cX12_river 28 = .ok (.aload_n 0, 1) := by decide +kernel
theorem dX12_river_29 : decode cX12_river 29 = .ok (.getfield 19, 3) := by decide +kernel
theorem dX12_river_32 : decode cX12_river 32 = .ok (.getfield 158, 3) := by decide +kernel
theorem dX12_river_35 : decode cX12_river 35 = .ok (.iload_n 1, 1) := by decide +kernel
theorem dX12_river_36 : decode cX12_river 36 = .ok (.aaload, 1) := by decide +kernel
theorem dX12_river_37 : decode cX12_river 37 = .ok (.astore_n 3, 1) := by decide +kernel
theorem dX12_river_38 : decode cX12_river 38 = .ok (.iload_n 2, 1) := by decide +kernel
theorem dX12_river_39 : decode cX12_river 39 = .ok (.tableswitch 99 0 7 #[45, 50, 55, 60, 65, 70, 80, 89], 45) := by decide +kernel
theorem dX12_river_84 : decode cX12_river 84 = .ok (.aload_n 3, 1) := by decide +kernel
theorem dX12_river_85 : decode cX12_river 85 = .ok (.getfield 198, 3) := by decide +kernel
theorem dX12_river_88 : decode cX12_river 88 = .ok (.ireturn, 1) := by decide +kernel
theorem dX12_river_89 : decode cX12_river 89 = .ok (.aload_n 3, 1) := by decide +kernel
theorem dX12_river_90 : decode cX12_river 90 = .ok (.getfield 201, 3) := by decide +kernel
theorem dX12_river_93 : decode cX12_river 93 = .ok (.ireturn, 1) := by decide +kernel
theorem dX12_river_94 : decode cX12_river 94 = .ok (.aload_n 3, 1) := by decide +kernel
theorem dX12_river_95 : decode cX12_river 95 = .ok (.getfield 204, 3) := by decide +kernel
theorem dX12_river_98 : decode cX12_river 98 = .ok (.ireturn, 1) := by decide +kernel
theorem dX12_river_99 : decode cX12_river 99 = .ok (.aload_n 3, 1) := by decide +kernel
theorem dX12_river_100 : decode cX12_river 100 = .ok (.getfield 207, 3) := by decide +kernel
theorem dX12_river_103 : decode cX12_river 103 = .ok (.ireturn, 1) := by decide +kernel
theorem dX12_river_104 : decode cX12_river 104 = .ok (.aload_n 3, 1) := by decide +kernel
theorem dX12_river_105 : decode cX12_river 105 = .ok (.getfield 210, 3) := by decide +kernel
theorem dX12_river_108 : decode cX12_river 108 = .ok (.ireturn, 1) := by decide +kernel
theorem dX12_river_109 : decode cX12_river 109 = .ok (.aload_n 0, 1) := by decide +kernel
theorem dX12_river_110 : decode cX12_river 110 = .ok (.getfield 38, 3) := by decide +kernel
theorem dX12_river_113 : decode cX12_river 113 = .ok (.getfield 170, 3) := by decide +kernel
theorem dX12_river_116 : decode cX12_river 116 = .ok (.iload_n 1, 1) := by decide +kernel
theorem dX12_river_117 : decode cX12_river 117 = .ok (.iaload, 1) := by decide +kernel
theorem dX12_river_118 : decode cX12_river 118 = .ok (.ireturn, 1) := by decide +kernel
theorem dX12_river_119 : decode cX12_river 119 = .ok (.aload_n 0, 1) := by decide +kernel
theorem dX12_river_120 : decode cX12_river 120 = .ok (.invokevirtual 177, 3) := by decide +kernel
theorem dX12_river_123 : decode cX12_river 123 = .ok (.iload_n 1, 1) := by decide +kernel
theorem dX12_river_124 : decode cX12_river 124 = .ok (.invokevirtual 213, 3) := by decide +kernel
theorem dX12_river_127 : decode cX12_river 127 = .ok (.ireturn, 1) := by decide +kernel
theorem dX12_river_128 : decode cX12_river 128 = .ok (.aload_n 0, 1) := by decide +kernel
theorem dX12_river_129 : decode cX12_river 129 = .ok (.getfield 38, 3) := by decide +kernel
theorem dX12_river_132 : decode cX12_river 132 = .ok (.getfield 217, 3) := by decide +kernel
theorem dX12_river_135 : decode cX12_river 135 = .ok (.iload_n 1, 1) := by decide +kernel
theorem dX12_river_136 : decode cX12_river 136 = .ok (.iaload, 1) := by decide +kernel
theorem dX12_river_137 : decode cX12_river 137 = .ok (.ireturn, 1) := by decide +kernel
theorem dX12_river_138 : decode cX12_river 138 = .ok (.aload_n 0, 1) := by decide +kernel
theorem dX12_river_139 : decode cX12_river 139 = .ok (.getfield 38, 3) := by decide +kernel
theorem dX12_river_142 : decode cX12_river 142 = .ok (.getfield 220, 3) := by decide +kernel
theorem dX12_river_145 : decode cX12_river 145 = .ok (.iload_n 1, 1) := by decide +kernel
theorem dX12_river_146 : decode cX12_river 146 = .ok (.iaload, 1) := by decide +kernel
theorem dX12_river_147 : decode cX12_river 147 = .ok (.ireturn, 1) := by decide +kernel
theorem dX12_flow_0 : decode cX12_flow 0 = .ok (.aload_n 0, 1) := by decide +kernel
theorem dX12_flow_1 : decode cX12_flow 1 = .ok (.iload_n 1, 1) := by decide +kernel
theorem dX12_flow_2 : decode cX12_flow 2 = .ok (.invokevirtual 154, 3) := by decide +kernel
theorem dX12_flow_5 : decode cX12_flow 5 = .ok (.ifCond .eq 10, 3) := by decide +kernel
theorem dX12_flow_8 : decode cX12_flow 8 = .ok (.iload_n 3, 1) := by decide +kernel
theorem dX12_flow_9 : decode cX12_flow 9 = .ok (.invokestatic 223, 3) := by decide +kernel
theorem dX12_flow_12 : decode cX12_flow 12 = .ok (.ifCond .ne 5, 3) := by decide +kernel
theorem dX12_flow_15 : decode cX12_flow 15 = .ok (.iconst (-1), 1) := by decide +kernel
theorem dX12_flow_16 : decode cX12_flow 16 = .ok (.ireturn, 1) := by decide +kernel
theorem dX12_flow_17 : decode cX12_flow 17 = .ok (.aload_n 0, 1) := by decide +kernel
theorem dX12_flow_18 : decode cX12_flow 18 = .ok (.getfield 19, 3) := by decide +kernel
theorem dX12_flow_21 : decode cX12_flow 21 = .ok (.getfield 158, 3) := by decide +kernel
theorem dX12_flow_24 : decode cX12_flow 24 = .ok (.iload_n 1, 1) := by decide +kernel
theorem dX12_flow_25 : decode cX12_flow 25 = .ok (.aaload, 1) := by decide +kernel
theorem dX12_flow_26 : decode cX12_flow 26 = .ok (.astore 4, 2) := by decide +kernel
theorem dX12_flow_28 : decode cX12_flow 28 = .ok (.iload_n 2, 1) := by decide +kernel
theorem dX12_flow_29 : decode cX12_flow 29 = .ok (.aload 4, 2) := by decide +kernel
theorem dX12_flow_31 : decode cX12_flow 31 = .ok (.getfield 201, 3) := by decide +kernel
theorem dX12_flow_34 : decode cX12_flow 34 = .ok (.if_icmp .gt 12, 3) := by decide +kernel
theorem dX12_flow_37 : decode cX12_flow 37 = .ok (.iload_n 2, 1) := by decide +kernel
theorem dX12_flow_38 : decode cX12_flow 38 = .ok (.aload 4, 2) := by decide +kernel
theorem dX12_flow_40 : decode cX12_flow 40 = .ok (.getfield 204, 3) := by decide +kernel
theorem dX12_flow_43 : decode cX12_flow 43 = .ok (.if_icmp .ge 5, 3) := by decide +kernel
theorem dX12_flow_46 : decode cX12_flow 46 = .ok (.iconst (-1), 1) := by decide +kernel
theorem dX12_flow_47 : decode cX12_flow 47 = .ok (.ireturn, 1) := by decide +kernel
theorem dX12_flow_48 : decode cX12_flow 48 = .ok (.aload_n 0, 1) := by decide +kernel
theorem dX12_flow_49 : decode cX12_flow 49 = .ok (.getfield 19, 3) := by decide +kernel
theorem dX12_flow_52 : decode cX12_flow 52 = .ok (.aload_n 0, 1) := by decide +kernel
theorem dX12_flow_53 : decode cX12_flow 53 = .ok (.invokevirtual 177, 3) := by decide +kernel
theorem dX12_flow_56 : decode cX12_flow 56 = .ok (.iload_n 1, 1) := by decide +kernel
theorem dX12_flow_57 : decode cX12_flow 57 = .ok (.iload_n 2, 1) := by decide +kernel
theorem dX12_flow_58 : decode cX12_flow 58 = .ok (.invokevirtual 188, 3) := by decide +kernel
theorem dX12_flow_61 : decode cX12_flow 61 = .ok (.iload_n 3, 1) := by decide +kernel
theorem dX12_flow_62 : decode cX12_flow 62 = .ok (.invokevirtual 184, 3) := by decide +kernel
theorem dX12_flow_65 : decode cX12_flow 65 = .ok (.ireturn, 1) := by decide +kernel
theorem dX12_needs_0 : decode cX12_needs 0 = .ok (.iload_n 1, 1) := by decide +kernel
theorem dX12_needs_1 : decode cX12_needs 1 = .ok (.ifCond .ne 15, 3) := by decide +kernel
theorem dX12_needs_4 : decode cX12_needs 4 = .ok (.aload_n 0, 1) := by decide +kernel
theorem dX12_needs_5 : decode cX12_needs 5 = .ok (.invokevirtual 177, 3) := by decide +kernel
theorem dX12_needs_8 : decode cX12_needs 8 = .ok (.aload_n 0, 1) := by decide +kernel
theorem dX12_needs_9 : decode cX12_needs 9 = .ok (.invokevirtual 226, 3) := by decide +kernel
theorem dX12_needs_12 : decode cX12_needs 12 = .ok (.invokevirtual 229, 3) := by decide +kernel
theorem dX12_needs_15 : decode cX12_needs 15 = .ok (.ireturn, 1) := by decide +kernel
theorem dX12_needs_16 : decode cX12_needs 16 = .ok (.iload_n 1, 1) := by decide +kernel
theorem dX12_needs_17 : decode cX12_needs 17 = .ok (.iconst 1, 1) := by decide +kernel
theorem dX12_needs_18 : decode cX12_needs 18 = .ok (.if_icmp .ne 15, 3) := by decide +kernel
theorem dX12_needs_21 : decode cX12_needs 21 = .ok (.aload_n 0, 1) := by decide +kernel
theorem dX12_needs_22 : decode cX12_needs 22 = .ok (.invokevirtual 177, 3) := by decide +kernel
theorem dX12_needs_25 : decode cX12_needs 25 = .ok (.aload_n 0, 1) := by decide +kernel
theorem dX12_needs_26 : decode cX12_needs 26 = .ok (.invokevirtual 226, 3) := by decide +kernel
theorem dX12_needs_29 : decode cX12_needs 29 = .ok (.invokevirtual 232, 3) := by decide +kernel
theorem dX12_needs_32 : decode cX12_needs 32 = .ok (.ireturn, 1) := by decide +kernel
theorem dX12_needs_33 : decode cX12_needs 33 = .ok (.iconst (-1), 1) := by decide +kernel
theorem dX12_needs_34 : decode cX12_needs 34 = .ok (.ireturn, 1) := by decide +kernel
theorem dX12_near_0 : decode cX12_near 0 = .ok (.aload_n 0, 1) := by decide +kernel
theorem dX12_near_1 : decode cX12_near 1 = .ok (.iload_n 1, 1) := by decide +kernel
theorem dX12_near_2 : decode cX12_near 2 = .ok (.invokevirtual 154, 3) := by decide +kernel
theorem dX12_near_5 : decode cX12_near 5 = .ok (.ifCond .eq 23, 3) := by decide +kernel
theorem dX12_near_8 : decode cX12_near 8 = .ok (.aload_n 0, 1) := by decide +kernel
theorem dX12_near_9 : decode cX12_near 9 = .ok (.iload_n 2, 1) := by decide +kernel
theorem dX12_near_10 : decode cX12_near 10 = .ok (.invokevirtual 154, 3) := by decide +kernel
theorem dX12_near_13 : decode cX12_near 13 = .ok (.ifCond .eq 15, 3) := by decide +kernel
theorem dX12_near_16 : decode cX12_near 16 = .ok (.aload_n 0, 1) := by decide +kernel
theorem dX12_near_17 : decode cX12_near 17 = .ok (.getfield 19, 3) := by decide +kernel
theorem dX12_near_20 : decode cX12_near 20 = .ok (.iload_n 1, 1) := by decide +kernel
theorem dX12_near_21 : decode cX12_near 21 = .ok (.iload_n 2, 1) := by decide +kernel
theorem dX12_near_22 : decode cX12_near 22 = .ok (.invokevirtual 235, 3) := by decide +kernel
theorem dX12_near_25 : decode cX12_near 25 = .ok (.goto 4, 3) := by decide +kernel
theorem dX12_near_28 : decode cX12_near 28 = .ok (.iconst (-1), 1) := by decide +kernel
theorem dX12_near_29 : decode cX12_near 29 = .ok (.ireturn, 1) := by decide +kernel
theorem dX12_dig_0 : decode cX12_dig 0 = .ok (.aload_n 0, 1) := by decide +kernel
theorem dX12_dig_1 : decode cX12_dig 1 = .ok (.iload_n 1, 1) := by decide +kernel
theorem dX12_dig_2 : decode cX12_dig 2 = .ok (.iload_n 2, 1) := by decide +kernel
theorem dX12_dig_3 : decode cX12_dig 3 = .ok (.invokevirtual 238, 3) := by decide +kernel
theorem dX12_dig_6 : decode cX12_dig 6 = .ok (.ifCond .eq 15, 3) := by decide +kernel
theorem dX12_dig_9 : decode cX12_dig 9 = .ok (.aload_n 0, 1) := by decide +kernel
theorem dX12_dig_10 : decode cX12_dig 10 = .ok (.getfield 19, 3) := by decide +kernel
theorem dX12_dig_13 : decode cX12_dig 13 = .ok (.iload_n 1, 1) := by decide +kernel
theorem dX12_dig_14 : decode cX12_dig 14 = .ok (.iload_n 2, 1) := by decide +kernel
theorem dX12_dig_15 : decode cX12_dig 15 = .ok (.invokevirtual 242, 3) := by decide +kernel
theorem dX12_dig_18 : decode cX12_dig 18 = .ok (.goto 4, 3) := by decide +kernel
theorem dX12_dig_21 : decode cX12_dig 21 = .ok (.iconst (-1), 1) := by decide +kernel
theorem dX12_dig_22 : decode cX12_dig 22 = .ok (.ireturn, 1) := by decide +kernel
theorem dX12_may_0 : decode cX12_may 0 = .ok (.aload_n 0, 1) := by decide +kernel
theorem dX12_may_1 : decode cX12_may 1 = .ok (.iload_n 1, 1) := by decide +kernel
theorem dX12_may_2 : decode cX12_may 2 = .ok (.invokevirtual 154, 3) := by decide +kernel
theorem dX12_may_5 : decode cX12_may 5 = .ok (.ifCond .ne 5, 3) := by decide +kernel
theorem dX12_may_8 : decode cX12_may 8 = .ok (.iconst (-1), 1) := by decide +kernel
theorem dX12_may_9 : decode cX12_may 9 = .ok (.ireturn, 1) := by decide +kernel
theorem dX12_may_10 : decode cX12_may 10 = .ok (.aload_n 0, 1) := by decide +kernel
theorem dX12_may_11 : decode cX12_may 11 = .ok (.invokevirtual 177, 3) := by decide +kernel
theorem dX12_may_14 : decode cX12_may 14 = .ok (.astore_n 2, 1) := by decide +kernel
theorem dX12_may_15 : decode cX12_may 15 = .ok (.iconst 0, 1) := by decide +kernel
theorem dX12_may_16 : decode cX12_may 16 = .ok (.istore_n 3, 1) := by decide +kernel
theorem dX12_may_17 : decode cX12_may 17 = .ok (.iconst 0, 1) := by decide +kernel
theorem dX12_may_18 : decode cX12_may 18 = .ok (.istore 4, 2) := by decide +kernel
theorem dX12_may_20 : decode cX12_may 20 = .ok (.iload 4, 2) := by decide +kernel
theorem dX12_may_22 : decode cX12_may 22 = .ok (.aload_n 0, 1) := by decide +kernel
theorem dX12_may_23 : decode cX12_may 23 = .ok (.getfield 19, 3) := by decide +kernel
theorem dX12_may_26 : decode cX12_may 26 = .ok (.getfield 151, 3) := by decide +kernel
theorem dX12_may_29 : decode cX12_may 29 = .ok (.if_icmp .ge 26, 3) := by decide +kernel
theorem dX12_may_32 : decode cX12_may 32 = .ok (.aload_n 2, 1) := by decide +kernel
theorem dX12_may_33 : decode cX12_may 33 = .ok (.iload_n 1, 1) := by decide +kernel
theorem dX12_may_34 : decode cX12_may 34 = .ok (.iload 4, 2) := by decide +kernel
theorem dX12_may_36 : decode cX12_may 36 = .ok (.invokevirtual 245, 3) := by decide +kernel
theorem dX12_may_39 : decode cX12_may 39 = .ok (.ifCond .eq 10, 3) := by decide +kernel
theorem dX12_may_42 : decode cX12_may 42 = .ok (.iload_n 3, 1) := by decide +kernel
theorem dX12_may_43 : decode cX12_may 43 = .ok (.iconst 1, 1) := by decide +kernel
theorem dX12_may_44 : decode cX12_may 44 = .ok (.iload 4, 2) := by decide +kernel
theorem dX12_may_46 : decode cX12_may 46 = .ok (.ishl, 1) := by decide +kernel
theorem dX12_may_47 : decode cX12_may 47 = .ok (.ior, 1) := by decide +kernel
theorem dX12_may_48 : decode cX12_may 48 = .ok (.istore_n 3, 1) := by decide +kernel
theorem dX12_may_49 : decode cX12_may 49 = .ok (.iinc 4 1, 3) := by decide +kernel
theorem dX12_may_52 : decode cX12_may 52 = .ok (.goto (-32), 3) := by decide +kernel
theorem dX12_may_55 : decode cX12_may 55 = .ok (.iload_n 3, 1) := by decide +kernel
theorem dX12_may_56 : decode cX12_may 56 = .ok (.ireturn, 1) := by decide +kernel
theorem dX12_ends_0 : decode cX12_ends 0 = .ok (.iconst 0, 1) := by decide +kernel
theorem dX12_ends_1 : decode cX12_ends 1 = .ok (.istore_n 1, 1) := by decide +kernel
theorem dX12_ends_2 : decode cX12_ends 2 = .ok (.iconst 0, 1) := by decide +kernel
theorem dX12_ends_3 : decode cX12_ends 3 = .ok (.istore_n 2, 1) := by decide +kernel
theorem dX12_ends_4 : decode cX12_ends 4 = .ok (.iload_n 2, 1) := by decide +kernel
theorem dX12_ends_5 : decode cX12_ends 5 = .ok (.aload_n 0, 1) := by decide +kernel
theorem dX12_ends_6 : decode cX12_ends 6 = .ok (.getfield 19, 3) := by decide +kernel
theorem dX12_ends_9 : decode cX12_ends 9 = .ok (.getfield 151, 3) := by decide +kernel
theorem dX12_ends_12 : decode cX12_ends 12 = .ok (.if_icmp .ge 31, 3) := by decide +kernel
theorem dX12_ends_15 : decode cX12_ends 15 = .ok (.aload_n 0, 1) := by decide +kernel
theorem dX12_ends_16 : decode cX12_ends 16 = .ok (.getfield 19, 3) := by decide +kernel
theorem dX12_ends_19 : decode cX12_ends 19 = .ok (.getfield 248, 3) := by decide +kernel
theorem dX12_ends_22 : decode cX12_ends 22 = .ok (.iload_n 2, 1) := by decide +kernel
theorem dX12_ends_23 : decode cX12_ends 23 = .ok (.iaload, 1) := by decide +kernel
theorem dX12_ends_24 : decode cX12_ends 24 = .ok (.istore_n 3, 1) := by decide +kernel
theorem dX12_ends_25 : decode cX12_ends 25 = .ok (.iload_n 3, 1) := by decide +kernel
theorem dX12_ends_26 : decode cX12_ends 26 = .ok (.ifCond .eq 11, 3) := by decide +kernel
theorem dX12_ends_29 : decode cX12_ends 29 = .ok (.iload_n 1, 1) := by decide +kernel
theorem dX12_ends_30 : decode cX12_ends 30 = .ok (.iload_n 3, 1) := by decide +kernel
theorem dX12_ends_31 : decode cX12_ends 31 = .ok (.iconst 1, 1) := by decide +kernel
theorem dX12_ends_32 : decode cX12_ends 32 = .ok (.iload_n 2, 1) := by decide +kernel
theorem dX12_ends_33 : decode cX12_ends 33 = .ok (.ishl, 1) := by decide +kernel
theorem dX12_ends_34 : decode cX12_ends 34 = .ok (.ior, 1) := by decide +kernel
theorem dX12_ends_35 : decode cX12_ends 35 = .ok (.ior, 1) := by decide +kernel
theorem dX12_ends_36 : decode cX12_ends 36 = .ok (.istore_n 1, 1) := by decide +kernel
theorem dX12_ends_37 : decode cX12_ends 37 = .ok (.iinc 2 1, 3) := by decide +kernel
theorem dX12_ends_40 : decode cX12_ends 40 = .ok (.goto (-36), 3) := by decide +kernel
theorem dX12_ends_43 : decode cX12_ends 43 = .ok (.aload_n 0, 1) := by decide +kernel
theorem dX12_ends_44 : decode cX12_ends 44 = .ok (.getfield 19, 3) := by decide +kernel
theorem dX12_ends_47 : decode cX12_ends 47 = .ok (.invokevirtual 251, 3) := by decide +kernel
theorem dX12_ends_50 : decode cX12_ends 50 = .ok (.iload_n 1, 1) := by decide +kernel
theorem dX12_ends_51 : decode cX12_ends 51 = .ok (.iconst (-1), 1) := by decide +kernel
theorem dX12_ends_52 : decode cX12_ends 52 = .ok (.ixor, 1) := by decide +kernel
theorem dX12_ends_53 : decode cX12_ends 53 = .ok (.iand, 1) := by decide +kernel
theorem dX12_ends_54 : decode cX12_ends 54 = .ok (.ireturn, 1) := by decide +kernel
theorem dX12_keepForUndo_0 : decode cX12_keepForUndo 0 = .ok (.aload_n 0, 1) := by decide +kernel
theorem dX12_keepForUndo_1 : decode cX12_keepForUndo 1 = .ok (.getfield 42, 3) := by decide +kernel
theorem dX12_keepForUndo_4 : decode cX12_keepForUndo 4 = .ok (.aload_n 0, 1) := by decide +kernel
theorem dX12_keepForUndo_5 : decode cX12_keepForUndo 5 = .ok (.getfield 90, 3) := by decide +kernel
theorem dX12_keepForUndo_8 : decode cX12_keepForUndo 8 = .ok (.aaload, 1) := by decide +kernel
theorem dX12_keepForUndo_9 : decode cX12_keepForUndo 9 = .ok (.aload_n 0, 1) := by decide +kernel
theorem dX12_keepForUndo_10 : decode cX12_keepForUndo 10 = .ok (.getfield 38, 3) := by decide +kernel
theorem dX12_keepForUndo_13 : decode cX12_keepForUndo 13 = .ok (.invokevirtual 254, 3) := by decide +kernel
theorem dX12_keepForUndo_16 : decode cX12_keepForUndo 16 = .ok (.aload_n 0, 1) := by decide +kernel
theorem dX12_keepForUndo_17 : decode cX12_keepForUndo 17 = .ok (.aload_n 0, 1) := by decide +kernel
theorem dX12_keepForUndo_18 : decode cX12_keepForUndo 18 = .ok (.getfield 90, 3) := by decide +kernel
theorem dX12_keepForUndo_21 : decode cX12_keepForUndo 21 = .ok (.iconst 1, 1) := by decide +kernel
theorem dX12_keepForUndo_22 : decode cX12_keepForUndo 22 = .ok (.iadd, 1) := by decide +kernel
theorem dX12_keepForUndo_23 : decode cX12_keepForUndo 23 = .ok (.bipush 16, 2) := by decide +kernel
theorem dX12_keepForUndo_25 : decode cX12_keepForUndo 25 = .ok (.irem, 1) := by decide +kernel
theorem dX12_keepForUndo_26 : decode cX12_keepForUndo 26 = .ok (.putfield 90, 3) := by decide +kernel
theorem dX12_keepForUndo_29 : decode cX12_keepForUndo 29 = .ok (.aload_n 0, 1) := by decide +kernel
theorem dX12_keepForUndo_30 : decode cX12_keepForUndo 30 = .ok (.getfield 93, 3) := by decide +kernel
theorem dX12_keepForUndo_33 : decode cX12_keepForUndo 33 = .ok (.bipush 16, 2) := by decide +kernel
theorem dX12_keepForUndo_35 : decode cX12_keepForUndo 35 = .ok (.if_icmp .ge 13, 3) := by decide +kernel
theorem dX12_keepForUndo_38 : decode cX12_keepForUndo 38 = .ok (.aload_n 0, 1) := by decide +kernel
theorem dX12_keepForUndo_39 : decode cX12_keepForUndo 39 = .ok (.dup, 1) := by decide +kernel
theorem dX12_keepForUndo_40 : decode cX12_keepForUndo 40 = .ok (.getfield 93, 3) := by decide +kernel
theorem dX12_keepForUndo_43 : decode cX12_keepForUndo 43 = .ok (.iconst 1, 1) := by decide +kernel
theorem dX12_keepForUndo_44 : decode cX12_keepForUndo 44 = .ok (.iadd, 1) := by decide +kernel
theorem dX12_keepForUndo_45 : decode cX12_keepForUndo 45 = .ok (.putfield 93, 3) := by decide +kernel
theorem dX12_keepForUndo_48 : decode cX12_keepForUndo 48 = .ok (.return_, 1) := by decide +kernel
theorem dX12_wed_0 : decode cX12_wed 0 = .ok (.aload_n 0, 1) := by decide +kernel
theorem dX12_wed_1 : decode cX12_wed 1 = .ok (.iload_n 1, 1) := by decide +kernel
theorem dX12_wed_2 : decode cX12_wed 2 = .ok (.iload_n 2, 1) := by decide +kernel
theorem dX12_wed_3 : decode cX12_wed 3 = .ok (.invokevirtual 238, 3) := by decide +kernel
theorem dX12_wed_6 : decode cX12_wed 6 = .ok (.ifCond .eq 15, 3) := by decide +kernel
theorem dX12_wed_9 : decode cX12_wed 9 = .ok (.aload_n 0, 1) := by decide +kernel
theorem dX12_wed_10 : decode cX12_wed 10 = .ok (.invokevirtual 177, 3) := by decide +kernel
theorem dX12_wed_13 : decode cX12_wed 13 = .ok (.iload_n 1, 1) := by decide +kernel
theorem dX12_wed_14 : decode cX12_wed 14 = .ok (.iload_n 2, 1) := by decide +kernel
theorem dX12_wed_15 : decode cX12_wed 15 = .ok (.invokevirtual 245, 3) := by decide +kernel
theorem dX12_wed_18 : decode cX12_wed 18 = .ok (.ifCond .ne 5, 3) := by decide +kernel
theorem dX12_wed_21 : decode cX12_wed 21 = .ok (.iconst (-1), 1) := by decide +kernel
theorem dX12_wed_22 : decode cX12_wed 22 = .ok (.ireturn, 1) := by decide +kernel
theorem dX12_wed_23 : decode cX12_wed 23 = .ok (.aload_n 0, 1) := by decide +kernel
theorem dX12_wed_24 : decode cX12_wed 24 = .ok (.getfield 19, 3) := by decide +kernel
theorem dX12_wed_27 : decode cX12_wed 27 = .ok (.getfield 158, 3) := by decide +kernel
theorem dX12_wed_30 : decode cX12_wed 30 = .ok (.iload_n 1, 1) := by decide +kernel
theorem dX12_wed_31 : decode cX12_wed 31 = .ok (.aaload, 1) := by decide +kernel
theorem dX12_wed_32 : decode cX12_wed 32 = .ok (.astore_n 3, 1) := by decide +kernel
theorem dX12_wed_33 : decode cX12_wed 33 = .ok (.aload_n 0, 1) := by decide +kernel
theorem dX12_wed_34 : decode cX12_wed 34 = .ok (.getfield 19, 3) := by decide +kernel
theorem dX12_wed_37 : decode cX12_wed 37 = .ok (.getfield 258, 3) := by decide +kernel
theorem dX12_wed_40 : decode cX12_wed 40 = .ok (.aload_n 0, 1) := by decide +kernel
theorem dX12_wed_41 : decode cX12_wed 41 = .ok (.iload_n 1, 1) := by decide +kernel
theorem dX12_wed_42 : decode cX12_wed 42 = .ok (.aload_n 0, 1) := by decide +kernel
theorem dX12_wed_43 : decode cX12_wed 43 = .ok (.invokevirtual 226, 3) := by decide +kernel
theorem dX12_wed_46 : decode cX12_wed 46 = .ok (.invokevirtual 262, 3) := by decide +kernel
theorem dX12_wed_49 : decode cX12_wed 49 = .ok (.aload_n 3, 1) := by decide +kernel
theorem dX12_wed_50 : decode cX12_wed 50 = .ok (.getfield 201, 3) := by decide +kernel
theorem dX12_wed_53 : decode cX12_wed 53 = .ok (.aload_n 3, 1) := by decide +kernel
theorem dX12_wed_54 : decode cX12_wed 54 = .ok (.getfield 204, 3) := by decide +kernel
theorem dX12_wed_57 : decode cX12_wed 57 = .ok (.isub, 1) := by decide +kernel
theorem dX12_wed_58 : decode cX12_wed 58 = .ok (.aload_n 0, 1) := by decide +kernel
theorem dX12_wed_59 : decode cX12_wed 59 = .ok (.getfield 19, 3) := by decide +kernel
theorem dX12_wed_62 : decode cX12_wed 62 = .ok (.iload_n 1, 1) := by decide +kernel
theorem dX12_wed_63 : decode cX12_wed 63 = .ok (.iload_n 2, 1) := by decide +kernel
theorem dX12_wed_64 : decode cX12_wed 64 = .ok (.invokevirtual 235, 3) := by decide +kernel
theorem dX12_wed_67 : decode cX12_wed 67 = .ok (.aload_n 0, 1) := by decide +kernel
theorem dX12_wed_68 : decode cX12_wed 68 = .ok (.getfield 19, 3) := by decide +kernel
theorem dX12_wed_71 : decode cX12_wed 71 = .ok (.iload_n 1, 1) := by decide +kernel
theorem dX12_wed_72 : decode cX12_wed 72 = .ok (.iload_n 2, 1) := by decide +kernel
theorem dX12_wed_73 : decode cX12_wed 73 = .ok (.invokevirtual 242, 3) := by decide +kernel
theorem dX12_wed_76 : decode cX12_wed 76 = .ok (.invokevirtual 265, 3) := by decide +kernel
theorem dX12_wed_79 : decode cX12_wed 79 = .ok (.istore 4, 2) := by decide +kernel
theorem dX12_wed_81 : decode cX12_wed 81 = .ok (.aload_n 0, 1) := by decide +kernel
theorem dX12_wed_82 : decode cX12_wed 82 = .ok (.invokevirtual 271, 3) := by decide +kernel
theorem dX12_wed_85 : decode cX12_wed 85 = .ok (.aload_n 0, 1) := by decide +kernel
theorem dX12_wed_86 : decode cX12_wed 86 = .ok (.getfield 38, 3) := by decide +kernel
theorem dX12_wed_89 : decode cX12_wed 89 = .ok (.getfield 170, 3) := by decide +kernel
theorem dX12_wed_92 : decode cX12_wed 92 = .ok (.iload_n 1, 1) := by decide +kernel
theorem dX12_wed_93 : decode cX12_wed 93 = .ok (.iload_n 2, 1) := by decide +kernel
theorem dX12_wed_94 : decode cX12_wed 94 = .ok (.iastore, 1) := by decide +kernel
theorem dX12_wed_95 : decode cX12_wed 95 = .ok (.aload_n 0, 1) := by decide +kernel
theorem dX12_wed_96 : decode cX12_wed 96 = .ok (.getfield 38, 3) := by decide +kernel
theorem dX12_wed_99 : decode cX12_wed 99 = .ok (.getfield 220, 3) := by decide +kernel
theorem dX12_wed_102 : decode cX12_wed 102 = .ok (.iload_n 1, 1) := by decide +kernel
theorem dX12_wed_103 : decode cX12_wed 103 = .ok (.dup2, 1) := by decide +kernel
theorem dX12_wed_104 : decode cX12_wed 104 = .ok (.iaload, 1) := by decide +kernel
theorem dX12_wed_105 : decode cX12_wed 105 = .ok (.iload 4, 2) := by decide +kernel
theorem dX12_wed_107 : decode cX12_wed 107 = .ok (.isub, 1) := by decide +kernel
theorem dX12_wed_108 : decode cX12_wed 108 = .ok (.iastore, 1) := by decide +kernel
theorem dX12_wed_109 : decode cX12_wed 109 = .ok (.aload_n 0, 1) := by decide +kernel
theorem dX12_wed_110 : decode cX12_wed 110 = .ok (.getfield 38, 3) := by decide +kernel
theorem dX12_wed_113 : decode cX12_wed 113 = .ok (.getfield 220, 3) := by decide +kernel
theorem dX12_wed_116 : decode cX12_wed 116 = .ok (.iload_n 2, 1) := by decide +kernel
theorem dX12_wed_117 : decode cX12_wed 117 = .ok (.dup2, 1) := by decide +kernel
theorem dX12_wed_118 : decode cX12_wed 118 = .ok (.iaload, 1) := by decide +kernel
theorem dX12_wed_119 : decode cX12_wed 119 = .ok (.iload 4, 2) := by decide +kernel
theorem dX12_wed_121 : decode cX12_wed 121 = .ok (.iadd, 1) := by decide +kernel
theorem dX12_wed_122 : decode cX12_wed 122 = .ok (.iastore, 1) := by decide +kernel
theorem dX12_wed_123 : decode cX12_wed 123 = .ok (.iload 4, 2) := by decide +kernel
theorem dX12_wed_125 : decode cX12_wed 125 = .ok (.ireturn, 1) := by decide +kernel
theorem dX12_part_0 : decode cX12_part 0 = .ok (.aload_n 0, 1) := by decide +kernel
theorem dX12_part_1 : decode cX12_part 1 = .ok (.iload_n 1, 1) := by decide +kernel
theorem dX12_part_2 : decode cX12_part 2 = .ok (.invokevirtual 154, 3) := by decide +kernel
theorem dX12_part_5 : decode cX12_part 5 = .ok (.ifCond .eq 16, 3) := by decide +kernel
theorem dX12_part_8 : decode cX12_part 8 = .ok (.aload_n 0, 1) := by decide +kernel
theorem dX12_part_9 : decode cX12_part 9 = .ok (.getfield 38, 3) := by decide +kernel
theorem dX12_part_12 : decode cX12_part 12 = .ok (.getfield 170, 3) := by decide +kernel
theorem dX12_part_15 : decode cX12_part 15 = .ok (.iload_n 1, 1) := by decide +kernel
theorem dX12_part_16 : decode cX12_part 16 = .ok (.iaload, 1) := by decide +kernel
theorem dX12_part_17 : decode cX12_part 17 = .ok (.iconst (-1), 1) := by decide +kernel
theorem dX12_part_18 : decode cX12_part 18 = .ok (.if_icmp .ne 5, 3) := by decide +kernel
theorem dX12_part_21 : decode cX12_part 21 = .ok (.iconst 0, 1) := by decide +kernel
theorem dX12_part_22 : decode cX12_part 22 = .ok (.ireturn, 1) := by decide +kernel
theorem dX12_part_23 : decode cX12_part 23 = .ok (.aload_n 0, 1) := by decide +kernel
theorem dX12_part_24 : decode cX12_part 24 = .ok (.invokevirtual 271, 3) := by decide +kernel
theorem dX12_part_27 : decode cX12_part 27 = .ok (.aload_n 0, 1) := by decide +kernel
theorem dX12_part_28 : decode cX12_part 28 = .ok (.getfield 38, 3) := by decide +kernel
theorem dX12_part_31 : decode cX12_part 31 = .ok (.getfield 170, 3) := by decide +kernel
theorem dX12_part_34 : decode cX12_part 34 = .ok (.iload_n 1, 1) := by decide +kernel
theorem dX12_part_35 : decode cX12_part 35 = .ok (.iconst (-1), 1) := by decide +kernel
theorem dX12_part_36 : decode cX12_part 36 = .ok (.iastore, 1) := by decide +kernel
theorem dX12_part_37 : decode cX12_part 37 = .ok (.iconst 1, 1) := by decide +kernel
theorem dX12_part_38 : decode cX12_part 38 = .ok (.ireturn, 1) := by decide +kernel
theorem dX12_seasons_0 : decode cX12_seasons 0 = .ok (.iload_n 1, 1) := by decide +kernel
theorem dX12_seasons_1 : decode cX12_seasons 1 = .ok (.iconst 1, 1) := by decide +kernel
theorem dX12_seasons_2 : decode cX12_seasons 2 = .ok (.if_icmp .lt 9, 3) := by decide +kernel
theorem dX12_seasons_5 : decode cX12_seasons 5 = .ok (.iload_n 1, 1) := by decide +kernel
theorem dX12_seasons_6 : decode cX12_seasons 6 = .ok (.bipush 100, 2) := by decide +kernel
theorem dX12_seasons_8 : decode cX12_seasons 8 = .ok (.if_icmp .le 5, 3) := by decide +kernel
theorem dX12_seasons_11 : decode cX12_seasons 11 = .ok (.iconst (-1), 1) := by decide +kernel
theorem dX12_seasons_12 : decode cX12_seasons 12 = .ok (.ireturn, 1) := by decide +kernel
theorem dX12_seasons_13 : decode cX12_seasons 13 = .ok (.iconst 0, 1) := by decide +kernel
theorem dX12_seasons_14 : decode cX12_seasons 14 = .ok (.istore_n 2, 1) := by decide +kernel
theorem dX12_seasons_15 : decode cX12_seasons 15 = .ok (.iload_n 2, 1) := by decide +kernel
theorem dX12_seasons_16 : decode cX12_seasons 16 = .ok (.iload_n 1, 1) := by decide +kernel
theorem dX12_seasons_17 : decode cX12_seasons 17 = .ok (.if_icmp .ge 22, 3) := by decide +kernel
theorem dX12_seasons_20 : decode cX12_seasons 20 = .ok (.iload_n 2, 1) := by decide +kernel
theorem dX12_seasons_21 : decode cX12_seasons 21 = .ok (.iconst 4, 1) := by decide +kernel
theorem dX12_seasons_22 : decode cX12_seasons 22 = .ok (.if_icmp .ge 7, 3) := by decide +kernel
theorem dX12_seasons_25 : decode cX12_seasons 25 = .ok (.aload_n 0, 1) := by decide +kernel
theorem dX12_seasons_26 : decode cX12_seasons 26 = .ok (.invokevirtual 274, 3) := by decide +kernel
theorem dX12_seasons_29 : decode cX12_seasons 29 = .ok (.aload_n 0, 1) := by decide +kernel
theorem dX12_seasons_30 : decode cX12_seasons 30 = .ok (.invokevirtual 277, 3) := by decide +kernel
theorem dX12_seasons_33 : decode cX12_seasons 33 = .ok (.iinc 2 1, 3) := by decide +kernel
theorem dX12_seasons_36 : decode cX12_seasons 36 = .ok (.goto (-21), 3) := by decide +kernel
theorem dX12_seasons_39 : decode cX12_seasons 39 = .ok (.aload_n 0, 1) := by decide +kernel
theorem dX12_seasons_40 : decode cX12_seasons 40 = .ok (.getfield 38, 3) := by decide +kernel
theorem dX12_seasons_43 : decode cX12_seasons 43 = .ok (.getfield 167, 3) := by decide +kernel
theorem dX12_seasons_46 : decode cX12_seasons 46 = .ok (.ireturn, 1) := by decide +kernel
theorem dX12_reckonGrowth_0 : decode cX12_reckonGrowth 0 = .ok (.aload_n 0, 1) := by decide +kernel
theorem dX12_reckonGrowth_1 : decode cX12_reckonGrowth 1 = .ok (.invokevirtual 226, 3) := by decide +kernel
theorem dX12_reckonGrowth_4 : decode cX12_reckonGrowth 4 = .ok (.istore_n 1, 1) := by decide +kernel
theorem dX12_reckonGrowth_5 : decode cX12_reckonGrowth 5 = .ok (.iconst 0, 1) := by decide +kernel
theorem dX12_reckonGrowth_6 : decode cX12_reckonGrowth 6 = .ok (.istore_n 2, 1) := by decide +kernel
theorem dX12_reckonGrowth_7 : decode cX12_reckonGrowth 7 = .ok (.iload_n 2, 1) := by decide +kernel
theorem dX12_reckonGrowth_8 : decode cX12_reckonGrowth 8 = .ok (.aload_n 0, 1) := by decide +kernel
theorem dX12_reckonGrowth_9 : decode cX12_reckonGrowth 9 = .ok (.getfield 19, 3) := by decide +kernel
theorem dX12_reckonGrowth_12 : decode cX12_reckonGrowth 12 = .ok (.getfield 151, 3) := by decide +kernel
theorem dX12_reckonGrowth_15 : decode cX12_reckonGrowth 15 = .ok (.if_icmp .ge 57, 3) := by decide +kernel
theorem dX12_reckonGrowth_18 : decode cX12_reckonGrowth 18 = .ok (.aload_n 0, 1) := by decide +kernel
theorem dX12_reckonGrowth_19 : decode cX12_reckonGrowth 19 = .ok (.getfield 19, 3) := by decide +kernel
theorem dX12_reckonGrowth_22 : decode cX12_reckonGrowth 22 = .ok (.getfield 158, 3) := by decide +kernel
theorem dX12_reckonGrowth_25 : decode cX12_reckonGrowth 25 = .ok (.iload_n 2, 1) := by decide +kernel
theorem dX12_reckonGrowth_26 : decode cX12_reckonGrowth 26 = .ok (.aaload, 1) := by decide +kernel
theorem dX12_reckonGrowth_27 : decode cX12_reckonGrowth 27 = .ok (.astore_n 3, 1) := by decide +kernel
theorem dX12_reckonGrowth_28 : decode cX12_reckonGrowth 28 = .ok (.aload_n 0, 1) := by decide +kernel
theorem dX12_reckonGrowth_29 : decode cX12_reckonGrowth 29 = .ok (.getfield 80, 3) := by decide +kernel
theorem dX12_reckonGrowth_32 : decode cX12_reckonGrowth 32 = .ok (.iload_n 1, 1) := by decide +kernel
theorem dX12_reckonGrowth_33 : decode cX12_reckonGrowth 33 = .ok (.bipush 6, 2) := by decide +kernel
theorem dX12_reckonGrowth_35 : decode cX12_reckonGrowth 35 = .ok (.imul, 1) := by decide +kernel
theorem dX12_reckonGrowth_36 : decode cX12_reckonGrowth 36 = .ok (.iload_n 2, 1) := by decide +kernel
theorem dX12_reckonGrowth_37 : decode cX12_reckonGrowth 37 = .ok (.iadd, 1) := by decide +kernel
theorem dX12_reckonGrowth_38 : decode cX12_reckonGrowth 38 = .ok (.aload_n 0, 1) := by decide +kernel
theorem dX12_reckonGrowth_39 : decode cX12_reckonGrowth 39 = .ok (.getfield 19, 3) := by decide +kernel
theorem dX12_reckonGrowth_42 : decode cX12_reckonGrowth 42 = .ok (.getfield 280, 3) := by decide +kernel
theorem dX12_reckonGrowth_45 : decode cX12_reckonGrowth 45 = .ok (.aload_n 0, 1) := by decide +kernel
theorem dX12_reckonGrowth_46 : decode cX12_reckonGrowth 46 = .ok (.iload_n 2, 1) := by decide +kernel
theorem dX12_reckonGrowth_47 : decode cX12_reckonGrowth 47 = .ok (.iload_n 1, 1) := by decide +kernel
theorem dX12_reckonGrowth_48 : decode cX12_reckonGrowth 48 = .ok (.invokevirtual 262, 3) := by decide +kernel
theorem dX12_reckonGrowth_51 : decode cX12_reckonGrowth 51 = .ok (.aload_n 3, 1) := by decide +kernel
theorem dX12_reckonGrowth_52 : decode cX12_reckonGrowth 52 = .ok (.getfield 201, 3) := by decide +kernel
theorem dX12_reckonGrowth_55 : decode cX12_reckonGrowth 55 = .ok (.aload_n 3, 1) := by decide +kernel
theorem dX12_reckonGrowth_56 : decode cX12_reckonGrowth 56 = .ok (.getfield 204, 3) := by decide +kernel
theorem dX12_reckonGrowth_59 : decode cX12_reckonGrowth 59 = .ok (.isub, 1) := by decide +kernel
theorem dX12_reckonGrowth_60 : decode cX12_reckonGrowth 60 = .ok (.iconst 0, 1) := by decide +kernel
theorem dX12_reckonGrowth_61 : decode cX12_reckonGrowth 61 = .ok (.iconst 0, 1) := by decide +kernel
theorem dX12_reckonGrowth_62 : decode cX12_reckonGrowth 62 = .ok (.invokevirtual 265, 3) := by decide +kernel
theorem dX12_reckonGrowth_65 : decode cX12_reckonGrowth 65 = .ok (.iastore, 1) := by decide +kernel
theorem dX12_reckonGrowth_66 : decode cX12_reckonGrowth 66 = .ok (.iinc 2 1, 3) := by decide +kernel
theorem dX12_reckonGrowth_69 : decode cX12_reckonGrowth 69 = .ok (.goto (-62), 3) := by decide +kernel
theorem dX12_reckonGrowth_72 : decode cX12_reckonGrowth 72 = .ok (.return_, 1) := by decide +kernel
theorem dX12_passSeason_0 : decode cX12_passSeason 0 = .ok (.aload_n 0, 1) := by decide +kernel
theorem dX12_passSeason_1 : decode cX12_passSeason 1 = .ok (.invokevirtual 271, 3) := by decide +kernel
theorem dX12_passSeason_4 : decode cX12_passSeason 4 = .ok (.aload_n 0, 1) := by decide +kernel
theorem dX12_passSeason_5 : decode cX12_passSeason 5 = .ok (.invokevirtual 226, 3) := by decide +kernel
theorem dX12_passSeason_8 : decode cX12_passSeason 8 = .ok (.bipush 6, 2) := by decide +kernel
theorem dX12_passSeason_10 : decode cX12_passSeason 10 = .ok (.imul, 1) := by decide +kernel
theorem dX12_passSeason_11 : decode cX12_passSeason 11 = .ok (.istore_n 1, 1) := by decide +kernel
theorem dX12_passSeason_12 : decode cX12_passSeason 12 = .ok (.iconst 0, 1) := by decide +kernel
theorem dX12_passSeason_13 : decode cX12_passSeason 13 = .ok (.istore_n 2, 1) := by decide +kernel
theorem dX12_passSeason_14 : decode cX12_passSeason 14 = .ok (.iload_n 2, 1) := by decide +kernel
theorem dX12_passSeason_15 : decode cX12_passSeason 15 = .ok (.aload_n 0, 1) := by decide +kernel
theorem dX12_passSeason_16 : decode cX12_passSeason 16 = .ok (.getfield 19, 3) := by decide +kernel
theorem dX12_passSeason_19 : decode cX12_passSeason 19 = .ok (.getfield 151, 3) := by decide +kernel
theorem dX12_passSeason_22 : decode cX12_passSeason 22 = .ok (.if_icmp .ge 29, 3) := by decide +kernel
theorem dX12_passSeason_25 : decode cX12_passSeason 25 = .ok (.aload_n 0, 1) := by decide +kernel
theorem dX12_passSeason_26 : decode cX12_passSeason 26 = .ok (.getfield 38, 3) := by decide +kernel
theorem dX12_passSeason_29 : decode cX12_passSeason 29 = .ok (.getfield 217, 3) := by decide +kernel
theorem dX12_passSeason_32 : decode cX12_passSeason 32 = .ok (.iload_n 2, 1) := by decide +kernel
theorem dX12_passSeason_33 : decode cX12_passSeason 33 = .ok (.dup2, 1) := by decide +kernel
theorem dX12_passSeason_34 : decode cX12_passSeason 34 = .ok (.iaload, 1) := by decide +kernel
theorem dX12_passSeason_35 : decode cX12_passSeason 35 = .ok (.aload_n 0, 1) := by decide +kernel
theorem dX12_passSeason_36 : decode cX12_passSeason 36 = .ok (.getfield 80, 3) := by decide +kernel
theorem dX12_passSeason_39 : decode cX12_passSeason 39 = .ok (.iload_n 1, 1) := by decide +kernel
theorem dX12_passSeason_40 : decode cX12_passSeason 40 = .ok (.iload_n 2, 1) := by decide +kernel
theorem dX12_passSeason_41 : decode cX12_passSeason 41 = .ok (.iadd, 1) := by decide +kernel
theorem dX12_passSeason_42 : decode cX12_passSeason 42 = .ok (.iaload, 1) := by decide +kernel
theorem dX12_passSeason_43 : decode cX12_passSeason 43 = .ok (.iadd, 1) := by decide +kernel
theorem dX12_passSeason_44 : decode cX12_passSeason 44 = .ok (.iastore, 1) := by decide +kernel
theorem dX12_passSeason_45 : decode cX12_passSeason 45 = .ok (.iinc 2 1, 3) := by decide +kernel
theorem dX12_passSeason_48 : decode cX12_passSeason 48 = .ok (.goto (-34), 3) := by decide +kernel
theorem dX12_passSeason_51 : decode cX12_passSeason 51 = .ok (.aload_n 0, 1) := by decide +kernel
theorem dX12_passSeason_52 : decode cX12_passSeason 52 = .ok (.getfield 38, 3) := by decide +kernel
theorem dX12_passSeason_55 : decode cX12_passSeason 55 = .ok (.dup, 1) := by decide +kernel
theorem dX12_passSeason_56 : decode cX12_passSeason 56 = .ok (.getfield 167, 3) := by decide +kernel
theorem dX12_passSeason_59 : decode cX12_passSeason 59 = .ok (.iconst 1, 1) := by decide +kernel
theorem dX12_passSeason_60 : decode cX12_passSeason 60 = .ok (.iadd, 1) := by decide +kernel
theorem dX12_passSeason_61 : decode cX12_passSeason 61 = .ok (.putfield 167, 3) := by decide +kernel
theorem dX12_passSeason_64 : decode cX12_passSeason 64 = .ok (.return_, 1) := by decide +kernel
theorem dX12_undo_0 : decode cX12_undo 0 = .ok (.aload_n 0, 1) := by decide +kernel
theorem dX12_undo_1 : decode cX12_undo 1 = .ok (.getfield 93, 3) := by decide +kernel
theorem dX12_undo_4 : decode cX12_undo 4 = .ok (.ifCond .ne 5, 3) := by decide +kernel
theorem dX12_undo_7 : decode cX12_undo 7 = .ok (.iconst 0, 1) := by decide +kernel
theorem dX12_undo_8 : decode cX12_undo 8 = .ok (.ireturn, 1) := by decide +kernel
theorem dX12_undo_9 : decode cX12_undo 9 = .ok (.aload_n 0, 1) := by decide +kernel
theorem dX12_undo_10 : decode cX12_undo 10 = .ok (.dup, 1) := by decide +kernel
theorem dX12_undo_11 : decode cX12_undo 11 = .ok (.getfield 93, 3) := by decide +kernel
theorem dX12_undo_14 : decode cX12_undo 14 = .ok (.iconst 1, 1) := by decide +kernel
theorem dX12_undo_15 : decode cX12_undo 15 = .ok (.isub, 1) := by decide +kernel
theorem dX12_undo_16 : decode cX12_undo 16 = .ok (.putfield 93, 3) := by decide +kernel
theorem dX12_undo_19 : decode cX12_undo 19 = .ok (.aload_n 0, 1) := by decide +kernel
theorem dX12_undo_20 : decode cX12_undo 20 = .ok (.aload_n 0, 1) := by decide +kernel
theorem dX12_undo_21 : decode cX12_undo 21 = .ok (.getfield 90, 3) := by decide +kernel
theorem dX12_undo_24 : decode cX12_undo 24 = .ok (.bipush 16, 2) := by decide +kernel
theorem dX12_undo_26 : decode cX12_undo 26 = .ok (.iadd, 1) := by decide +kernel
theorem dX12_undo_27 : decode cX12_undo 27 = .ok (.iconst 1, 1) := by decide +kernel
theorem dX12_undo_28 : decode cX12_undo 28 = .ok (.isub, 1) := by decide +kernel
theorem dX12_undo_29 : decode cX12_undo 29 = .ok (.bipush 16, 2) := by decide +kernel
theorem dX12_undo_31 : decode cX12_undo 31 = .ok (.irem, 1) := by decide +kernel
theorem dX12_undo_32 : decode cX12_undo 32 = .ok (.putfield 90, 3) := by decide +kernel
theorem dX12_undo_35 : decode cX12_undo 35 = .ok (.aload_n 0, 1) := by decide +kernel
theorem dX12_undo_36 : decode cX12_undo 36 = .ok (.getfield 38, 3) := by decide +kernel
theorem dX12_undo_39 : decode cX12_undo 39 = .ok (.aload_n 0, 1) := by decide +kernel
theorem dX12_undo_40 : decode cX12_undo 40 = .ok (.getfield 42, 3) := by decide +kernel
theorem dX12_undo_43 : decode cX12_undo 43 = .ok (.aload_n 0, 1) := by decide +kernel
theorem dX12_undo_44 : decode cX12_undo 44 = .ok (.getfield 90, 3) := by decide +kernel
theorem dX12_undo_47 : decode cX12_undo 47 = .ok (.aaload, 1) := by decide +kernel
theorem dX12_undo_48 : decode cX12_undo 48 = .ok (.invokevirtual 254, 3) := by decide +kernel
theorem dX12_undo_51 : decode cX12_undo 51 = .ok (.iconst 1, 1) := by decide +kernel
theorem dX12_undo_52 : decode cX12_undo 52 = .ok (.ireturn, 1) := by decide +kernel
theorem dX12_mark_0 : decode cX12_mark 0 = .ok (.iload_n 1, 1) := by decide +kernel
theorem dX12_mark_1 : decode cX12_mark 1 = .ok (.ifCond .lt 24, 3) := by decide +kernel
theorem dX12_mark_4 : decode cX12_mark 4 = .ok (.iload_n 1, 1) := by decide +kernel
theorem dX12_mark_5 : decode cX12_mark 5 = .ok (.iconst 4, 1) := by decide +kernel
theorem dX12_mark_6 : decode cX12_mark 6 = .ok (.if_icmp .ge 19, 3) := by decide +kernel
theorem dX12_mark_9 : decode cX12_mark 9 = .ok (.iload_n 2, 1) := by decide +kernel
theorem dX12_mark_10 : decode cX12_mark 10 = .ok (.ifCond .eq 17, 3) := by decide +kernel
theorem dX12_mark_13 : decode cX12_mark 13 = .ok (.aload_n 0, 1) := by decide +kernel
theorem dX12_mark_14 : decode cX12_mark 14 = .ok (.getfield 46, 3) := by decide +kernel
theorem dX12_mark_17 : decode cX12_mark 17 = .ok (.iload_n 1, 1) := by decide +kernel
theorem dX12_mark_18 : decode cX12_mark 18 = .ok (.aaload, 1) := by decide +kernel
theorem dX12_mark_19 : decode cX12_mark 19 = .ok (.getfield 120, 3) := by decide +kernel
theorem dX12_mark_22 : decode cX12_mark 22 = .ok (.ifCond .ne 5, 3) := by decide +kernel
theorem dX12_mark_25 : decode cX12_mark 25 = .ok (.iconst 0, 1) := by decide +kernel
theorem dX12_mark_26 : decode cX12_mark 26 = .ok (.ireturn, 1) := by decide +kernel
theorem dX12_mark_27 : decode cX12_mark 27 = .ok (.iload_n 2, 1) := by decide +kernel
theorem dX12_mark_28 : decode cX12_mark 28 = .ok (.ifCond .eq 32, 3) := by decide +kernel
theorem dX12_mark_31 : decode cX12_mark 31 = .ok (.aload_n 0, 1) := by decide +kernel
theorem dX12_mark_32 : decode cX12_mark 32 = .ok (.getfield 38, 3) := by decide +kernel
theorem dX12_mark_35 : decode cX12_mark 35 = .ok (.aload_n 0, 1) := by decide +kernel
theorem dX12_mark_36 : decode cX12_mark 36 = .ok (.getfield 46, 3) := by decide +kernel
theorem dX12_mark_39 : decode cX12_mark 39 = .ok (.iload_n 1, 1) := by decide +kernel
theorem dX12_mark_40 : decode cX12_mark 40 = .ok (.aaload, 1) := by decide +kernel
theorem dX12_mark_41 : decode cX12_mark 41 = .ok (.invokevirtual 282, 3) := by decide +kernel
theorem dX12_mark_44 : decode cX12_mark 44 = .ok (.aload_n 0, 1) := by decide +kernel
theorem dX12_mark_45 : decode cX12_mark 45 = .ok (.iconst 0, 1) := by decide +kernel
theorem dX12_mark_46 : decode cX12_mark 46 = .ok (.putfield 93, 3) := by decide +kernel
theorem dX12_mark_49 : decode cX12_mark 49 = .ok (.aload_n 0, 1) := by decide +kernel
theorem dX12_mark_50 : decode cX12_mark 50 = .ok (.getfield 76, 3) := by decide +kernel
theorem dX12_mark_53 : decode cX12_mark 53 = .ok (.iconst 0, 1) := by decide +kernel
theorem dX12_mark_54 : decode cX12_mark 54 = .ok (.putfield 127, 3) := by decide +kernel
theorem dX12_mark_57 : decode cX12_mark 57 = .ok (.goto 26, 3) := by decide +kernel
theorem dX12_mark_60 : decode cX12_mark 60 = .ok (.aload_n 0, 1) := by decide +kernel
theorem dX12_mark_61 : decode cX12_mark 61 = .ok (.getfield 46, 3) := by decide +kernel
theorem dX12_mark_64 : decode cX12_mark 64 = .ok (.iload_n 1, 1) := by decide +kernel
theorem dX12_mark_65 : decode cX12_mark 65 = .ok (.aaload, 1) := by decide +kernel
theorem dX12_mark_66 : decode cX12_mark 66 = .ok (.aload_n 0, 1) := by decide +kernel
theorem dX12_mark_67 : decode cX12_mark 67 = .ok (.getfield 38, 3) := by decide +kernel
theorem dX12_mark_70 : decode cX12_mark 70 = .ok (.invokevirtual 282, 3) := by decide +kernel
theorem dX12_mark_73 : decode cX12_mark 73 = .ok (.aload_n 0, 1) := by decide +kernel
theorem dX12_mark_74 : decode cX12_mark 74 = .ok (.getfield 46, 3) := by decide +kernel
theorem dX12_mark_77 : decode cX12_mark 77 = .ok (.iload_n 1, 1) := by decide +kernel
theorem dX12_mark_78 : decode cX12_mark 78 = .ok (.aaload, 1) := by decide +kernel
theorem dX12_mark_79 : decode cX12_mark 79 = .ok (.iconst 1, 1) := by decide +kernel
theorem dX12_mark_80 : decode cX12_mark 80 = .ok (.putfield 120, 3) := by decide +kernel
theorem dX12_mark_83 : decode cX12_mark 83 = .ok (.iconst 1, 1) := by decide +kernel
theorem dX12_mark_84 : decode cX12_mark 84 = .ok (.ireturn, 1) := by decide +kernel
theorem dX12_judged_0 : decode cX12_judged 0 = .ok (.iload_n 1, 1) := by decide +kernel
theorem dX12_judged_1 : decode cX12_judged 1 = .ok (.ifCond .lt 8, 3) := by decide +kernel
theorem dX12_judged_4 : decode cX12_judged 4 = .ok (.iload_n 1, 1) := by decide +kernel
theorem dX12_judged_5 : decode cX12_judged 5 = .ok (.iconst 2, 1) := by decide +kernel
theorem dX12_judged_6 : decode cX12_judged 6 = .ok (.if_icmp .le 6, 3) := by decide +kernel
theorem dX12_judged_9 : decode cX12_judged 9 = .ok (.bipush (-2), 2) := by decide +kernel
theorem dX12_judged_11 : decode cX12_judged 11 = .ok (.ireturn, 1) := by decide +kernel
theorem dX12_judged_12 : decode cX12_judged 12 = .ok (.aload_n 0, 1) := by decide +kernel
theorem dX12_judged_13 : decode cX12_judged 13 = .ok (.getfield 58, 3) := by decide +kernel
theorem dX12_judged_16 : decode cX12_judged 16 = .ok (.aload_n 0, 1) := by decide +kernel
theorem dX12_judged_17 : decode cX12_judged 17 = .ok (.getfield 19, 3) := by decide +kernel
theorem dX12_judged_20 : decode cX12_judged 20 = .ok (.invokevirtual 285, 3) := by decide +kernel
theorem dX12_judged_23 : decode cX12_judged 23 = .ok (.iconst 0, 1) := by decide +kernel
theorem dX12_judged_24 : decode cX12_judged 24 = .ok (.istore_n 2, 1) := by decide +kernel
theorem dX12_judged_25 : decode cX12_judged 25 = .ok (.iconst (-1), 1) := by decide +kernel
theorem dX12_judged_26 : decode cX12_judged 26 = .ok (.istore_n 3, 1) := by decide +kernel
theorem dX12_judged_27 : decode cX12_judged 27 = .ok (.iconst (-1), 1) := by decide +kernel
theorem dX12_judged_28 : decode cX12_judged 28 = .ok (.istore 4, 2) := by decide +kernel
theorem dX12_judged_30 : decode cX12_judged 30 = .ok (.iconst 0, 1) := by decide +kernel
theorem dX12_judged_31 : decode cX12_judged 31 = .ok (.istore 5, 2) := by decide +kernel
theorem dX12_judged_33 : decode cX12_judged 33 = .ok (.iload 5, 2) := by decide +kernel
theorem dX12_judged_35 : decode cX12_judged 35 = .ok (.aload_n 0, 1) := by decide +kernel
theorem dX12_judged_36 : decode cX12_judged 36 = .ok (.getfield 86, 3) := by decide +kernel
theorem dX12_judged_39 : decode cX12_judged 39 = .ok (.if_icmp .ge 79, 3) := by decide +kernel
theorem dX12_judged_42 : decode cX12_judged 42 = .ok (.aload_n 0, 1) := by decide +kernel
theorem dX12_judged_43 : decode cX12_judged 43 = .ok (.aload_n 0, 1) := by decide +kernel
theorem dX12_judged_44 : decode cX12_judged 44 = .ok (.getfield 49, 3) := by decide +kernel
theorem dX12_judged_47 : decode cX12_judged 47 = .ok (.iload 5, 2) := by decide +kernel
theorem dX12_judged_49 : decode cX12_judged 49 = .ok (.iaload, 1) := by decide +kernel
theorem dX12_judged_50 : decode cX12_judged 50 = .ok (.invokevirtual 287, 3) := by decide +kernel
theorem dX12_judged_53 : decode cX12_judged 53 = .ok (.ifCond .ne 18, 3) := by decide +kernel
theorem dX12_judged_56 : decode cX12_judged 56 = .ok (.iload_n 3, 1) := by decide +kernel
theorem dX12_judged_57 : decode cX12_judged 57 = .ok (.iconst (-1), 1) := by decide +kernel
theorem dX12_judged_58 : decode cX12_judged 58 = .ok (.if_icmp .ne 8, 3) := by decide +kernel
theorem dX12_judged_61 : decode cX12_judged 61 = .ok (.iload 5, 2) := by decide +kernel
theorem dX12_judged_63 : decode cX12_judged 63 = .ok (.goto 4, 3) := by decide +kernel
theorem dX12_judged_66 : decode cX12_judged 66 = .ok (.iload_n 3, 1) := by decide +kernel
theorem dX12_judged_67 : decode cX12_judged 67 = .ok (.istore_n 3, 1) := by decide +kernel
theorem dX12_judged_68 : decode cX12_judged 68 = .ok (.goto 44, 3) := by decide +kernel
theorem dX12_judged_71 : decode cX12_judged 71 = .ok (.aload_n 0, 1) := by decide +kernel
theorem dX12_judged_72 : decode cX12_judged 72 = .ok (.getfield 49, 3) := by decide +kernel
theorem dX12_judged_75 : decode cX12_judged 75 = .ok (.iload 5, 2) := by decide +kernel
theorem dX12_judged_77 : decode cX12_judged 77 = .ok (.iaload, 1) := by decide +kernel
theorem dX12_judged_78 : decode cX12_judged 78 = .ok (.invokestatic 290, 3) := by decide +kernel
theorem dX12_judged_81 : decode cX12_judged 81 = .ok (.iconst 2, 1) := by decide +kernel
theorem dX12_judged_82 : decode cX12_judged 82 = .ok (.if_icmp .ne 9, 3) := by decide +kernel
theorem dX12_judged_85 : decode cX12_judged 85 = .ok (.iload_n 2, 1) := by decide +kernel
theorem dX12_judged_86 : decode cX12_judged 86 = .ok (.iconst 1, 1) := by decide +kernel
theorem dX12_judged_87 : decode cX12_judged 87 = .ok (.iadd, 1) := by decide +kernel
theorem dX12_judged_88 : decode cX12_judged 88 = .ok (.iconst 4, 1) := by decide +kernel
theorem dX12_judged_89 : decode cX12_judged 89 = .ok (.irem, 1) := by decide +kernel
theorem dX12_judged_90 : decode cX12_judged 90 = .ok (.istore_n 2, 1) := by decide +kernel
theorem dX12_judged_91 : decode cX12_judged 91 = .ok (.iload 4, 2) := by decide +kernel
theorem dX12_judged_93 : decode cX12_judged 93 = .ok (.iconst (-1), 1) := by decide +kernel
theorem dX12_judged_94 : decode cX12_judged 94 = .ok (.if_icmp .ne 18, 3) := by decide +kernel
theorem dX12_judged_97 : decode cX12_judged 97 = .ok (.aload_n 0, 1) := by decide +kernel
theorem dX12_judged_98 : decode cX12_judged 98 = .ok (.getfield 58, 3) := by decide +kernel
theorem dX12_judged_101 : decode cX12_judged 101 = .ok (.iload_n 2, 1) := by decide +kernel
theorem dX12_judged_102 : decode cX12_judged 102 = .ok (.invokevirtual 293, 3) := by decide +kernel
theorem dX12_judged_105 : decode cX12_judged 105 = .ok (.ifCond .eq 7, 3) := by decide +kernel
theorem dX12_judged_108 : decode cX12_judged 108 = .ok (.iload 5, 2) := by decide +kernel
theorem dX12_judged_110 : decode cX12_judged 110 = .ok (.istore 4, 2) := by decide +kernel
theorem dX12_judged_112 : decode cX12_judged 112 = .ok (.iinc 5 1, 3) := by decide +kernel
theorem dX12_judged_115 : decode cX12_judged 115 = .ok (.goto (-82), 3) := by decide +kernel
theorem dX12_judged_118 : decode cX12_judged 118 = .ok (.iload_n 1, 1) := by decide +kernel
theorem dX12_judged_119 : decode cX12_judged 119 = .ok (.iconst 2, 1) := by decide +kernel
theorem dX12_judged_120 : decode cX12_judged 120 = .ok (.if_icmp .ne 11, 3) := by decide +kernel
theorem dX12_judged_123 : decode cX12_judged 123 = .ok (.aload_n 0, 1) := by decide +kernel
theorem dX12_judged_124 : decode cX12_judged 124 = .ok (.getfield 58, 3) := by decide +kernel
theorem dX12_judged_127 : decode cX12_judged 127 = .ok (.invokevirtual 296, 3) := by decide +kernel
theorem dX12_judged_130 : decode cX12_judged 130 = .ok (.ireturn, 1) := by decide +kernel
theorem dX12_judged_131 : decode cX12_judged 131 = .ok (.iload_n 1, 1) := by decide +kernel
theorem dX12_judged_132 : decode cX12_judged 132 = .ok (.ifCond .ne 7, 3) := by decide +kernel
theorem dX12_judged_135 : decode cX12_judged 135 = .ok (.iload_n 3, 1) := by decide +kernel
theorem dX12_judged_136 : decode cX12_judged 136 = .ok (.goto 5, 3) := by decide +kernel
theorem dX12_judged_139 : decode cX12_judged 139 = .ok (.iload 4, 2) := by decide +kernel
theorem dX12_judged_141 : decode cX12_judged 141 = .ok (.ireturn, 1) := by decide +kernel
theorem dX12_lineOf_0 : decode cX12_lineOf 0 = .ok (.iload_n 0, 1) := by decide +kernel
theorem dX12_lineOf_1 : decode cX12_lineOf 1 = .ok (.iconst 4, 1) := by decide +kernel
theorem dX12_lineOf_2 : decode cX12_lineOf 2 = .ok (.iload_n 1, 1) := by decide +kernel
theorem dX12_lineOf_3 : decode cX12_lineOf 3 = .ok (.imul, 1) := by decide +kernel
theorem dX12_lineOf_4 : decode cX12_lineOf 4 = .ok (.iadd, 1) := by decide +kernel
theorem dX12_lineOf_5 : decode cX12_lineOf 5 = .ok (.bipush 32, 2) := by decide +kernel
theorem dX12_lineOf_7 : decode cX12_lineOf 7 = .ok (.iload_n 2, 1) := by decide +kernel
theorem dX12_lineOf_8 : decode cX12_lineOf 8 = .ok (.imul, 1) := by decide +kernel
theorem dX12_lineOf_9 : decode cX12_lineOf 9 = .ok (.iadd, 1) := by decide +kernel
theorem dX12_lineOf_10 : decode cX12_lineOf 10 = .ok (.ireturn, 1) := by decide +kernel
theorem dX12_deed_0 : decode cX12_deed 0 = .ok (.iload_n 0, 1) := by decide +kernel
theorem dX12_deed_1 : decode cX12_deed 1 = .ok (.iconst 3, 1) := by decide +kernel
theorem dX12_deed_2 : decode cX12_deed 2 = .ok (.iand, 1) := by decide +kernel
theorem dX12_deed_3 : decode cX12_deed 3 = .ok (.ireturn, 1) := by decide +kernel
theorem dX12_keepVow_0 : decode cX12_keepVow 0 = .ok (.iload_n 1, 1) := by decide +kernel
theorem dX12_keepVow_1 : decode cX12_keepVow 1 = .ok (.iconst 2, 1) := by decide +kernel
theorem dX12_keepVow_2 : decode cX12_keepVow 2 = .ok (.ishr, 1) := by decide +kernel
theorem dX12_keepVow_3 : decode cX12_keepVow 3 = .ok (.bipush 7, 2) := by decide +kernel
theorem dX12_keepVow_5 : decode cX12_keepVow 5 = .ok (.iand, 1) := by decide +kernel
theorem dX12_keepVow_6 : decode cX12_keepVow 6 = .ok (.istore_n 2, 1) := by decide +kernel
theorem dX12_keepVow_7 : decode cX12_keepVow 7 = .ok (.iload_n 1, 1) := by decide +kernel
theorem dX12_keepVow_8 : decode cX12_keepVow 8 = .ok (.iconst 5, 1) := by decide +kernel
theorem dX12_keepVow_9 : decode cX12_keepVow 9 = .ok (.ishr, 1) := by decide +kernel
theorem dX12_keepVow_10 : decode cX12_keepVow 10 = .ok (.bipush 7, 2) := by decide +kernel
theorem dX12_keepVow_12 : decode cX12_keepVow 12 = .ok (.iand, 1) := by decide +kernel
theorem dX12_keepVow_13 : decode cX12_keepVow 13 = .ok (.istore_n 3, 1) := by decide +kernel
theorem dX12_keepVow_14 : decode cX12_keepVow 14 = .ok (.iload_n 1, 1) := by decide +kernel
theorem dX12_keepVow_15 : decode cX12_keepVow 15 = .ok (.invokestatic 290, 3) := by decide +kernel
theorem dX12_keepVow_18 : decode cX12_keepVow 18 = .ok (.iconst 2, 1) := by decide +kernel
theorem dX12_keepVow_19 : decode cX12_keepVow 19 = .ok (.if_icmp .ne 5, 3) := by decide +kernel
theorem dX12_keepVow_22 : decode cX12_keepVow 22 = .ok (.iconst 1, 1) := by decide +kernel
theorem dX12_keepVow_23 : decode cX12_keepVow 23 = .ok (.ireturn, 1) := by decide +kernel
theorem dX12_keepVow_24 : decode cX12_keepVow 24 = .ok (.iload_n 1, 1) := by decide +kernel
theorem dX12_keepVow_25 : decode cX12_keepVow 25 = .ok (.invokestatic 290, 3) := by decide +kernel
theorem dX12_keepVow_28 : decode cX12_keepVow 28 = .ok (.iconst 1, 1) := by decide +kernel
theorem dX12_keepVow_29 : decode cX12_keepVow 29 = .ok (.if_icmp .ne 12, 3) := by decide +kernel
theorem dX12_keepVow_32 : decode cX12_keepVow 32 = .ok (.aload_n 0, 1) := by decide +kernel
theorem dX12_keepVow_33 : decode cX12_keepVow 33 = .ok (.getfield 58, 3) := by decide +kernel
theorem dX12_keepVow_36 : decode cX12_keepVow 36 = .ok (.iload_n 2, 1) := by decide +kernel
theorem dX12_keepVow_37 : decode cX12_keepVow 37 = .ok (.invokevirtual 299, 3) := by decide +kernel
theorem dX12_keepVow_40 : decode cX12_keepVow 40 = .ok (.ireturn, 1) := by decide +kernel
theorem dX12_keepVow_41 : decode cX12_keepVow 41 = .ok (.aload_n 0, 1) := by decide +kernel
theorem dX12_keepVow_42 : decode cX12_keepVow 42 = .ok (.getfield 58, 3) := by decide +kernel
theorem dX12_keepVow_45 : decode cX12_keepVow 45 = .ok (.iload_n 2, 1) := by decide +kernel
theorem dX12_keepVow_46 : decode cX12_keepVow 46 = .ok (.iload_n 3, 1) := by decide +kernel
theorem dX12_keepVow_47 : decode cX12_keepVow 47 = .ok (.invokevirtual 245, 3) := by decide +kernel
theorem dX12_keepVow_50 : decode cX12_keepVow 50 = .ok (.ifCond .ne 5, 3) := by decide +kernel
theorem dX12_keepVow_53 : decode cX12_keepVow 53 = .ok (.iconst 0, 1) := by decide +kernel
theorem dX12_keepVow_54 : decode cX12_keepVow 54 = .ok (.ireturn, 1) := by decide +kernel
theorem dX12_keepVow_55 : decode cX12_keepVow 55 = .ok (.aload_n 0, 1) := by decide +kernel
theorem dX12_keepVow_56 : decode cX12_keepVow 56 = .ok (.getfield 58, 3) := by decide +kernel
theorem dX12_keepVow_59 : decode cX12_keepVow 59 = .ok (.iload_n 2, 1) := by decide +kernel
theorem dX12_keepVow_60 : decode cX12_keepVow 60 = .ok (.iload_n 3, 1) := by decide +kernel
theorem dX12_keepVow_61 : decode cX12_keepVow 61 = .ok (.invokevirtual 302, 3) := by decide +kernel
theorem dX12_keepVow_64 : decode cX12_keepVow 64 = .ok (.iconst 1, 1) := by decide +kernel
theorem dX12_keepVow_65 : decode cX12_keepVow 65 = .ok (.ireturn, 1) := by decide +kernel
theorem dX12_worn_0 : decode cX12_worn 0 = .ok (.aload_n 0, 1) := by decide +kernel
theorem dX12_worn_1 : decode cX12_worn 1 = .ok (.iload_n 1, 1) := by decide +kernel
theorem dX12_worn_2 : decode cX12_worn 2 = .ok (.iload_n 2, 1) := by decide +kernel
theorem dX12_worn_3 : decode cX12_worn 3 = .ok (.invokevirtual 238, 3) := by decide +kernel
theorem dX12_worn_6 : decode cX12_worn 6 = .ok (.ifCond .eq 12, 3) := by decide +kernel
theorem dX12_worn_9 : decode cX12_worn 9 = .ok (.aload_n 0, 1) := by decide +kernel
theorem dX12_worn_10 : decode cX12_worn 10 = .ok (.iload_n 1, 1) := by decide +kernel
theorem dX12_worn_11 : decode cX12_worn 11 = .ok (.iload_n 2, 1) := by decide +kernel
theorem dX12_worn_12 : decode cX12_worn 12 = .ok (.invokevirtual 306, 3) := by decide +kernel
theorem dX12_worn_15 : decode cX12_worn 15 = .ok (.goto 4, 3) := by decide +kernel
theorem dX12_worn_18 : decode cX12_worn 18 = .ok (.iconst (-1), 1) := by decide +kernel
theorem dX12_worn_19 : decode cX12_worn 19 = .ok (.ireturn, 1) := by decide +kernel
theorem dX12_wearing_0 : decode cX12_wearing 0 = .ok (.aload_n 0, 1) := by decide +kernel
theorem dX12_wearing_1 : decode cX12_wearing 1 = .ok (.getfield 19, 3) := by decide +kernel
theorem dX12_wearing_4 : decode cX12_wearing 4 = .ok (.iload_n 1, 1) := by decide +kernel
theorem dX12_wearing_5 : decode cX12_wearing 5 = .ok (.iload_n 2, 1) := by decide +kernel
theorem dX12_wearing_6 : decode cX12_wearing 6 = .ok (.invokevirtual 309, 3) := by decide +kernel
theorem dX12_wearing_9 : decode cX12_wearing 9 = .ok (.istore_n 3, 1) := by decide +kernel
theorem dX12_wearing_10 : decode cX12_wearing 10 = .ok (.iload_n 3, 1) := by decide +kernel
theorem dX12_wearing_11 : decode cX12_wearing 11 = .ok (.ifCond .ne 5, 3) := by decide +kernel
theorem dX12_wearing_14 : decode cX12_wearing 14 = .ok (.iconst 0, 1) := by decide +kernel
theorem dX12_wearing_15 : decode cX12_wearing 15 = .ok (.ireturn, 1) := by decide +kernel
theorem dX12_wearing_16 : decode cX12_wearing 16 = .ok (.iconst 1, 1) := by decide +kernel
theorem dX12_wearing_17 : decode cX12_wearing 17 = .ok (.iload_n 1, 1) := by decide +kernel
theorem dX12_wearing_18 : decode cX12_wearing 18 = .ok (.ishl, 1) := by decide +kernel
theorem dX12_wearing_19 : decode cX12_wearing 19 = .ok (.iconst 1, 1) := by decide +kernel
theorem dX12_wearing_20 : decode cX12_wearing 20 = .ok (.iload_n 2, 1) := by decide +kernel
theorem dX12_wearing_21 : decode cX12_wearing 21 = .ok (.ishl, 1) := by decide +kernel
theorem dX12_wearing_22 : decode cX12_wearing 22 = .ok (.ior, 1) := by decide +kernel
theorem dX12_wearing_23 : decode cX12_wearing 23 = .ok (.istore 4, 2) := by decide +kernel
theorem dX12_wearing_25 : decode cX12_wearing 25 = .ok (.iconst 0, 1) := by decide +kernel
theorem dX12_wearing_26 : decode cX12_wearing 26 = .ok (.istore 5, 2) := by decide +kernel
theorem dX12_wearing_28 : decode cX12_wearing 28 = .ok (.iconst 0, 1) := by decide +kernel
theorem dX12_wearing_29 : decode cX12_wearing 29 = .ok (.istore 6, 2) := by decide +kernel
theorem dX12_wearing_31 : decode cX12_wearing 31 = .ok (.iload 6, 2) := by decide +kernel
theorem dX12_wearing_33 : decode cX12_wearing 33 = .ok (.sipush 400, 3) := by decide +kernel
theorem dX12_wearing_36 : decode cX12_wearing 36 = .ok (.if_icmp .ge 49, 3) := by decide +kernel
theorem dX12_wearing_39 : decode cX12_wearing 39 = .ok (.iload 5, 2) := by decide +kernel
theorem dX12_wearing_41 : decode cX12_wearing 41 = .ok (.aload_n 0, 1) := by decide +kernel
theorem dX12_wearing_42 : decode cX12_wearing 42 = .ok (.getfield 19, 3) := by decide +kernel
theorem dX12_wearing_45 : decode cX12_wearing 45 = .ok (.iload 4, 2) := by decide +kernel
theorem dX12_wearing_47 : decode cX12_wearing 47 = .ok (.aload_n 0, 1) := by decide +kernel
theorem dX12_wearing_48 : decode cX12_wearing 48 = .ok (.getfield 38, 3) := by decide +kernel
theorem dX12_wearing_51 : decode cX12_wearing 51 = .ok (.getfield 167, 3) := by decide +kernel
theorem dX12_wearing_54 : decode cX12_wearing 54 = .ok (.iload 6, 2) := by decide +kernel
theorem dX12_wearing_56 : decode cX12_wearing 56 = .ok (.iadd, 1) := by decide +kernel
theorem dX12_wearing_57 : decode cX12_wearing 57 = .ok (.iconst 4, 1) := by decide +kernel
theorem dX12_wearing_58 : decode cX12_wearing 58 = .ok (.irem, 1) := by decide +kernel
theorem dX12_wearing_59 : decode cX12_wearing 59 = .ok (.invokevirtual 184, 3) := by decide +kernel
theorem dX12_wearing_62 : decode cX12_wearing 62 = .ok (.bipush 10, 2) := by decide +kernel
theorem dX12_wearing_64 : decode cX12_wearing 64 = .ok (.idiv, 1) := by decide +kernel
theorem dX12_wearing_65 : decode cX12_wearing 65 = .ok (.iadd, 1) := by decide +kernel
theorem dX12_wearing_66 : decode cX12_wearing 66 = .ok (.istore 5, 2) := by decide +kernel
theorem dX12_wearing_68 : decode cX12_wearing 68 = .ok (.iload 5, 2) := by decide +kernel
theorem dX12_wearing_70 : decode cX12_wearing 70 = .ok (.iload_n 3, 1) := by decide +kernel
theorem dX12_wearing_71 : decode cX12_wearing 71 = .ok (.if_icmp .lt 8, 3) := by decide +kernel
theorem dX12_wearing_74 : decode cX12_wearing 74 = .ok (.iload 6, 2) := by decide +kernel
theorem dX12_wearing_76 : decode cX12_wearing 76 = .ok (.iconst 1, 1) := by decide +kernel
theorem dX12_wearing_77 : decode cX12_wearing 77 = .ok (.iadd, 1) := by decide +kernel
theorem dX12_wearing_78 : decode cX12_wearing 78 = .ok (.ireturn, 1) := by decide +kernel
theorem dX12_wearing_79 : decode cX12_wearing 79 = .ok (.iinc 6 1, 3) := by decide +kernel
theorem dX12_wearing_82 : decode cX12_wearing 82 = .ok (.goto (-51), 3) := by decide +kernel
theorem dX12_wearing_85 : decode cX12_wearing 85 = .ok (.iconst (-1), 1) := by decide +kernel
theorem dX12_wearing_86 : decode cX12_wearing 86 = .ok (.ireturn, 1) := by decide +kernel
theorem dX12_love_0 : decode cX12_love 0 = .ok (.aload_n 0, 1) := by decide +kernel
theorem dX12_love_1 : decode cX12_love 1 = .ok (.iload_n 1, 1) := by decide +kernel
theorem dX12_love_2 : decode cX12_love 2 = .ok (.invokevirtual 154, 3) := by decide +kernel
theorem dX12_love_5 : decode cX12_love 5 = .ok (.ifCond .ne 5, 3) := by decide +kernel
theorem dX12_love_8 : decode cX12_love 8 = .ok (.iconst (-1), 1) := by decide +kernel
theorem dX12_love_9 : decode cX12_love 9 = .ok (.ireturn, 1) := by decide +kernel
theorem dX12_love_10 : decode cX12_love 10 = .ok (.iconst (-1), 1) := by decide +kernel
theorem dX12_love_11 : decode cX12_love 11 = .ok (.istore_n 2, 1) := by decide +kernel
theorem dX12_love_12 : decode cX12_love 12 = .ok (.sipush 401, 3) := by decide +kernel
theorem dX12_love_15 : decode cX12_love 15 = .ok (.istore_n 3, 1) := by decide +kernel
theorem dX12_love_16 : decode cX12_love 16 = .ok (.iconst 0, 1) := by decide +kernel
theorem dX12_love_17 : decode cX12_love 17 = .ok (.istore 4, 2) := by decide +kernel
theorem dX12_love_19 : decode cX12_love 19 = .ok (.iload 4, 2) := by decide +kernel
theorem dX12_love_21 : decode cX12_love 21 = .ok (.aload_n 0, 1) := by decide +kernel
theorem dX12_love_22 : decode cX12_love 22 = .ok (.getfield 19, 3) := by decide +kernel
theorem dX12_love_25 : decode cX12_love 25 = .ok (.getfield 151, 3) := by decide +kernel
theorem dX12_love_28 : decode cX12_love 28 = .ok (.if_icmp .ge 45, 3) := by decide +kernel
theorem dX12_love_31 : decode cX12_love 31 = .ok (.iload 4, 2) := by decide +kernel
theorem dX12_love_33 : decode cX12_love 33 = .ok (.iload_n 1, 1) := by decide +kernel
theorem dX12_love_34 : decode cX12_love 34 = .ok (.if_icmp .ne 7, 3) := by decide +kernel
theorem dX12_love_37 : decode cX12_love 37 = .ok (.iconst (-1), 1) := by decide +kernel
theorem dX12_love_38 : decode cX12_love 38 = .ok (.goto 10, 3) := by decide +kernel
theorem dX12_love_41 : decode cX12_love 41 = .ok (.aload_n 0, 1) := by decide +kernel
theorem dX12_love_42 : decode cX12_love 42 = .ok (.iload_n 1, 1) := by decide +kernel
theorem dX12_love_43 : decode cX12_love 43 = .ok (.iload 4, 2) := by decide +kernel
theorem dX12_love_45 : decode cX12_love 45 = .ok (.invokevirtual 306, 3) := by decide +kernel
theorem dX12_love_48 : decode cX12_love 48 = .ok (.istore 5, 2) := by decide +kernel
theorem dX12_love_50 : decode cX12_love 50 = .ok (.iload 5, 2) := by decide +kernel
theorem dX12_love_52 : decode cX12_love 52 = .ok (.ifCond .le 15, 3) := by decide +kernel
theorem dX12_love_55 : decode cX12_love 55 = .ok (.iload 5, 2) := by decide +kernel
theorem dX12_love_57 : decode cX12_love 57 = .ok (.iload_n 3, 1) := by decide +kernel
theorem dX12_love_58 : decode cX12_love 58 = .ok (.if_icmp .ge 9, 3) := by decide +kernel
theorem dX12_love_61 : decode cX12_love 61 = .ok (.iload 5, 2) := by decide +kernel
theorem dX12_love_63 : decode cX12_love 63 = .ok (.istore_n 3, 1) := by decide +kernel
theorem dX12_love_64 : decode cX12_love 64 = .ok (.iload 4, 2) := by decide +kernel
theorem dX12_love_66 : decode cX12_love 66 = .ok (.istore_n 2, 1) := by decide +kernel
theorem dX12_love_67 : decode cX12_love 67 = .ok (.iinc 4 1, 3) := by decide +kernel
theorem dX12_love_70 : decode cX12_love 70 = .ok (.goto (-51), 3) := by decide +kernel
theorem dX12_love_73 : decode cX12_love 73 = .ok (.iload_n 2, 1) := by decide +kernel
theorem dX12_love_74 : decode cX12_love 74 = .ok (.ireturn, 1) := by decide +kernel
theorem dX12_hyphen_0 : decode cX12_hyphen 0 = .ok (.aload_n 0, 1) := by decide +kernel
theorem dX12_hyphen_1 : decode cX12_hyphen 1 = .ok (.iload_n 1, 1) := by decide +kernel
theorem dX12_hyphen_2 : decode cX12_hyphen 2 = .ok (.invokevirtual 154, 3) := by decide +kernel
theorem dX12_hyphen_5 : decode cX12_hyphen 5 = .ok (.ifCond .ne 5, 3) := by decide +kernel
theorem dX12_hyphen_8 : decode cX12_hyphen 8 = .ok (.iconst (-1), 1) := by decide +kernel
theorem dX12_hyphen_9 : decode cX12_hyphen 9 = .ok (.ireturn, 1) := by decide +kernel
theorem dX12_hyphen_10 : decode cX12_hyphen 10 = .ok (.aload_n 0, 1) := by decide +kernel
theorem dX12_hyphen_11 : decode cX12_hyphen 11 = .ok (.invokevirtual 177, 3) := by decide +kernel
theorem dX12_hyphen_14 : decode cX12_hyphen 14 = .ok (.getfield 181, 3) := by decide +kernel
theorem dX12_hyphen_17 : decode cX12_hyphen 17 = .ok (.iload_n 1, 1) := by decide +kernel
theorem dX12_hyphen_18 : decode cX12_hyphen 18 = .ok (.iaload, 1) := by decide +kernel
theorem dX12_hyphen_19 : decode cX12_hyphen 19 = .ok (.istore_n 2, 1) := by decide +kernel
theorem dX12_hyphen_20 : decode cX12_hyphen 20 = .ok (.iload_n 2, 1) := by decide +kernel
theorem dX12_hyphen_21 : decode cX12_hyphen 21 = .ok (.invokestatic 312, 3) := by decide +kernel
theorem dX12_hyphen_24 : decode cX12_hyphen 24 = .ok (.iconst 1, 1) := by decide +kernel
theorem dX12_hyphen_25 : decode cX12_hyphen 25 = .ok (.isub, 1) := by decide +kernel
theorem dX12_hyphen_26 : decode cX12_hyphen 26 = .ok (.istore_n 3, 1) := by decide +kernel
theorem dX12_hyphen_27 : decode cX12_hyphen 27 = .ok (.iconst 0, 1) := by decide +kernel
theorem dX12_hyphen_28 : decode cX12_hyphen 28 = .ok (.istore 4, 2) := by decide +kernel
theorem dX12_hyphen_30 : decode cX12_hyphen 30 = .ok (.iload 4, 2) := by decide +kernel
theorem dX12_hyphen_32 : decode cX12_hyphen 32 = .ok (.aload_n 0, 1) := by decide +kernel
theorem dX12_hyphen_33 : decode cX12_hyphen 33 = .ok (.getfield 19, 3) := by decide +kernel
theorem dX12_hyphen_36 : decode cX12_hyphen 36 = .ok (.getfield 151, 3) := by decide +kernel
theorem dX12_hyphen_39 : decode cX12_hyphen 39 = .ok (.if_icmp .ge 34, 3) := by decide +kernel
theorem dX12_hyphen_42 : decode cX12_hyphen 42 = .ok (.iload_n 2, 1) := by decide +kernel
theorem dX12_hyphen_43 : decode cX12_hyphen 43 = .ok (.iload 4, 2) := by decide +kernel
theorem dX12_hyphen_45 : decode cX12_hyphen 45 = .ok (.ishr, 1) := by decide +kernel
theorem dX12_hyphen_46 : decode cX12_hyphen 46 = .ok (.iconst 1, 1) := by decide +kernel
theorem dX12_hyphen_47 : decode cX12_hyphen 47 = .ok (.iand, 1) := by decide +kernel
theorem dX12_hyphen_48 : decode cX12_hyphen 48 = .ok (.ifCond .eq 19, 3) := by decide +kernel
theorem dX12_hyphen_51 : decode cX12_hyphen 51 = .ok (.iload_n 3, 1) := by decide +kernel
theorem dX12_hyphen_52 : decode cX12_hyphen 52 = .ok (.aload_n 0, 1) := by decide +kernel
theorem dX12_hyphen_53 : decode cX12_hyphen 53 = .ok (.getfield 19, 3) := by decide +kernel
theorem dX12_hyphen_56 : decode cX12_hyphen 56 = .ok (.getfield 158, 3) := by decide +kernel
theorem dX12_hyphen_59 : decode cX12_hyphen 59 = .ok (.iload 4, 2) := by decide +kernel
theorem dX12_hyphen_61 : decode cX12_hyphen 61 = .ok (.aaload, 1) := by decide +kernel
theorem dX12_hyphen_62 : decode cX12_hyphen 62 = .ok (.getfield 317, 3) := by decide +kernel
theorem dX12_hyphen_65 : decode cX12_hyphen 65 = .ok (.iadd, 1) := by decide +kernel
theorem dX12_hyphen_66 : decode cX12_hyphen 66 = .ok (.istore_n 3, 1) := by decide +kernel
theorem dX12_hyphen_67 : decode cX12_hyphen 67 = .ok (.iinc 4 1, 3) := by decide +kernel
theorem dX12_hyphen_70 : decode cX12_hyphen 70 = .ok (.goto (-40), 3) := by decide +kernel
theorem dX12_hyphen_73 : decode cX12_hyphen 73 = .ok (.iload_n 3, 1) := by decide +kernel
theorem dX12_hyphen_74 : decode cX12_hyphen 74 = .ok (.ireturn, 1) := by decide +kernel
theorem dX12_match_0 : decode cX12_match 0 = .ok (.iload_n 1, 1) := by decide +kernel
theorem dX12_match_1 : decode cX12_match 1 = .ok (.ifCond .lt 16, 3) := by decide +kernel
theorem dX12_match_4 : decode cX12_match 4 = .ok (.iload_n 1, 1) := by decide +kernel
theorem dX12_match_5 : decode cX12_match 5 = .ok (.iconst 3, 1) := by decide +kernel
theorem dX12_match_6 : decode cX12_match 6 = .ok (.aload_n 0, 1) := by decide +kernel
theorem dX12_match_7 : decode cX12_match 7 = .ok (.getfield 19, 3) := by decide +kernel
theorem dX12_match_10 : decode cX12_match 10 = .ok (.getfield 151, 3) := by decide +kernel
theorem dX12_match_13 : decode cX12_match 13 = .ok (.iadd, 1) := by decide +kernel
theorem dX12_match_14 : decode cX12_match 14 = .ok (.if_icmp .lt 6, 3) := by decide +kernel
theorem dX12_match_17 : decode cX12_match 17 = .ok (.bipush (-2), 2) := by decide +kernel
theorem dX12_match_19 : decode cX12_match 19 = .ok (.ireturn, 1) := by decide +kernel
theorem dX12_match_20 : decode cX12_match 20 = .ok (.aload_n 0, 1) := by decide +kernel
theorem dX12_match_21 : decode cX12_match 21 = .ok (.getfield 67, 3) := by decide +kernel
theorem dX12_match_24 : decode cX12_match 24 = .ok (.aload_n 0, 1) := by decide +kernel
theorem dX12_match_25 : decode cX12_match 25 = .ok (.getfield 19, 3) := by decide +kernel
theorem dX12_match_28 : decode cX12_match 28 = .ok (.invokevirtual 320, 3) := by decide +kernel
theorem dX12_match_31 : decode cX12_match 31 = .ok (.aload_n 0, 1) := by decide +kernel
theorem dX12_match_32 : decode cX12_match 32 = .ok (.getfield 67, 3) := by decide +kernel
theorem dX12_match_35 : decode cX12_match 35 = .ok (.getfield 323, 3) := by decide +kernel
theorem dX12_match_38 : decode cX12_match 38 = .ok (.ifCond .ne 6, 3) := by decide +kernel
theorem dX12_match_41 : decode cX12_match 41 = .ok (.bipush (-2), 2) := by decide +kernel
theorem dX12_match_43 : decode cX12_match 43 = .ok (.ireturn, 1) := by decide +kernel
theorem dX12_match_44 : decode cX12_match 44 = .ok (.iload_n 1, 1) := by decide +kernel
theorem dX12_match_45 : decode cX12_match 45 = .ok (.tableswitch 51 0 2 #[27, 35, 43], 27) := by decide +kernel
theorem dX12_match_72 : decode cX12_match 72 = .ok (.aload_n 0, 1) := by decide +kernel
theorem dX12_match_73 : decode cX12_match 73 = .ok (.getfield 67, 3) := by decide +kernel
theorem dX12_match_76 : decode cX12_match 76 = .ok (.getfield 326, 3) := by decide +kernel
theorem dX12_match_79 : decode cX12_match 79 = .ok (.ireturn, 1) := by decide +kernel
theorem dX12_match_80 : decode cX12_match 80 = .ok (.aload_n 0, 1) := by decide +kernel
theorem dX12_match_81 : decode cX12_match 81 = .ok (.getfield 67, 3) := by decide +kernel
theorem dX12_match_84 : decode cX12_match 84 = .ok (.getfield 329, 3) := by decide +kernel
theorem dX12_match_87 : decode cX12_match 87 = .ok (.ireturn, 1) := by decide +kernel
theorem dX12_match_88 : decode cX12_match 88 = .ok (.aload_n 0, 1) := by decide +kernel
theorem dX12_match_89 : decode cX12_match 89 = .ok (.getfield 67, 3) := by decide +kernel
theorem dX12_match_92 : decode cX12_match 92 = .ok (.getfield 323, 3) := by decide +kernel
theorem dX12_match_95 : decode cX12_match 95 = .ok (.ireturn, 1) := by decide +kernel
theorem dX12_match_96 : decode cX12_match 96 = .ok (.aload_n 0, 1) := by decide +kernel
theorem dX12_match_97 : decode cX12_match 97 = .ok (.getfield 67, 3) := by decide +kernel
theorem dX12_match_100 : decode cX12_match 100 = .ok (.getfield 332, 3) := by decide +kernel
theorem dX12_match_103 : decode cX12_match 103 = .ok (.iload_n 1, 1) := by decide +kernel
theorem dX12_match_104 : decode cX12_match 104 = .ok (.iconst 3, 1) := by decide +kernel
theorem dX12_match_105 : decode cX12_match 105 = .ok (.isub, 1) := by decide +kernel
theorem dX12_match_106 : decode cX12_match 106 = .ok (.iaload, 1) := by decide +kernel
theorem dX12_match_107 : decode cX12_match 107 = .ok (.ireturn, 1) := by decide +kernel
theorem dX12_chain_0 : decode cX12_chain 0 = .ok (.aload_n 0, 1) := by decide +kernel
theorem dX12_chain_1 : decode cX12_chain 1 = .ok (.iload_n 1, 1) := by decide +kernel
theorem dX12_chain_2 : decode cX12_chain 2 = .ok (.iload_n 2, 1) := by decide +kernel
theorem dX12_chain_3 : decode cX12_chain 3 = .ok (.invokevirtual 238, 3) := by decide +kernel
theorem dX12_chain_6 : decode cX12_chain 6 = .ok (.ifCond .eq 7, 3) := by decide +kernel
theorem dX12_chain_9 : decode cX12_chain 9 = .ok (.iload_n 3, 1) := by decide +kernel
theorem dX12_chain_10 : decode cX12_chain 10 = .ok (.ifCond .ge 5, 3) := by decide +kernel
theorem dX12_chain_13 : decode cX12_chain 13 = .ok (.iconst (-1), 1) := by decide +kernel
theorem dX12_chain_14 : decode cX12_chain 14 = .ok (.ireturn, 1) := by decide +kernel
theorem dX12_chain_15 : decode cX12_chain 15 = .ok (.aload_n 0, 1) := by decide +kernel
theorem dX12_chain_16 : decode cX12_chain 16 = .ok (.iload_n 2, 1) := by decide +kernel
theorem dX12_chain_17 : decode cX12_chain 17 = .ok (.invokevirtual 333, 3) := by decide +kernel
theorem dX12_chain_20 : decode cX12_chain 20 = .ok (.aload_n 0, 1) := by decide +kernel
theorem dX12_chain_21 : decode cX12_chain 21 = .ok (.getfield 83, 3) := by decide +kernel
theorem dX12_chain_24 : decode cX12_chain 24 = .ok (.iload_n 1, 1) := by decide +kernel
theorem dX12_chain_25 : decode cX12_chain 25 = .ok (.iaload, 1) := by decide +kernel
theorem dX12_chain_26 : decode cX12_chain 26 = .ok (.istore 4, 2) := by decide +kernel
theorem dX12_chain_28 : decode cX12_chain 28 = .ok (.iload 4, 2) := by decide +kernel
theorem dX12_chain_30 : decode cX12_chain 30 = .ok (.iconst (-1), 1) := by decide +kernel
theorem dX12_chain_31 : decode cX12_chain 31 = .ok (.if_icmp .ne 5, 3) := by decide +kernel
theorem dX12_chain_34 : decode cX12_chain 34 = .ok (.iconst (-1), 1) := by decide +kernel
theorem dX12_chain_35 : decode cX12_chain 35 = .ok (.ireturn, 1) := by decide +kernel
theorem dX12_chain_36 : decode cX12_chain 36 = .ok (.iload_n 3, 1) := by decide +kernel
theorem dX12_chain_37 : decode cX12_chain 37 = .ok (.ifCond .ne 9, 3) := by decide +kernel
theorem dX12_chain_40 : decode cX12_chain 40 = .ok (.iload 4, 2) := by decide +kernel
theorem dX12_chain_42 : decode cX12_chain 42 = .ok (.bipush 16, 2) := by decide +kernel
theorem dX12_chain_44 : decode cX12_chain 44 = .ok (.idiv, 1) := by decide +kernel
theorem dX12_chain_45 : decode cX12_chain 45 = .ok (.ireturn, 1) := by decide +kernel
theorem dX12_chain_46 : decode cX12_chain 46 = .ok (.iload 4, 2) := by decide +kernel
theorem dX12_chain_48 : decode cX12_chain 48 = .ok (.bipush 16, 2) := by decide +kernel
theorem dX12_chain_50 : decode cX12_chain 50 = .ok (.irem, 1) := by decide +kernel
theorem dX12_chain_51 : decode cX12_chain 51 = .ok (.istore 5, 2) := by decide +kernel
theorem dX12_chain_53 : decode cX12_chain 53 = .ok (.iload_n 3, 1) := by decide +kernel
theorem dX12_chain_54 : decode cX12_chain 54 = .ok (.iconst 1, 1) := by decide +kernel
theorem dX12_chain_55 : decode cX12_chain 55 = .ok (.if_icmp .ne 6, 3) := by decide +kernel
theorem dX12_chain_58 : decode cX12_chain 58 = .ok (.iload 5, 2) := by decide +kernel
theorem dX12_chain_60 : decode cX12_chain 60 = .ok (.ireturn, 1) := by decide +kernel
theorem dX12_chain_61 : decode cX12_chain 61 = .ok (.iload_n 3, 1) := by decide +kernel
theorem dX12_chain_62 : decode cX12_chain 62 = .ok (.iconst 2, 1) := by decide +kernel
theorem dX12_chain_63 : decode cX12_chain 63 = .ok (.isub, 1) := by decide +kernel
theorem dX12_chain_64 : decode cX12_chain 64 = .ok (.iload 5, 2) := by decide +kernel
theorem dX12_chain_66 : decode cX12_chain 66 = .ok (.if_icmp .gt 14, 3) := by decide +kernel
theorem dX12_chain_69 : decode cX12_chain 69 = .ok (.aload_n 0, 1) := by decide +kernel
theorem dX12_chain_70 : decode cX12_chain 70 = .ok (.iload_n 1, 1) := by decide +kernel
theorem dX12_chain_71 : decode cX12_chain 71 = .ok (.iload_n 3, 1) := by decide +kernel
theorem dX12_chain_72 : decode cX12_chain 72 = .ok (.iconst 2, 1) := by decide +kernel
theorem dX12_chain_73 : decode cX12_chain 73 = .ok (.isub, 1) := by decide +kernel
theorem dX12_chain_74 : decode cX12_chain 74 = .ok (.invokevirtual 336, 3) := by decide +kernel
theorem dX12_chain_77 : decode cX12_chain 77 = .ok (.goto 4, 3) := by decide +kernel
theorem dX12_chain_80 : decode cX12_chain 80 = .ok (.iconst (-1), 1) := by decide +kernel
theorem dX12_chain_81 : decode cX12_chain 81 = .ok (.ireturn, 1) := by decide +kernel
theorem dX12_priceChains_0 : decode cX12_priceChains 0 = .ok (.iconst 0, 1) := by decide +kernel
theorem dX12_priceChains_1 : decode cX12_priceChains 1 = .ok (.istore_n 2, 1) := by decide +kernel
theorem dX12_priceChains_2 : decode cX12_priceChains 2 = .ok (.iload_n 2, 1) := by decide +kernel
theorem dX12_priceChains_3 : decode cX12_priceChains 3 = .ok (.bipush 6, 2) := by decide +kernel
theorem dX12_priceChains_5 : decode cX12_priceChains 5 = .ok (.if_icmp .ge 25, 3) := by decide +kernel
theorem dX12_priceChains_8 : decode cX12_priceChains 8 = .ok (.aload_n 0, 1) := by decide +kernel
theorem dX12_priceChains_9 : decode cX12_priceChains 9 = .ok (.getfield 83, 3) := by decide +kernel
theorem dX12_priceChains_12 : decode cX12_priceChains 12 = .ok (.iload_n 2, 1) := by decide +kernel
theorem dX12_priceChains_13 : decode cX12_priceChains 13 = .ok (.iload_n 2, 1) := by decide +kernel
theorem dX12_priceChains_14 : decode cX12_priceChains 14 = .ok (.iload_n 1, 1) := by decide +kernel
theorem dX12_priceChains_15 : decode cX12_priceChains 15 = .ok (.if_icmp .ne 7, 3) := by decide +kernel
theorem dX12_priceChains_18 : decode cX12_priceChains 18 = .ok (.iconst 0, 1) := by decide +kernel
theorem dX12_priceChains_19 : decode cX12_priceChains 19 = .ok (.goto 4, 3) := by decide +kernel
theorem dX12_priceChains_22 : decode cX12_priceChains 22 = .ok (.iconst (-1), 1) := by decide +kernel
theorem dX12_priceChains_23 : decode cX12_priceChains 23 = .ok (.iastore, 1) := by decide +kernel
theorem dX12_priceChains_24 : decode cX12_priceChains 24 = .ok (.iinc 2 1, 3) := by decide +kernel
theorem dX12_priceChains_27 : decode cX12_priceChains 27 = .ok (.goto (-25), 3) := by decide +kernel
theorem dX12_priceChains_30 : decode cX12_priceChains 30 = .ok (.iconst 0, 1) := by decide +kernel
theorem dX12_priceChains_31 : decode cX12_priceChains 31 = .ok (.istore_n 2, 1) := by decide +kernel
theorem dX12_priceChains_32 : decode cX12_priceChains 32 = .ok (.iload_n 2, 1) := by decide +kernel
theorem dX12_priceChains_33 : decode cX12_priceChains 33 = .ok (.bipush 6, 2) := by decide +kernel
theorem dX12_priceChains_35 : decode cX12_priceChains 35 = .ok (.if_icmp .ge 33, 3) := by decide +kernel
theorem dX12_priceChains_38 : decode cX12_priceChains 38 = .ok (.iconst 0, 1) := by decide +kernel
theorem dX12_priceChains_39 : decode cX12_priceChains 39 = .ok (.istore_n 3, 1) := by decide +kernel
theorem dX12_priceChains_40 : decode cX12_priceChains 40 = .ok (.iload_n 3, 1) := by decide +kernel
theorem dX12_priceChains_41 : decode cX12_priceChains 41 = .ok (.aload_n 0, 1) := by decide +kernel
theorem dX12_priceChains_42 : decode cX12_priceChains 42 = .ok (.getfield 19, 3) := by decide +kernel
theorem dX12_priceChains_45 : decode cX12_priceChains 45 = .ok (.getfield 151, 3) := by decide +kernel
theorem dX12_priceChains_48 : decode cX12_priceChains 48 = .ok (.if_icmp .ge 14, 3) := by decide +kernel
theorem dX12_priceChains_51 : decode cX12_priceChains 51 = .ok (.aload_n 0, 1) := by decide +kernel
theorem dX12_priceChains_52 : decode cX12_priceChains 52 = .ok (.iload_n 3, 1) := by decide +kernel
theorem dX12_priceChains_53 : decode cX12_priceChains 53 = .ok (.invokevirtual 339, 3) := by decide +kernel
theorem dX12_priceChains_56 : decode cX12_priceChains 56 = .ok (.iinc 3 1, 3) := by decide +kernel
theorem dX12_priceChains_59 : decode cX12_priceChains 59 = .ok (.goto (-19), 3) := by decide +kernel
theorem dX12_priceChains_62 : decode cX12_priceChains 62 = .ok (.iinc 2 1, 3) := by decide +kernel
theorem dX12_priceChains_65 : decode cX12_priceChains 65 = .ok (.goto (-33), 3) := by decide +kernel
theorem dX12_priceChains_68 : decode cX12_priceChains 68 = .ok (.return_, 1) := by decide +kernel
theorem dX12_cheapen_0 : decode cX12_cheapen 0 = .ok (.iconst 0, 1) := by decide +kernel
theorem dX12_cheapen_1 : decode cX12_cheapen 1 = .ok (.istore_n 2, 1) := by decide +kernel
theorem dX12_cheapen_2 : decode cX12_cheapen 2 = .ok (.iload_n 2, 1) := by decide +kernel
theorem dX12_cheapen_3 : decode cX12_cheapen 3 = .ok (.aload_n 0, 1) := by decide +kernel
theorem dX12_cheapen_4 : decode cX12_cheapen 4 = .ok (.getfield 19, 3) := by decide +kernel
theorem dX12_cheapen_7 : decode cX12_cheapen 7 = .ok (.getfield 151, 3) := by decide +kernel
theorem dX12_cheapen_10 : decode cX12_cheapen 10 = .ok (.if_icmp .ge 48, 3) := by decide +kernel
theorem dX12_cheapen_13 : decode cX12_cheapen 13 = .ok (.aload_n 0, 1) := by decide +kernel
theorem dX12_cheapen_14 : decode cX12_cheapen 14 = .ok (.iload_n 1, 1) := by decide +kernel
theorem dX12_cheapen_15 : decode cX12_cheapen 15 = .ok (.iload_n 2, 1) := by decide +kernel
theorem dX12_cheapen_16 : decode cX12_cheapen 16 = .ok (.invokevirtual 342, 3) := by decide +kernel
theorem dX12_cheapen_19 : decode cX12_cheapen 19 = .ok (.istore_n 3, 1) := by decide +kernel
theorem dX12_cheapen_20 : decode cX12_cheapen 20 = .ok (.iload_n 3, 1) := by decide +kernel
theorem dX12_cheapen_21 : decode cX12_cheapen 21 = .ok (.iconst (-1), 1) := by decide +kernel
theorem dX12_cheapen_22 : decode cX12_cheapen 22 = .ok (.if_icmp .eq 30, 3) := by decide +kernel
theorem dX12_cheapen_25 : decode cX12_cheapen 25 = .ok (.aload_n 0, 1) := by decide +kernel
theorem dX12_cheapen_26 : decode cX12_cheapen 26 = .ok (.getfield 83, 3) := by decide +kernel
theorem dX12_cheapen_29 : decode cX12_cheapen 29 = .ok (.iload_n 1, 1) := by decide +kernel
theorem dX12_cheapen_30 : decode cX12_cheapen 30 = .ok (.iaload, 1) := by decide +kernel
theorem dX12_cheapen_31 : decode cX12_cheapen 31 = .ok (.iconst (-1), 1) := by decide +kernel
theorem dX12_cheapen_32 : decode cX12_cheapen 32 = .ok (.if_icmp .eq 13, 3) := by decide +kernel
theorem dX12_cheapen_35 : decode cX12_cheapen 35 = .ok (.iload_n 3, 1) := by decide +kernel
theorem dX12_cheapen_36 : decode cX12_cheapen 36 = .ok (.aload_n 0, 1) := by decide +kernel
theorem dX12_cheapen_37 : decode cX12_cheapen 37 = .ok (.getfield 83, 3) := by decide +kernel
theorem dX12_cheapen_40 : decode cX12_cheapen 40 = .ok (.iload_n 1, 1) := by decide +kernel
theorem dX12_cheapen_41 : decode cX12_cheapen 41 = .ok (.iaload, 1) := by decide +kernel
theorem dX12_cheapen_42 : decode cX12_cheapen 42 = .ok (.if_icmp .ge 10, 3) := by decide +kernel
theorem dX12_cheapen_45 : decode cX12_cheapen 45 = .ok (.aload_n 0, 1) := by decide +kernel
theorem dX12_cheapen_46 : decode cX12_cheapen 46 = .ok (.getfield 83, 3) := by decide +kernel
theorem dX12_cheapen_49 : decode cX12_cheapen 49 = .ok (.iload_n 1, 1) := by decide +kernel
theorem dX12_cheapen_50 : decode cX12_cheapen 50 = .ok (.iload_n 3, 1) := by decide +kernel
theorem dX12_cheapen_51 : decode cX12_cheapen 51 = .ok (.iastore, 1) := by decide +kernel
theorem dX12_cheapen_52 : decode cX12_cheapen 52 = .ok (.iinc 2 1, 3) := by decide +kernel
theorem dX12_cheapen_55 : decode cX12_cheapen 55 = .ok (.goto (-53), 3) := by decide +kernel
theorem dX12_cheapen_58 : decode cX12_cheapen 58 = .ok (.return_, 1) := by decide +kernel
theorem dX12_priceBy_0 : decode cX12_priceBy 0 = .ok (.aload_n 0, 1) := by decide +kernel
theorem dX12_priceBy_1 : decode cX12_priceBy 1 = .ok (.getfield 19, 3) := by decide +kernel
