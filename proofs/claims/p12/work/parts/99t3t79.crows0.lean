theorem dX1_begin_0 : decode cX1_begin 0 = .ok (.iconst 0, 1) := by decide +kernel
theorem dX1_begin_1 : decode cX1_begin 1 = .ok (.istore_n 1, 1) := by decide +kernel
theorem dX1_begin_2 : decode cX1_begin 2 = .ok (.iload_n 1, 1) := by decide +kernel
theorem dX1_begin_3 : decode cX1_begin 3 = .ok (.aload_n 0, 1) := by decide +kernel
theorem dX1_begin_4 : decode cX1_begin 4 = .ok (.getfield 9, 3) := by decide +kernel
theorem dX1_begin_7 : decode cX1_begin 7 = .ok (.arraylength, 1) := by decide +kernel
theorem dX1_begin_8 : decode cX1_begin 8 = .ok (.if_icmp .ge 16, 3) := by decide +kernel
theorem dX1_begin_11 : decode cX1_begin 11 = .ok (.aload_n 0, 1) := by decide +kernel
theorem dX1_begin_12 : decode cX1_begin 12 = .ok (.getfield 9, 3) := by decide +kernel
theorem dX1_begin_15 : decode cX1_begin 15 = .ok (.iload_n 1, 1) := by decide +kernel
theorem dX1_begin_16 : decode cX1_begin 16 = .ok (.iconst 0, 1) := by decide +kernel
theorem dX1_begin_17 : decode cX1_begin 17 = .ok (.iastore, 1) := by decide +kernel
theorem dX1_begin_18 : decode cX1_begin 18 = .ok (.iinc 1 1, 3) := by decide +kernel
theorem dX1_begin_21 : decode cX1_begin 21 = .ok (.goto (-19), 3) := by decide +kernel
theorem dX1_begin_24 : decode cX1_begin 24 = .ok (.return_, 1) := by decide +kernel
theorem dX1_note_0 : decode cX1_note 0 = .ok (.iconst 0, 1) := by decide +kernel
theorem dX1_note_1 : decode cX1_note 1 = .ok (.istore_n 3, 1) := by decide +kernel
theorem dX1_note_2 : decode cX1_note 2 = .ok (.iload_n 3, 1) := by decide +kernel
theorem dX1_note_3 : decode cX1_note 3 = .ok (.aload_n 0, 1) := by decide +kernel
theorem dX1_note_4 : decode cX1_note 4 = .ok (.getfield 15, 3) := by decide +kernel
theorem dX1_note_7 : decode cX1_note 7 = .ok (.getfield 19, 3) := by decide +kernel
theorem dX1_note_10 : decode cX1_note 10 = .ok (.if_icmp .ge 62, 3) := by decide +kernel
theorem dX1_note_13 : decode cX1_note 13 = .ok (.aload_n 0, 1) := by decide +kernel
theorem dX1_note_14 : decode cX1_note 14 = .ok (.getfield 25, 3) := by decide +kernel
theorem dX1_note_17 : decode cX1_note 17 = .ok (.getfield 29, 3) := by decide +kernel
theorem dX1_note_20 : decode cX1_note 20 = .ok (.aload_n 0, 1) := by decide +kernel
theorem dX1_note_21 : decode cX1_note 21 = .ok (.getfield 25, 3) := by decide +kernel
theorem dX1_note_24 : decode cX1_note 24 = .ok (.getfield 35, 3) := by decide +kernel
theorem dX1_note_27 : decode cX1_note 27 = .ok (.aload_n 0, 1) := by decide +kernel
theorem dX1_note_28 : decode cX1_note 28 = .ok (.getfield 15, 3) := by decide +kernel
theorem dX1_note_31 : decode cX1_note 31 = .ok (.getfield 38, 3) := by decide +kernel
theorem dX1_note_34 : decode cX1_note 34 = .ok (.iload_n 3, 1) := by decide +kernel
theorem dX1_note_35 : decode cX1_note 35 = .ok (.iaload, 1) := by decide +kernel
theorem dX1_note_36 : decode cX1_note 36 = .ok (.iaload, 1) := by decide +kernel
theorem dX1_note_37 : decode cX1_note 37 = .ok (.aload_n 0, 1) := by decide +kernel
theorem dX1_note_38 : decode cX1_note 38 = .ok (.getfield 15, 3) := by decide +kernel
theorem dX1_note_41 : decode cX1_note 41 = .ok (.getfield 41, 3) := by decide +kernel
theorem dX1_note_44 : decode cX1_note 44 = .ok (.iload_n 3, 1) := by decide +kernel
theorem dX1_note_45 : decode cX1_note 45 = .ok (.iaload, 1) := by decide +kernel
theorem dX1_note_46 : decode cX1_note 46 = .ok (.invokevirtual 44, 3) := by decide +kernel
theorem dX1_note_49 : decode cX1_note 49 = .ok (.istore 4, 2) := by decide +kernel
theorem dX1_note_51 : decode cX1_note 51 = .ok (.iload 4, 2) := by decide +kernel
theorem dX1_note_53 : decode cX1_note 53 = .ok (.aload_n 0, 1) := by decide +kernel
theorem dX1_note_54 : decode cX1_note 54 = .ok (.getfield 15, 3) := by decide +kernel
theorem dX1_note_57 : decode cX1_note 57 = .ok (.getfield 50, 3) := by decide +kernel
theorem dX1_note_60 : decode cX1_note 60 = .ok (.iload_n 3, 1) := by decide +kernel
theorem dX1_note_61 : decode cX1_note 61 = .ok (.iaload, 1) := by decide +kernel
theorem dX1_note_62 : decode cX1_note 62 = .ok (.if_icmp .eq 4, 3) := by decide +kernel
theorem dX1_note_65 : decode cX1_note 65 = .ok (.return_, 1) := by decide +kernel
theorem dX1_note_66 : decode cX1_note 66 = .ok (.iinc 3 1, 3) := by decide +kernel
theorem dX1_note_69 : decode cX1_note 69 = .ok (.goto (-67), 3) := by decide +kernel
theorem dX1_note_72 : decode cX1_note 72 = .ok (.iconst 0, 1) := by decide +kernel
theorem dX1_note_73 : decode cX1_note 73 = .ok (.istore_n 3, 1) := by decide +kernel
theorem dX1_note_74 : decode cX1_note 74 = .ok (.iload_n 3, 1) := by decide +kernel
theorem dX1_note_75 : decode cX1_note 75 = .ok (.aload_n 0, 1) := by decide +kernel
theorem dX1_note_76 : decode cX1_note 76 = .ok (.getfield 25, 3) := by decide +kernel
theorem dX1_note_79 : decode cX1_note 79 = .ok (.getfield 29, 3) := by decide +kernel
theorem dX1_note_82 : decode cX1_note 82 = .ok (.getfield 53, 3) := by decide +kernel
theorem dX1_note_85 : decode cX1_note 85 = .ok (.if_icmp .ge 83, 3) := by decide +kernel
theorem dX1_note_88 : decode cX1_note 88 = .ok (.aload_n 0, 1) := by decide +kernel
theorem dX1_note_89 : decode cX1_note 89 = .ok (.getfield 9, 3) := by decide +kernel
theorem dX1_note_92 : decode cX1_note 92 = .ok (.iload_n 3, 1) := by decide +kernel
theorem dX1_note_93 : decode cX1_note 93 = .ok (.bipush 64, 2) := by decide +kernel
theorem dX1_note_95 : decode cX1_note 95 = .ok (.imul, 1) := by decide +kernel
theorem dX1_note_96 : decode cX1_note 96 = .ok (.aload_n 0, 1) := by decide +kernel
theorem dX1_note_97 : decode cX1_note 97 = .ok (.getfield 25, 3) := by decide +kernel
theorem dX1_note_100 : decode cX1_note 100 = .ok (.getfield 35, 3) := by decide +kernel
theorem dX1_note_103 : decode cX1_note 103 = .ok (.iload_n 3, 1) := by decide +kernel
theorem dX1_note_104 : decode cX1_note 104 = .ok (.iaload, 1) := by decide +kernel
theorem dX1_note_105 : decode cX1_note 105 = .ok (.iadd, 1) := by decide +kernel
theorem dX1_note_106 : decode cX1_note 106 = .ok (.dup2, 1) := by decide +kernel
theorem dX1_note_107 : decode cX1_note 107 = .ok (.iaload, 1) := by decide +kernel
theorem dX1_note_108 : decode cX1_note 108 = .ok (.iconst 1, 1) := by decide +kernel
theorem dX1_note_109 : decode cX1_note 109 = .ok (.iadd, 1) := by decide +kernel
theorem dX1_note_110 : decode cX1_note 110 = .ok (.iastore, 1) := by decide +kernel
theorem dX1_note_111 : decode cX1_note 111 = .ok (.aload_n 0, 1) := by decide +kernel
theorem dX1_note_112 : decode cX1_note 112 = .ok (.getfield 56, 3) := by decide +kernel
theorem dX1_note_115 : decode cX1_note 115 = .ok (.ifCond .ne 21, 3) := by decide +kernel
theorem dX1_note_118 : decode cX1_note 118 = .ok (.aload_n 0, 1) := by decide +kernel
theorem dX1_note_119 : decode cX1_note 119 = .ok (.getfield 59, 3) := by decide +kernel
theorem dX1_note_122 : decode cX1_note 122 = .ok (.iload_n 3, 1) := by decide +kernel
theorem dX1_note_123 : decode cX1_note 123 = .ok (.aload_n 0, 1) := by decide +kernel
theorem dX1_note_124 : decode cX1_note 124 = .ok (.getfield 25, 3) := by decide +kernel
theorem dX1_note_127 : decode cX1_note 127 = .ok (.getfield 62, 3) := by decide +kernel
theorem dX1_note_130 : decode cX1_note 130 = .ok (.iload_n 3, 1) := by decide +kernel
theorem dX1_note_131 : decode cX1_note 131 = .ok (.iaload, 1) := by decide +kernel
theorem dX1_note_132 : decode cX1_note 132 = .ok (.iastore, 1) := by decide +kernel
theorem dX1_note_133 : decode cX1_note 133 = .ok (.goto 29, 3) := by decide +kernel
theorem dX1_note_136 : decode cX1_note 136 = .ok (.aload_n 0, 1) := by decide +kernel
theorem dX1_note_137 : decode cX1_note 137 = .ok (.getfield 59, 3) := by decide +kernel
theorem dX1_note_140 : decode cX1_note 140 = .ok (.iload_n 3, 1) := by decide +kernel
theorem dX1_note_141 : decode cX1_note 141 = .ok (.iaload, 1) := by decide +kernel
theorem dX1_note_142 : decode cX1_note 142 = .ok (.aload_n 0, 1) := by decide +kernel
theorem dX1_note_143 : decode cX1_note 143 = .ok (.getfield 25, 3) := by decide +kernel
theorem dX1_note_146 : decode cX1_note 146 = .ok (.getfield 62, 3) := by decide +kernel
theorem dX1_note_149 : decode cX1_note 149 = .ok (.iload_n 3, 1) := by decide +kernel
theorem dX1_note_150 : decode cX1_note 150 = .ok (.iaload, 1) := by decide +kernel
theorem dX1_note_151 : decode cX1_note 151 = .ok (.if_icmp .eq 11, 3) := by decide +kernel
theorem dX1_note_154 : decode cX1_note 154 = .ok (.aload_n 0, 1) := by decide +kernel
theorem dX1_note_155 : decode cX1_note 155 = .ok (.getfield 59, 3) := by decide +kernel
theorem dX1_note_158 : decode cX1_note 158 = .ok (.iload_n 3, 1) := by decide +kernel
theorem dX1_note_159 : decode cX1_note 159 = .ok (.bipush (-2), 2) := by decide +kernel
theorem dX1_note_161 : decode cX1_note 161 = .ok (.iastore, 1) := by decide +kernel
theorem dX1_note_162 : decode cX1_note 162 = .ok (.iinc 3 1, 3) := by decide +kernel
theorem dX1_note_165 : decode cX1_note 165 = .ok (.goto (-91), 3) := by decide +kernel
theorem dX1_note_168 : decode cX1_note 168 = .ok (.aload_n 0, 1) := by decide +kernel
theorem dX1_note_169 : decode cX1_note 169 = .ok (.dup, 1) := by decide +kernel
theorem dX1_note_170 : decode cX1_note 170 = .ok (.getfield 56, 3) := by decide +kernel
theorem dX1_note_173 : decode cX1_note 173 = .ok (.iconst 1, 1) := by decide +kernel
theorem dX1_note_174 : decode cX1_note 174 = .ok (.iadd, 1) := by decide +kernel
theorem dX1_note_175 : decode cX1_note 175 = .ok (.putfield 56, 3) := by decide +kernel
theorem dX1_note_178 : decode cX1_note 178 = .ok (.return_, 1) := by decide +kernel
theorem dX1_end_0 : decode cX1_end 0 = .ok (.aload_n 0, 1) := by decide +kernel
theorem dX1_end_1 : decode cX1_end 1 = .ok (.iconst (-1), 1) := by decide +kernel
theorem dX1_end_2 : decode cX1_end 2 = .ok (.putfield 63, 3) := by decide +kernel
theorem dX1_end_5 : decode cX1_end 5 = .ok (.aload_n 0, 1) := by decide +kernel
theorem dX1_end_6 : decode cX1_end 6 = .ok (.getfield 56, 3) := by decide +kernel
theorem dX1_end_9 : decode cX1_end 9 = .ok (.istore_n 1, 1) := by decide +kernel
theorem dX1_end_10 : decode cX1_end 10 = .ok (.iconst 0, 1) := by decide +kernel
theorem dX1_end_11 : decode cX1_end 11 = .ok (.istore_n 2, 1) := by decide +kernel
theorem dX1_end_12 : decode cX1_end 12 = .ok (.iload_n 2, 1) := by decide +kernel
theorem dX1_end_13 : decode cX1_end 13 = .ok (.aload_n 0, 1) := by decide +kernel
theorem dX1_end_14 : decode cX1_end 14 = .ok (.getfield 25, 3) := by decide +kernel
theorem dX1_end_17 : decode cX1_end 17 = .ok (.getfield 29, 3) := by decide +kernel
theorem dX1_end_20 : decode cX1_end 20 = .ok (.getfield 53, 3) := by decide +kernel
theorem dX1_end_23 : decode cX1_end 23 = .ok (.iconst 4, 1) := by decide +kernel
theorem dX1_end_24 : decode cX1_end 24 = .ok (.imul, 1) := by decide +kernel
theorem dX1_end_25 : decode cX1_end 25 = .ok (.if_icmp .ge 32, 3) := by decide +kernel
theorem dX1_end_28 : decode cX1_end 28 = .ok (.aload_n 0, 1) := by decide +kernel
theorem dX1_end_29 : decode cX1_end 29 = .ok (.iload_n 2, 1) := by decide +kernel
theorem dX1_end_30 : decode cX1_end 30 = .ok (.iconst 4, 1) := by decide +kernel
theorem dX1_end_31 : decode cX1_end 31 = .ok (.idiv, 1) := by decide +kernel
theorem dX1_end_32 : decode cX1_end 32 = .ok (.iload_n 2, 1) := by decide +kernel
theorem dX1_end_33 : decode cX1_end 33 = .ok (.iconst 4, 1) := by decide +kernel
theorem dX1_end_34 : decode cX1_end 34 = .ok (.irem, 1) := by decide +kernel
theorem dX1_end_35 : decode cX1_end 35 = .ok (.invokevirtual 66, 3) := by decide +kernel
theorem dX1_end_38 : decode cX1_end 38 = .ok (.istore_n 3, 1) := by decide +kernel
theorem dX1_end_39 : decode cX1_end 39 = .ok (.iload_n 3, 1) := by decide +kernel
theorem dX1_end_40 : decode cX1_end 40 = .ok (.iload_n 1, 1) := by decide +kernel
theorem dX1_end_41 : decode cX1_end 41 = .ok (.if_icmp .ge 10, 3) := by decide +kernel
theorem dX1_end_44 : decode cX1_end 44 = .ok (.iload_n 3, 1) := by decide +kernel
theorem dX1_end_45 : decode cX1_end 45 = .ok (.istore_n 1, 1) := by decide +kernel
theorem dX1_end_46 : decode cX1_end 46 = .ok (.aload_n 0, 1) := by decide +kernel
theorem dX1_end_47 : decode cX1_end 47 = .ok (.iload_n 2, 1) := by decide +kernel
theorem dX1_end_48 : decode cX1_end 48 = .ok (.putfield 63, 3) := by decide +kernel
theorem dX1_end_51 : decode cX1_end 51 = .ok (.iinc 2 1, 3) := by decide +kernel
theorem dX1_end_54 : decode cX1_end 54 = .ok (.goto (-42), 3) := by decide +kernel
theorem dX1_end_57 : decode cX1_end 57 = .ok (.return_, 1) := by decide +kernel
theorem dX1_mostAlike_0 : decode cX1_mostAlike 0 = .ok (.iconst 0, 1) := by decide +kernel
theorem dX1_mostAlike_1 : decode cX1_mostAlike 1 = .ok (.istore_n 3, 1) := by decide +kernel
theorem dX1_mostAlike_2 : decode cX1_mostAlike 2 = .ok (.iconst 0, 1) := by decide +kernel
theorem dX1_mostAlike_3 : decode cX1_mostAlike 3 = .ok (.istore 4, 2) := by decide +kernel
theorem dX1_mostAlike_5 : decode cX1_mostAlike 5 = .ok (.iload 4, 2) := by decide +kernel
theorem dX1_mostAlike_7 : decode cX1_mostAlike 7 = .ok (.aload_n 0, 1) := by decide +kernel
theorem dX1_mostAlike_8 : decode cX1_mostAlike 8 = .ok (.getfield 25, 3) := by decide +kernel
theorem dX1_mostAlike_11 : decode cX1_mostAlike 11 = .ok (.getfield 29, 3) := by decide +kernel
theorem dX1_mostAlike_14 : decode cX1_mostAlike 14 = .ok (.invokevirtual 69, 3) := by decide +kernel
theorem dX1_mostAlike_17 : decode cX1_mostAlike 17 = .ok (.if_icmp .gt 48, 3) := by decide +kernel
theorem dX1_mostAlike_20 : decode cX1_mostAlike 20 = .ok (.aload_n 0, 1) := by decide +kernel
theorem dX1_mostAlike_21 : decode cX1_mostAlike 21 = .ok (.getfield 9, 3) := by decide +kernel
theorem dX1_mostAlike_24 : decode cX1_mostAlike 24 = .ok (.iload_n 1, 1) := by decide +kernel
theorem dX1_mostAlike_25 : decode cX1_mostAlike 25 = .ok (.bipush 64, 2) := by decide +kernel
theorem dX1_mostAlike_27 : decode cX1_mostAlike 27 = .ok (.imul, 1) := by decide +kernel
theorem dX1_mostAlike_28 : decode cX1_mostAlike 28 = .ok (.iload 4, 2) := by decide +kernel
theorem dX1_mostAlike_30 : decode cX1_mostAlike 30 = .ok (.iadd, 1) := by decide +kernel
theorem dX1_mostAlike_31 : decode cX1_mostAlike 31 = .ok (.iaload, 1) := by decide +kernel
theorem dX1_mostAlike_32 : decode cX1_mostAlike 32 = .ok (.ifCond .le 27, 3) := by decide +kernel
theorem dX1_mostAlike_35 : decode cX1_mostAlike 35 = .ok (.iload_n 3, 1) := by decide +kernel
theorem dX1_mostAlike_36 : decode cX1_mostAlike 36 = .ok (.aload_n 0, 1) := by decide +kernel
theorem dX1_mostAlike_37 : decode cX1_mostAlike 37 = .ok (.iload_n 1, 1) := by decide +kernel
theorem dX1_mostAlike_38 : decode cX1_mostAlike 38 = .ok (.iload_n 2, 1) := by decide +kernel
theorem dX1_mostAlike_39 : decode cX1_mostAlike 39 = .ok (.aload_n 0, 1) := by decide +kernel
theorem dX1_mostAlike_40 : decode cX1_mostAlike 40 = .ok (.getfield 25, 3) := by decide +kernel
theorem dX1_mostAlike_43 : decode cX1_mostAlike 43 = .ok (.getfield 29, 3) := by decide +kernel
theorem dX1_mostAlike_46 : decode cX1_mostAlike 46 = .ok (.iload 4, 2) := by decide +kernel
theorem dX1_mostAlike_48 : decode cX1_mostAlike 48 = .ok (.iload_n 2, 1) := by decide +kernel
theorem dX1_mostAlike_49 : decode cX1_mostAlike 49 = .ok (.invokevirtual 44, 3) := by decide +kernel
theorem dX1_mostAlike_52 : decode cX1_mostAlike 52 = .ok (.invokevirtual 73, 3) := by decide +kernel
theorem dX1_mostAlike_55 : decode cX1_mostAlike 55 = .ok (.invokestatic 77, 3) := by decide +kernel
theorem dX1_mostAlike_58 : decode cX1_mostAlike 58 = .ok (.istore_n 3, 1) := by decide +kernel
theorem dX1_mostAlike_59 : decode cX1_mostAlike 59 = .ok (.iinc 4 1, 3) := by decide +kernel
theorem dX1_mostAlike_62 : decode cX1_mostAlike 62 = .ok (.goto (-57), 3) := by decide +kernel
theorem dX1_mostAlike_65 : decode cX1_mostAlike 65 = .ok (.iload_n 3, 1) := by decide +kernel
theorem dX1_mostAlike_66 : decode cX1_mostAlike 66 = .ok (.ireturn, 1) := by decide +kernel
theorem dX1_alike_0 : decode cX1_alike 0 = .ok (.iconst 0, 1) := by decide +kernel
theorem dX1_alike_1 : decode cX1_alike 1 = .ok (.istore 4, 2) := by decide +kernel
theorem dX1_alike_3 : decode cX1_alike 3 = .ok (.iconst 0, 1) := by decide +kernel
theorem dX1_alike_4 : decode cX1_alike 4 = .ok (.istore 5, 2) := by decide +kernel
theorem dX1_alike_6 : decode cX1_alike 6 = .ok (.iload 5, 2) := by decide +kernel
theorem dX1_alike_8 : decode cX1_alike 8 = .ok (.aload_n 0, 1) := by decide +kernel
theorem dX1_alike_9 : decode cX1_alike 9 = .ok (.getfield 25, 3) := by decide +kernel
theorem dX1_alike_12 : decode cX1_alike 12 = .ok (.getfield 29, 3) := by decide +kernel
theorem dX1_alike_15 : decode cX1_alike 15 = .ok (.invokevirtual 69, 3) := by decide +kernel
theorem dX1_alike_18 : decode cX1_alike 18 = .ok (.if_icmp .gt 43, 3) := by decide +kernel
theorem dX1_alike_21 : decode cX1_alike 21 = .ok (.aload_n 0, 1) := by decide +kernel
theorem dX1_alike_22 : decode cX1_alike 22 = .ok (.getfield 25, 3) := by decide +kernel
theorem dX1_alike_25 : decode cX1_alike 25 = .ok (.getfield 29, 3) := by decide +kernel
theorem dX1_alike_28 : decode cX1_alike 28 = .ok (.iload 5, 2) := by decide +kernel
theorem dX1_alike_30 : decode cX1_alike 30 = .ok (.iload_n 2, 1) := by decide +kernel
theorem dX1_alike_31 : decode cX1_alike 31 = .ok (.invokevirtual 44, 3) := by decide +kernel
theorem dX1_alike_34 : decode cX1_alike 34 = .ok (.iload_n 3, 1) := by decide +kernel
theorem dX1_alike_35 : decode cX1_alike 35 = .ok (.if_icmp .ne 20, 3) := by decide +kernel
theorem dX1_alike_38 : decode cX1_alike 38 = .ok (.iload 4, 2) := by decide +kernel
theorem dX1_alike_40 : decode cX1_alike 40 = .ok (.aload_n 0, 1) := by decide +kernel
theorem dX1_alike_41 : decode cX1_alike 41 = .ok (.getfield 9, 3) := by decide +kernel
theorem dX1_alike_44 : decode cX1_alike 44 = .ok (.iload_n 1, 1) := by decide +kernel
theorem dX1_alike_45 : decode cX1_alike 45 = .ok (.bipush 64, 2) := by decide +kernel
theorem dX1_alike_47 : decode cX1_alike 47 = .ok (.imul, 1) := by decide +kernel
theorem dX1_alike_48 : decode cX1_alike 48 = .ok (.iload 5, 2) := by decide +kernel
theorem dX1_alike_50 : decode cX1_alike 50 = .ok (.iadd, 1) := by decide +kernel
theorem dX1_alike_51 : decode cX1_alike 51 = .ok (.iaload, 1) := by decide +kernel
theorem dX1_alike_52 : decode cX1_alike 52 = .ok (.iadd, 1) := by decide +kernel
theorem dX1_alike_53 : decode cX1_alike 53 = .ok (.istore 4, 2) := by decide +kernel
theorem dX1_alike_55 : decode cX1_alike 55 = .ok (.iinc 5 1, 3) := by decide +kernel
theorem dX1_alike_58 : decode cX1_alike 58 = .ok (.goto (-52), 3) := by decide +kernel
theorem dX1_alike_61 : decode cX1_alike 61 = .ok (.iload 4, 2) := by decide +kernel
theorem dX1_alike_63 : decode cX1_alike 63 = .ok (.ireturn, 1) := by decide +kernel
theorem dX2_clear_0 : decode cX2_clear 0 = .ok (.aload_n 0, 1) := by decide +kernel
theorem dX2_clear_1 : decode cX2_clear 1 = .ok (.iconst 0, 1) := by decide +kernel
theorem dX2_clear_2 : decode cX2_clear 2 = .ok (.putfield 18, 3) := by decide +kernel
theorem dX2_clear_5 : decode cX2_clear 5 = .ok (.return_, 1) := by decide +kernel
theorem dX2_add_0 : decode cX2_add 0 = .ok (.aload_n 0, 1) := by decide +kernel
theorem dX2_add_1 : decode cX2_add 1 = .ok (.getfield 18, 3) := by decide +kernel
theorem dX2_add_4 : decode cX2_add 4 = .ok (.aload_n 0, 1) := by decide +kernel
theorem dX2_add_5 : decode cX2_add 5 = .ok (.getfield 9, 3) := by decide +kernel
theorem dX2_add_8 : decode cX2_add 8 = .ok (.arraylength, 1) := by decide +kernel
theorem dX2_add_9 : decode cX2_add 9 = .ok (.if_icmp .ge 23, 3) := by decide +kernel
theorem dX2_add_12 : decode cX2_add 12 = .ok (.aload_n 0, 1) := by decide +kernel
theorem dX2_add_13 : decode cX2_add 13 = .ok (.getfield 9, 3) := by decide +kernel
theorem dX2_add_16 : decode cX2_add 16 = .ok (.aload_n 0, 1) := by decide +kernel
theorem dX2_add_17 : decode cX2_add 17 = .ok (.getfield 18, 3) := by decide +kernel
theorem dX2_add_20 : decode cX2_add 20 = .ok (.iload_n 1, 1) := by decide +kernel
theorem dX2_add_21 : decode cX2_add 21 = .ok (.iastore, 1) := by decide +kernel
theorem dX2_add_22 : decode cX2_add 22 = .ok (.aload_n 0, 1) := by decide +kernel
theorem dX2_add_23 : decode cX2_add 23 = .ok (.dup, 1) := by decide +kernel
theorem dX2_add_24 : decode cX2_add 24 = .ok (.getfield 18, 3) := by decide +kernel
theorem dX2_add_27 : decode cX2_add 27 = .ok (.iconst 1, 1) := by decide +kernel
theorem dX2_add_28 : decode cX2_add 28 = .ok (.iadd, 1) := by decide +kernel
theorem dX2_add_29 : decode cX2_add 29 = .ok (.putfield 18, 3) := by decide +kernel
theorem dX2_add_32 : decode cX2_add 32 = .ok (.return_, 1) := by decide +kernel
theorem dX2_held_0 : decode cX2_held 0 = .ok (.aload_n 0, 1) := by decide +kernel
theorem dX2_held_1 : decode cX2_held 1 = .ok (.iload_n 1, 1) := by decide +kernel
theorem dX2_held_2 : decode cX2_held 2 = .ok (.iload_n 2, 1) := by decide +kernel
theorem dX2_held_3 : decode cX2_held 3 = .ok (.iload_n 3, 1) := by decide +kernel
theorem dX2_held_4 : decode cX2_held 4 = .ok (.iload 4, 2) := by decide +kernel
theorem dX2_held_6 : decode cX2_held 6 = .ok (.invokevirtual 22, 3) := by decide +kernel
theorem dX2_held_9 : decode cX2_held 9 = .ok (.istore 5, 2) := by decide +kernel
theorem dX2_held_11 : decode cX2_held 11 = .ok (.iconst 0, 1) := by decide +kernel
theorem dX2_held_12 : decode cX2_held 12 = .ok (.bipush 99, 2) := by decide +kernel
theorem dX2_held_14 : decode cX2_held 14 = .ok (.iload 5, 2) := by decide +kernel
theorem dX2_held_16 : decode cX2_held 16 = .ok (.invokestatic 26, 3) := by decide +kernel
theorem dX2_held_19 : decode cX2_held 19 = .ok (.invokestatic 32, 3) := by decide +kernel
theorem dX2_held_22 : decode cX2_held 22 = .ok (.ireturn, 1) := by decide +kernel
theorem dX2_value_0 : decode cX2_value 0 = .ok (.iconst 0, 1) := by decide +kernel
theorem dX2_value_1 : decode cX2_value 1 = .ok (.istore 5, 2) := by decide +kernel
theorem dX2_value_3 : decode cX2_value 3 = .ok (.iconst 0, 1) := by decide +kernel
theorem dX2_value_4 : decode cX2_value 4 = .ok (.istore 6, 2) := by decide +kernel
theorem dX2_value_6 : decode cX2_value 6 = .ok (.iload 6, 2) := by decide +kernel
theorem dX2_value_8 : decode cX2_value 8 = .ok (.aload_n 0, 1) := by decide +kernel
theorem dX2_value_9 : decode cX2_value 9 = .ok (.getfield 18, 3) := by decide +kernel
theorem dX2_value_12 : decode cX2_value 12 = .ok (.if_icmp .ge 145, 3) := by decide +kernel
theorem dX2_value_15 : decode cX2_value 15 = .ok (.aload_n 0, 1) := by decide +kernel
theorem dX2_value_16 : decode cX2_value 16 = .ok (.getfield 9, 3) := by decide +kernel
theorem dX2_value_19 : decode cX2_value 19 = .ok (.iload 6, 2) := by decide +kernel
theorem dX2_value_21 : decode cX2_value 21 = .ok (.iaload, 1) := by decide +kernel
theorem dX2_value_22 : decode cX2_value 22 = .ok (.istore 7, 2) := by decide +kernel
theorem dX2_value_24 : decode cX2_value 24 = .ok (.iload 7, 2) := by decide +kernel
theorem dX2_value_26 : decode cX2_value 26 = .ok (.bipush (-4), 2) := by decide +kernel
theorem dX2_value_28 : decode cX2_value 28 = .ok (.if_icmp .lt 35, 3) := by decide +kernel
theorem dX2_value_31 : decode cX2_value 31 = .ok (.iload 5, 2) := by decide +kernel
theorem dX2_value_33 : decode cX2_value 33 = .ok (.bipush 32, 2) := by decide +kernel
theorem dX2_value_35 : decode cX2_value 35 = .ok (.if_icmp .lt 5, 3) := by decide +kernel
theorem dX2_value_38 : decode cX2_value 38 = .ok (.iconst 0, 1) := by decide +kernel
theorem dX2_value_39 : decode cX2_value 39 = .ok (.ireturn, 1) := by decide +kernel
theorem dX2_value_40 : decode cX2_value 40 = .ok (.aload_n 0, 1) := by decide +kernel
theorem dX2_value_41 : decode cX2_value 41 = .ok (.getfield 15, 3) := by decide +kernel
theorem dX2_value_44 : decode cX2_value 44 = .ok (.iload 5, 2) := by decide +kernel
theorem dX2_value_46 : decode cX2_value 46 = .ok (.iload 7, 2) := by decide +kernel
theorem dX2_value_48 : decode cX2_value 48 = .ok (.iload_n 1, 1) := by decide +kernel
theorem dX2_value_49 : decode cX2_value 49 = .ok (.iload_n 2, 1) := by decide +kernel
theorem dX2_value_50 : decode cX2_value 50 = .ok (.iload_n 3, 1) := by decide +kernel
theorem dX2_value_51 : decode cX2_value 51 = .ok (.iload 4, 2) := by decide +kernel
theorem dX2_value_53 : decode cX2_value 53 = .ok (.invokestatic 35, 3) := by decide +kernel
theorem dX2_value_56 : decode cX2_value 56 = .ok (.iastore, 1) := by decide +kernel
theorem dX2_value_57 : decode cX2_value 57 = .ok (.iinc 5 1, 3) := by decide +kernel
theorem dX2_value_60 : decode cX2_value 60 = .ok (.goto 91, 3) := by decide +kernel
theorem dX2_value_63 : decode cX2_value 63 = .ok (.iload 7, 2) := by decide +kernel
theorem dX2_value_65 : decode cX2_value 65 = .ok (.bipush (-5), 2) := by decide +kernel
theorem dX2_value_67 : decode cX2_value 67 = .ok (.if_icmp .ne 43, 3) := by decide +kernel
theorem dX2_value_70 : decode cX2_value 70 = .ok (.iload 5, 2) := by decide +kernel
theorem dX2_value_72 : decode cX2_value 72 = .ok (.iconst 1, 1) := by decide +kernel
theorem dX2_value_73 : decode cX2_value 73 = .ok (.if_icmp .ge 5, 3) := by decide +kernel
theorem dX2_value_76 : decode cX2_value 76 = .ok (.iconst 0, 1) := by decide +kernel
theorem dX2_value_77 : decode cX2_value 77 = .ok (.ireturn, 1) := by decide +kernel
theorem dX2_value_78 : decode cX2_value 78 = .ok (.aload_n 0, 1) := by decide +kernel
theorem dX2_value_79 : decode cX2_value 79 = .ok (.getfield 15, 3) := by decide +kernel
theorem dX2_value_82 : decode cX2_value 82 = .ok (.iload 5, 2) := by decide +kernel
theorem dX2_value_84 : decode cX2_value 84 = .ok (.iconst 1, 1) := by decide +kernel
theorem dX2_value_85 : decode cX2_value 85 = .ok (.isub, 1) := by decide +kernel
theorem dX2_value_86 : decode cX2_value 86 = .ok (.aload_n 0, 1) := by decide +kernel
theorem dX2_value_87 : decode cX2_value 87 = .ok (.getfield 15, 3) := by decide +kernel
theorem dX2_value_90 : decode cX2_value 90 = .ok (.iload 5, 2) := by decide +kernel
theorem dX2_value_92 : decode cX2_value 92 = .ok (.iconst 1, 1) := by decide +kernel
theorem dX2_value_93 : decode cX2_value 93 = .ok (.isub, 1) := by decide +kernel
theorem dX2_value_94 : decode cX2_value 94 = .ok (.iaload, 1) := by decide +kernel
theorem dX2_value_95 : decode cX2_value 95 = .ok (.ifCond .ne 7, 3) := by decide +kernel
theorem dX2_value_98 : decode cX2_value 98 = .ok (.iconst 1, 1) := by decide +kernel
theorem dX2_value_99 : decode cX2_value 99 = .ok (.goto 4, 3) := by decide +kernel
theorem dX2_value_102 : decode cX2_value 102 = .ok (.iconst 0, 1) := by decide +kernel
theorem dX2_value_103 : decode cX2_value 103 = .ok (.invokestatic 39, 3) := by decide +kernel
theorem dX2_value_106 : decode cX2_value 106 = .ok (.iastore, 1) := by decide +kernel
theorem dX2_value_107 : decode cX2_value 107 = .ok (.goto 44, 3) := by decide +kernel
theorem dX2_value_110 : decode cX2_value 110 = .ok (.iload 5, 2) := by decide +kernel
theorem dX2_value_112 : decode cX2_value 112 = .ok (.iconst 2, 1) := by decide +kernel
theorem dX2_value_113 : decode cX2_value 113 = .ok (.if_icmp .ge 5, 3) := by decide +kernel
theorem dX2_value_116 : decode cX2_value 116 = .ok (.iconst 0, 1) := by decide +kernel
theorem dX2_value_117 : decode cX2_value 117 = .ok (.ireturn, 1) := by decide +kernel
theorem dX2_value_118 : decode cX2_value 118 = .ok (.iinc 5 (-1), 3) := by decide +kernel
theorem dX2_value_121 : decode cX2_value 121 = .ok (.aload_n 0, 1) := by decide +kernel
theorem dX2_value_122 : decode cX2_value 122 = .ok (.getfield 15, 3) := by decide +kernel
theorem dX2_value_125 : decode cX2_value 125 = .ok (.iload 5, 2) := by decide +kernel
theorem dX2_value_127 : decode cX2_value 127 = .ok (.iconst 1, 1) := by decide +kernel
theorem dX2_value_128 : decode cX2_value 128 = .ok (.isub, 1) := by decide +kernel
theorem dX2_value_129 : decode cX2_value 129 = .ok (.iload 7, 2) := by decide +kernel
theorem dX2_value_131 : decode cX2_value 131 = .ok (.aload_n 0, 1) := by decide +kernel
theorem dX2_value_132 : decode cX2_value 132 = .ok (.getfield 15, 3) := by decide +kernel
theorem dX2_value_135 : decode cX2_value 135 = .ok (.iload 5, 2) := by decide +kernel
theorem dX2_value_137 : decode cX2_value 137 = .ok (.iconst 1, 1) := by decide +kernel
theorem dX2_value_138 : decode cX2_value 138 = .ok (.isub, 1) := by decide +kernel
theorem dX2_value_139 : decode cX2_value 139 = .ok (.iaload, 1) := by decide +kernel
theorem dX2_value_140 : decode cX2_value 140 = .ok (.aload_n 0, 1) := by decide +kernel
theorem dX2_value_141 : decode cX2_value 141 = .ok (.getfield 15, 3) := by decide +kernel
theorem dX2_value_144 : decode cX2_value 144 = .ok (.iload 5, 2) := by decide +kernel
theorem dX2_value_146 : decode cX2_value 146 = .ok (.iaload, 1) := by decide +kernel
theorem dX2_value_147 : decode cX2_value 147 = .ok (.invokestatic 43, 3) := by decide +kernel
theorem dX2_value_150 : decode cX2_value 150 = .ok (.iastore, 1) := by decide +kernel
theorem dX2_value_151 : decode cX2_value 151 = .ok (.iinc 6 1, 3) := by decide +kernel
theorem dX2_value_154 : decode cX2_value 154 = .ok (.goto (-148), 3) := by decide +kernel
theorem dX2_value_157 : decode cX2_value 157 = .ok (.iload 5, 2) := by decide +kernel
theorem dX2_value_159 : decode cX2_value 159 = .ok (.ifCond .le 15, 3) := by decide +kernel
theorem dX2_value_162 : decode cX2_value 162 = .ok (.aload_n 0, 1) := by decide +kernel
theorem dX2_value_163 : decode cX2_value 163 = .ok (.getfield 15, 3) := by decide +kernel
theorem dX2_value_166 : decode cX2_value 166 = .ok (.iload 5, 2) := by decide +kernel
theorem dX2_value_168 : decode cX2_value 168 = .ok (.iconst 1, 1) := by decide +kernel
theorem dX2_value_169 : decode cX2_value 169 = .ok (.isub, 1) := by decide +kernel
theorem dX2_value_170 : decode cX2_value 170 = .ok (.iaload, 1) := by decide +kernel
theorem dX2_value_171 : decode cX2_value 171 = .ok (.goto 4, 3) := by decide +kernel
theorem dX2_value_174 : decode cX2_value 174 = .ok (.iconst 0, 1) := by decide +kernel
theorem dX2_value_175 : decode cX2_value 175 = .ok (.ireturn, 1) := by decide +kernel
theorem dX2_fact_0 : decode cX2_fact 0 = .ok (.iload_n 0, 1) := by decide +kernel
theorem dX2_fact_1 : decode cX2_fact 1 = .ok (.tableswitch 40 (-4) (-1) #[37, 35, 33, 31], 31) := by decide +kernel
theorem dX2_fact_32 : decode cX2_fact 32 = .ok (.iload_n 1, 1) := by decide +kernel
theorem dX2_fact_33 : decode cX2_fact 33 = .ok (.ireturn, 1) := by decide +kernel
theorem dX2_fact_34 : decode cX2_fact 34 = .ok (.iload_n 2, 1) := by decide +kernel
theorem dX2_fact_35 : decode cX2_fact 35 = .ok (.ireturn, 1) := by decide +kernel
theorem dX2_fact_36 : decode cX2_fact 36 = .ok (.iload_n 3, 1) := by decide +kernel
theorem dX2_fact_37 : decode cX2_fact 37 = .ok (.ireturn, 1) := by decide +kernel
theorem dX2_fact_38 : decode cX2_fact 38 = .ok (.iload 4, 2) := by decide +kernel
theorem dX2_fact_40 : decode cX2_fact 40 = .ok (.ireturn, 1) := by decide +kernel
theorem dX2_fact_41 : decode cX2_fact 41 = .ok (.iload_n 0, 1) := by decide +kernel
theorem dX2_fact_42 : decode cX2_fact 42 = .ok (.ireturn, 1) := by decide +kernel
theorem dX2_joined_0 : decode cX2_joined 0 = .ok (.iload_n 0, 1) := by decide +kernel
theorem dX2_joined_1 : decode cX2_joined 1 = .ok (.tableswitch 109 (-11) (-6) #[105, 101, 87, 73, 56, 39], 39) := by decide +kernel
theorem dX2_joined_40 : decode cX2_joined 40 = .ok (.iload_n 1, 1) := by decide +kernel
theorem dX2_joined_41 : decode cX2_joined 41 = .ok (.ifCond .eq 11, 3) := by decide +kernel
theorem dX2_joined_44 : decode cX2_joined 44 = .ok (.iload_n 2, 1) := by decide +kernel
theorem dX2_joined_45 : decode cX2_joined 45 = .ok (.ifCond .eq 7, 3) := by decide +kernel
theorem dX2_joined_48 : decode cX2_joined 48 = .ok (.iconst 1, 1) := by decide +kernel
theorem dX2_joined_49 : decode cX2_joined 49 = .ok (.goto 4, 3) := by decide +kernel
theorem dX2_joined_52 : decode cX2_joined 52 = .ok (.iconst 0, 1) := by decide +kernel
theorem dX2_joined_53 : decode cX2_joined 53 = .ok (.invokestatic 39, 3) := by decide +kernel
theorem dX2_joined_56 : decode cX2_joined 56 = .ok (.ireturn, 1) := by decide +kernel
theorem dX2_joined_57 : decode cX2_joined 57 = .ok (.iload_n 1, 1) := by decide +kernel
theorem dX2_joined_58 : decode cX2_joined 58 = .ok (.ifCond .ne 7, 3) := by decide +kernel
theorem dX2_joined_61 : decode cX2_joined 61 = .ok (.iload_n 2, 1) := by decide +kernel
theorem dX2_joined_62 : decode cX2_joined 62 = .ok (.ifCond .eq 7, 3) := by decide +kernel
theorem dX2_joined_65 : decode cX2_joined 65 = .ok (.iconst 1, 1) := by decide +kernel
theorem dX2_joined_66 : decode cX2_joined 66 = .ok (.goto 4, 3) := by decide +kernel
theorem dX2_joined_69 : decode cX2_joined 69 = .ok (.iconst 0, 1) := by decide +kernel
theorem dX2_joined_70 : decode cX2_joined 70 = .ok (.invokestatic 39, 3) := by decide +kernel
theorem dX2_joined_73 : decode cX2_joined 73 = .ok (.ireturn, 1) := by decide +kernel
theorem dX2_joined_74 : decode cX2_joined 74 = .ok (.iload_n 1, 1) := by decide +kernel
theorem dX2_joined_75 : decode cX2_joined 75 = .ok (.iload_n 2, 1) := by decide +kernel
theorem dX2_joined_76 : decode cX2_joined 76 = .ok (.if_icmp .ge 7, 3) := by decide +kernel
theorem dX2_joined_79 : decode cX2_joined 79 = .ok (.iconst 1, 1) := by decide +kernel
theorem dX2_joined_80 : decode cX2_joined 80 = .ok (.goto 4, 3) := by decide +kernel
theorem dX2_joined_83 : decode cX2_joined 83 = .ok (.iconst 0, 1) := by decide +kernel
theorem dX2_joined_84 : decode cX2_joined 84 = .ok (.invokestatic 39, 3) := by decide +kernel
theorem dX2_joined_87 : decode cX2_joined 87 = .ok (.ireturn, 1) := by decide +kernel
theorem dX2_joined_88 : decode cX2_joined 88 = .ok (.iload_n 1, 1) := by decide +kernel
theorem dX2_joined_89 : decode cX2_joined 89 = .ok (.iload_n 2, 1) := by decide +kernel
theorem dX2_joined_90 : decode cX2_joined 90 = .ok (.if_icmp .ne 7, 3) := by decide +kernel
theorem dX2_joined_93 : decode cX2_joined 93 = .ok (.iconst 1, 1) := by decide +kernel
theorem dX2_joined_94 : decode cX2_joined 94 = .ok (.goto 4, 3) := by decide +kernel
theorem dX2_joined_97 : decode cX2_joined 97 = .ok (.iconst 0, 1) := by decide +kernel
theorem dX2_joined_98 : decode cX2_joined 98 = .ok (.invokestatic 39, 3) := by decide +kernel
theorem dX2_joined_101 : decode cX2_joined 101 = .ok (.ireturn, 1) := by decide +kernel
theorem dX2_joined_102 : decode cX2_joined 102 = .ok (.iload_n 1, 1) := by decide +kernel
theorem dX2_joined_103 : decode cX2_joined 103 = .ok (.iload_n 2, 1) := by decide +kernel
theorem dX2_joined_104 : decode cX2_joined 104 = .ok (.iadd, 1) := by decide +kernel
theorem dX2_joined_105 : decode cX2_joined 105 = .ok (.ireturn, 1) := by decide +kernel
theorem dX2_joined_106 : decode cX2_joined 106 = .ok (.iload_n 1, 1) := by decide +kernel
theorem dX2_joined_107 : decode cX2_joined 107 = .ok (.iload_n 2, 1) := by decide +kernel
theorem dX2_joined_108 : decode cX2_joined 108 = .ok (.isub, 1) := by decide +kernel
theorem dX2_joined_109 : decode cX2_joined 109 = .ok (.ireturn, 1) := by decide +kernel
theorem dX2_joined_110 : decode cX2_joined 110 = .ok (.iload_n 1, 1) := by decide +kernel
theorem dX2_joined_111 : decode cX2_joined 111 = .ok (.iload_n 2, 1) := by decide +kernel
theorem dX2_joined_112 : decode cX2_joined 112 = .ok (.imul, 1) := by decide +kernel
theorem dX2_joined_113 : decode cX2_joined 113 = .ok (.ireturn, 1) := by decide +kernel
theorem dX2_bit_0 : decode cX2_bit 0 = .ok (.iload_n 0, 1) := by decide +kernel
theorem dX2_bit_1 : decode cX2_bit 1 = .ok (.ifCond .eq 7, 3) := by decide +kernel
theorem dX2_bit_4 : decode cX2_bit 4 = .ok (.iconst 1, 1) := by decide +kernel
theorem dX2_bit_5 : decode cX2_bit 5 = .ok (.goto 4, 3) := by decide +kernel
theorem dX2_bit_8 : decode cX2_bit 8 = .ok (.iconst 0, 1) := by decide +kernel
theorem dX2_bit_9 : decode cX2_bit 9 = .ok (.ireturn, 1) := by decide +kernel
theorem dX3_clear_0 : decode cX3_clear 0 = .ok (.aload_n 0, 1) := by decide +kernel
theorem dX3_clear_1 : decode cX3_clear 1 = .ok (.iconst 0, 1) := by decide +kernel
theorem dX3_clear_2 : decode cX3_clear 2 = .ok (.putfield 45, 3) := by decide +kernel
theorem dX3_clear_5 : decode cX3_clear 5 = .ok (.aload_n 0, 1) := by decide +kernel
theorem dX3_clear_6 : decode cX3_clear 6 = .ok (.iconst 0, 1) := by decide +kernel
theorem dX3_clear_7 : decode cX3_clear 7 = .ok (.putfield 49, 3) := by decide +kernel
theorem dX3_clear_10 : decode cX3_clear 10 = .ok (.aload_n 0, 1) := by decide +kernel
theorem dX3_clear_11 : decode cX3_clear 11 = .ok (.iconst 0, 1) := by decide +kernel
theorem dX3_clear_12 : decode cX3_clear 12 = .ok (.putfield 52, 3) := by decide +kernel
theorem dX3_clear_15 : decode cX3_clear 15 = .ok (.aload_n 0, 1) := by decide +kernel
theorem dX3_clear_16 : decode cX3_clear 16 = .ok (.iconst 0, 1) := by decide +kernel
theorem dX3_clear_17 : decode cX3_clear 17 = .ok (.putfield 55, 3) := by decide +kernel
theorem dX3_clear_20 : decode cX3_clear 20 = .ok (.aload_n 0, 1) := by decide +kernel
theorem dX3_clear_21 : decode cX3_clear 21 = .ok (.iconst 0, 1) := by decide +kernel
theorem dX3_clear_22 : decode cX3_clear 22 = .ok (.putfield 58, 3) := by decide +kernel
theorem dX3_clear_25 : decode cX3_clear 25 = .ok (.aload_n 0, 1) := by decide +kernel
theorem dX3_clear_26 : decode cX3_clear 26 = .ok (.getfield 27, 3) := by decide +kernel
theorem dX3_clear_29 : decode cX3_clear 29 = .ok (.invokevirtual 61, 3) := by decide +kernel
theorem dX3_clear_32 : decode cX3_clear 32 = .ok (.aload_n 0, 1) := by decide +kernel
theorem dX3_clear_33 : decode cX3_clear 33 = .ok (.getfield 27, 3) := by decide +kernel
theorem dX3_clear_36 : decode cX3_clear 36 = .ok (.iconst 1, 1) := by decide +kernel
theorem dX3_clear_37 : decode cX3_clear 37 = .ok (.invokevirtual 41, 3) := by decide +kernel
theorem dX3_clear_40 : decode cX3_clear 40 = .ok (.aload_n 0, 1) := by decide +kernel
theorem dX3_clear_41 : decode cX3_clear 41 = .ok (.getfield 31, 3) := by decide +kernel
theorem dX3_clear_44 : decode cX3_clear 44 = .ok (.invokevirtual 61, 3) := by decide +kernel
theorem dX3_clear_47 : decode cX3_clear 47 = .ok (.aload_n 0, 1) := by decide +kernel
theorem dX3_clear_48 : decode cX3_clear 48 = .ok (.getfield 31, 3) := by decide +kernel
theorem dX3_clear_51 : decode cX3_clear 51 = .ok (.iconst 0, 1) := by decide +kernel
theorem dX3_clear_52 : decode cX3_clear 52 = .ok (.invokevirtual 41, 3) := by decide +kernel
theorem dX3_clear_55 : decode cX3_clear 55 = .ok (.return_, 1) := by decide +kernel
theorem dX3_riverNamed_0 : decode cX3_riverNamed 0 = .ok (.iconst 0, 1) := by decide +kernel
theorem dX3_riverNamed_1 : decode cX3_riverNamed 1 = .ok (.istore_n 3, 1) := by decide +kernel
theorem dX3_riverNamed_2 : decode cX3_riverNamed 2 = .ok (.iload_n 3, 1) := by decide +kernel
theorem dX3_riverNamed_3 : decode cX3_riverNamed 3 = .ok (.aload_n 0, 1) := by decide +kernel
theorem dX3_riverNamed_4 : decode cX3_riverNamed 4 = .ok (.getfield 45, 3) := by decide +kernel
theorem dX3_riverNamed_7 : decode cX3_riverNamed 7 = .ok (.if_icmp .ge 25, 3) := by decide +kernel
theorem dX3_riverNamed_10 : decode cX3_riverNamed 10 = .ok (.aload_n 0, 1) := by decide +kernel
theorem dX3_riverNamed_11 : decode cX3_riverNamed 11 = .ok (.getfield 13, 3) := by decide +kernel
theorem dX3_riverNamed_14 : decode cX3_riverNamed 14 = .ok (.iload_n 3, 1) := by decide +kernel
theorem dX3_riverNamed_15 : decode cX3_riverNamed 15 = .ok (.aaload, 1) := by decide +kernel
theorem dX3_riverNamed_16 : decode cX3_riverNamed 16 = .ok (.getfield 64, 3) := by decide +kernel
theorem dX3_riverNamed_19 : decode cX3_riverNamed 19 = .ok (.lload_n 1, 1) := by decide +kernel
theorem dX3_riverNamed_20 : decode cX3_riverNamed 20 = .ok (.lcmp, 1) := by decide +kernel
theorem dX3_riverNamed_21 : decode cX3_riverNamed 21 = .ok (.ifCond .ne 5, 3) := by decide +kernel
theorem dX3_riverNamed_24 : decode cX3_riverNamed 24 = .ok (.iload_n 3, 1) := by decide +kernel
theorem dX3_riverNamed_25 : decode cX3_riverNamed 25 = .ok (.ireturn, 1) := by decide +kernel
theorem dX3_riverNamed_26 : decode cX3_riverNamed 26 = .ok (.iinc 3 1, 3) := by decide +kernel
theorem dX3_riverNamed_29 : decode cX3_riverNamed 29 = .ok (.goto (-27), 3) := by decide +kernel
theorem dX3_riverNamed_32 : decode cX3_riverNamed 32 = .ok (.iconst (-1), 1) := by decide +kernel
theorem dX3_riverNamed_33 : decode cX3_riverNamed 33 = .ok (.ireturn, 1) := by decide +kernel
theorem dX3_hasRange_0 : decode cX3_hasRange 0 = .ok (.iconst 0, 1) := by decide +kernel
theorem dX3_hasRange_1 : decode cX3_hasRange 1 = .ok (.istore_n 2, 1) := by decide +kernel
theorem dX3_hasRange_2 : decode cX3_hasRange 2 = .ok (.iload_n 2, 1) := by decide +kernel
theorem dX3_hasRange_3 : decode cX3_hasRange 3 = .ok (.aload_n 0, 1) := by decide +kernel
theorem dX3_hasRange_4 : decode cX3_hasRange 4 = .ok (.getfield 49, 3) := by decide +kernel
theorem dX3_hasRange_7 : decode cX3_hasRange 7 = .ok (.if_icmp .ge 21, 3) := by decide +kernel
theorem dX3_hasRange_10 : decode cX3_hasRange 10 = .ok (.aload_n 0, 1) := by decide +kernel
theorem dX3_hasRange_11 : decode cX3_hasRange 11 = .ok (.getfield 17, 3) := by decide +kernel
theorem dX3_hasRange_14 : decode cX3_hasRange 14 = .ok (.iload_n 2, 1) := by decide +kernel
theorem dX3_hasRange_15 : decode cX3_hasRange 15 = .ok (.iaload, 1) := by decide +kernel
theorem dX3_hasRange_16 : decode cX3_hasRange 16 = .ok (.iload_n 1, 1) := by decide +kernel
theorem dX3_hasRange_17 : decode cX3_hasRange 17 = .ok (.if_icmp .ne 5, 3) := by decide +kernel
theorem dX3_hasRange_20 : decode cX3_hasRange 20 = .ok (.iconst 1, 1) := by decide +kernel
theorem dX3_hasRange_21 : decode cX3_hasRange 21 = .ok (.ireturn, 1) := by decide +kernel
theorem dX3_hasRange_22 : decode cX3_hasRange 22 = .ok (.iinc 2 1, 3) := by decide +kernel
theorem dX3_hasRange_25 : decode cX3_hasRange 25 = .ok (.goto (-23), 3) := by decide +kernel
theorem dX3_hasRange_28 : decode cX3_hasRange 28 = .ok (.iconst 0, 1) := by decide +kernel
theorem dX3_hasRange_29 : decode cX3_hasRange 29 = .ok (.ireturn, 1) := by decide +kernel
theorem dX3_settle_0 : decode cX3_settle 0 = .ok (.iconst 0, 1) := by decide +kernel
theorem dX3_settle_1 : decode cX3_settle 1 = .ok (.istore_n 1, 1) := by decide +kernel
theorem dX3_settle_2 : decode cX3_settle 2 = .ok (.iload_n 1, 1) := by decide +kernel
theorem dX3_settle_3 : decode cX3_settle 3 = .ok (.aload_n 0, 1) := by decide +kernel
theorem dX3_settle_4 : decode cX3_settle 4 = .ok (.getfield 45, 3) := by decide +kernel
theorem dX3_settle_7 : decode cX3_settle 7 = .ok (.if_icmp .ge 53, 3) := by decide +kernel
theorem dX3_settle_10 : decode cX3_settle 10 = .ok (.aload_n 0, 1) := by decide +kernel
theorem dX3_settle_11 : decode cX3_settle 11 = .ok (.getfield 34, 3) := by decide +kernel
theorem dX3_settle_14 : decode cX3_settle 14 = .ok (.iload_n 1, 1) := by decide +kernel
theorem dX3_settle_15 : decode cX3_settle 15 = .ok (.iconst 0, 1) := by decide +kernel
theorem dX3_settle_16 : decode cX3_settle 16 = .ok (.iastore, 1) := by decide +kernel
theorem dX3_settle_17 : decode cX3_settle 17 = .ok (.iconst 0, 1) := by decide +kernel
theorem dX3_settle_18 : decode cX3_settle 18 = .ok (.istore_n 2, 1) := by decide +kernel
theorem dX3_settle_19 : decode cX3_settle 19 = .ok (.iload_n 2, 1) := by decide +kernel
theorem dX3_settle_20 : decode cX3_settle 20 = .ok (.aload_n 0, 1) := by decide +kernel
theorem dX3_settle_21 : decode cX3_settle 21 = .ok (.getfield 45, 3) := by decide +kernel
theorem dX3_settle_24 : decode cX3_settle 24 = .ok (.if_icmp .ge 30, 3) := by decide +kernel
theorem dX3_settle_27 : decode cX3_settle 27 = .ok (.aload_n 0, 1) := by decide +kernel
theorem dX3_settle_28 : decode cX3_settle 28 = .ok (.iload_n 1, 1) := by decide +kernel
theorem dX3_settle_29 : decode cX3_settle 29 = .ok (.iload_n 2, 1) := by decide +kernel
theorem dX3_settle_30 : decode cX3_settle 30 = .ok (.invokevirtual 68, 3) := by decide +kernel
theorem dX3_settle_33 : decode cX3_settle 33 = .ok (.ifCond .eq 15, 3) := by decide +kernel
theorem dX3_settle_36 : decode cX3_settle 36 = .ok (.aload_n 0, 1) := by decide +kernel
theorem dX3_settle_37 : decode cX3_settle 37 = .ok (.getfield 34, 3) := by decide +kernel
theorem dX3_settle_40 : decode cX3_settle 40 = .ok (.iload_n 1, 1) := by decide +kernel
theorem dX3_settle_41 : decode cX3_settle 41 = .ok (.dup2, 1) := by decide +kernel
theorem dX3_settle_42 : decode cX3_settle 42 = .ok (.iaload, 1) := by decide +kernel
theorem dX3_settle_43 : decode cX3_settle 43 = .ok (.iconst 1, 1) := by decide +kernel
theorem dX3_settle_44 : decode cX3_settle 44 = .ok (.iload_n 2, 1) := by decide +kernel
theorem dX3_settle_45 : decode cX3_settle 45 = .ok (.ishl, 1) := by decide +kernel
theorem dX3_settle_46 : decode cX3_settle 46 = .ok (.ior, 1) := by decide +kernel
theorem dX3_settle_47 : decode cX3_settle 47 = .ok (.iastore, 1) := by decide +kernel
theorem dX3_settle_48 : decode cX3_settle 48 = .ok (.iinc 2 1, 3) := by decide +kernel
theorem dX3_settle_51 : decode cX3_settle 51 = .ok (.goto (-32), 3) := by decide +kernel
theorem dX3_settle_54 : decode cX3_settle 54 = .ok (.iinc 1 1, 3) := by decide +kernel
theorem dX3_settle_57 : decode cX3_settle 57 = .ok (.goto (-55), 3) := by decide +kernel
theorem dX3_settle_60 : decode cX3_settle 60 = .ok (.iconst 0, 1) := by decide +kernel
theorem dX3_settle_61 : decode cX3_settle 61 = .ok (.istore_n 1, 1) := by decide +kernel
theorem dX3_settle_62 : decode cX3_settle 62 = .ok (.iload_n 1, 1) := by decide +kernel
theorem dX3_settle_63 : decode cX3_settle 63 = .ok (.iconst 4, 1) := by decide +kernel
theorem dX3_settle_64 : decode cX3_settle 64 = .ok (.if_icmp .ge 14, 3) := by decide +kernel
theorem dX3_settle_67 : decode cX3_settle 67 = .ok (.aload_n 0, 1) := by decide +kernel
theorem dX3_settle_68 : decode cX3_settle 68 = .ok (.iload_n 1, 1) := by decide +kernel
theorem dX3_settle_69 : decode cX3_settle 69 = .ok (.invokevirtual 72, 3) := by decide +kernel
theorem dX3_settle_72 : decode cX3_settle 72 = .ok (.iinc 1 1, 3) := by decide +kernel
theorem dX3_settle_75 : decode cX3_settle 75 = .ok (.goto (-13), 3) := by decide +kernel
theorem dX3_settle_78 : decode cX3_settle 78 = .ok (.aload_n 0, 1) := by decide +kernel
theorem dX3_settle_79 : decode cX3_settle 79 = .ok (.invokevirtual 75, 3) := by decide +kernel
theorem dX3_settle_82 : decode cX3_settle 82 = .ok (.return_, 1) := by decide +kernel
theorem dX3_isFit_0 : decode cX3_isFit 0 = .ok (.aload_n 0, 1) := by decide +kernel
theorem dX3_isFit_1 : decode cX3_isFit 1 = .ok (.getfield 13, 3) := by decide +kernel
theorem dX3_isFit_4 : decode cX3_isFit 4 = .ok (.iload_n 1, 1) := by decide +kernel
theorem dX3_isFit_5 : decode cX3_isFit 5 = .ok (.aaload, 1) := by decide +kernel
theorem dX3_isFit_6 : decode cX3_isFit 6 = .ok (.astore_n 3, 1) := by decide +kernel
theorem dX3_isFit_7 : decode cX3_isFit 7 = .ok (.aload_n 0, 1) := by decide +kernel
theorem dX3_isFit_8 : decode cX3_isFit 8 = .ok (.getfield 13, 3) := by decide +kernel
theorem dX3_isFit_11 : decode cX3_isFit 11 = .ok (.iload_n 2, 1) := by decide +kernel
theorem dX3_isFit_12 : decode cX3_isFit 12 = .ok (.aaload, 1) := by decide +kernel
theorem dX3_isFit_13 : decode cX3_isFit 13 = .ok (.astore 4, 2) := by decide +kernel
theorem dX3_isFit_15 : decode cX3_isFit 15 = .ok (.iload_n 1, 1) := by decide +kernel
theorem dX3_isFit_16 : decode cX3_isFit 16 = .ok (.iload_n 2, 1) := by decide +kernel
theorem dX3_isFit_17 : decode cX3_isFit 17 = .ok (.if_icmp .eq 61, 3) := by decide +kernel
theorem dX3_isFit_20 : decode cX3_isFit 20 = .ok (.aload_n 3, 1) := by decide +kernel
theorem dX3_isFit_21 : decode cX3_isFit 21 = .ok (.getfield 78, 3) := by decide +kernel
theorem dX3_isFit_24 : decode cX3_isFit 24 = .ok (.iconst 3, 1) := by decide +kernel
theorem dX3_isFit_25 : decode cX3_isFit 25 = .ok (.if_icmp .eq 53, 3) := by decide +kernel
theorem dX3_isFit_28 : decode cX3_isFit 28 = .ok (.aload 4, 2) := by decide +kernel
theorem dX3_isFit_30 : decode cX3_isFit 30 = .ok (.getfield 78, 3) := by decide +kernel
theorem dX3_isFit_33 : decode cX3_isFit 33 = .ok (.iconst 3, 1) := by decide +kernel
theorem dX3_isFit_34 : decode cX3_isFit 34 = .ok (.if_icmp .eq 44, 3) := by decide +kernel
theorem dX3_isFit_37 : decode cX3_isFit 37 = .ok (.aload_n 3, 1) := by decide +kernel
theorem dX3_isFit_38 : decode cX3_isFit 38 = .ok (.getfield 81, 3) := by decide +kernel
theorem dX3_isFit_41 : decode cX3_isFit 41 = .ok (.aload 4, 2) := by decide +kernel
theorem dX3_isFit_43 : decode cX3_isFit 43 = .ok (.getfield 81, 3) := by decide +kernel
theorem dX3_isFit_46 : decode cX3_isFit 46 = .ok (.if_icmp .lt 32, 3) := by decide +kernel
theorem dX3_isFit_49 : decode cX3_isFit 49 = .ok (.aload 4, 2) := by decide +kernel
theorem dX3_isFit_51 : decode cX3_isFit 51 = .ok (.getfield 84, 3) := by decide +kernel
theorem dX3_isFit_54 : decode cX3_isFit 54 = .ok (.aload_n 3, 1) := by decide +kernel
theorem dX3_isFit_55 : decode cX3_isFit 55 = .ok (.getfield 81, 3) := by decide +kernel
theorem dX3_isFit_58 : decode cX3_isFit 58 = .ok (.if_icmp .le 20, 3) := by decide +kernel
theorem dX3_isFit_61 : decode cX3_isFit 61 = .ok (.aload_n 0, 1) := by decide +kernel
theorem dX3_isFit_62 : decode cX3_isFit 62 = .ok (.iload_n 1, 1) := by decide +kernel
theorem dX3_isFit_63 : decode cX3_isFit 63 = .ok (.iload_n 2, 1) := by decide +kernel
theorem dX3_isFit_64 : decode cX3_isFit 64 = .ok (.invokevirtual 87, 3) := by decide +kernel
theorem dX3_isFit_67 : decode cX3_isFit 67 = .ok (.aload_n 0, 1) := by decide +kernel
theorem dX3_isFit_68 : decode cX3_isFit 68 = .ok (.getfield 52, 3) := by decide +kernel
theorem dX3_isFit_71 : decode cX3_isFit 71 = .ok (.if_icmp .le 7, 3) := by decide +kernel
theorem dX3_isFit_74 : decode cX3_isFit 74 = .ok (.iconst 1, 1) := by decide +kernel
theorem dX3_isFit_75 : decode cX3_isFit 75 = .ok (.goto 4, 3) := by decide +kernel
theorem dX3_isFit_78 : decode cX3_isFit 78 = .ok (.iconst 0, 1) := by decide +kernel
theorem dX3_isFit_79 : decode cX3_isFit 79 = .ok (.ireturn, 1) := by decide +kernel
theorem dX3_sumUp_0 : decode cX3_sumUp 0 = .ok (.iload_n 1, 1) := by decide +kernel
theorem dX3_sumUp_1 : decode cX3_sumUp 1 = .ok (.bipush 64, 2) := by decide +kernel
theorem dX3_sumUp_3 : decode cX3_sumUp 3 = .ok (.imul, 1) := by decide +kernel
theorem dX3_sumUp_4 : decode cX3_sumUp 4 = .ok (.istore_n 2, 1) := by decide +kernel
theorem dX3_sumUp_5 : decode cX3_sumUp 5 = .ok (.iload_n 1, 1) := by decide +kernel
theorem dX3_sumUp_6 : decode cX3_sumUp 6 = .ok (.iconst 4, 1) := by decide +kernel
theorem dX3_sumUp_7 : decode cX3_sumUp 7 = .ok (.iadd, 1) := by decide +kernel
theorem dX3_sumUp_8 : decode cX3_sumUp 8 = .ok (.bipush 64, 2) := by decide +kernel
theorem dX3_sumUp_10 : decode cX3_sumUp 10 = .ok (.imul, 1) := by decide +kernel
theorem dX3_sumUp_11 : decode cX3_sumUp 11 = .ok (.istore_n 3, 1) := by decide +kernel
theorem dX3_sumUp_12 : decode cX3_sumUp 12 = .ok (.aload_n 0, 1) := by decide +kernel
theorem dX3_sumUp_13 : decode cX3_sumUp 13 = .ok (.getfield 37, 3) := by decide +kernel
theorem dX3_sumUp_16 : decode cX3_sumUp 16 = .ok (.iload_n 2, 1) := by decide +kernel
theorem dX3_sumUp_17 : decode cX3_sumUp 17 = .ok (.iconst 0, 1) := by decide +kernel
theorem dX3_sumUp_18 : decode cX3_sumUp 18 = .ok (.iastore, 1) := by decide +kernel
theorem dX3_sumUp_19 : decode cX3_sumUp 19 = .ok (.aload_n 0, 1) := by decide +kernel
theorem dX3_sumUp_20 : decode cX3_sumUp 20 = .ok (.getfield 37, 3) := by decide +kernel
theorem dX3_sumUp_23 : decode cX3_sumUp 23 = .ok (.iload_n 3, 1) := by decide +kernel
theorem dX3_sumUp_24 : decode cX3_sumUp 24 = .ok (.iconst 0, 1) := by decide +kernel
theorem dX3_sumUp_25 : decode cX3_sumUp 25 = .ok (.iastore, 1) := by decide +kernel
theorem dX3_sumUp_26 : decode cX3_sumUp 26 = .ok (.iconst 0, 1) := by decide +kernel
theorem dX3_sumUp_27 : decode cX3_sumUp 27 = .ok (.istore 4, 2) := by decide +kernel
theorem dX3_sumUp_29 : decode cX3_sumUp 29 = .ok (.iload 4, 2) := by decide +kernel
theorem dX3_sumUp_31 : decode cX3_sumUp 31 = .ok (.aload_n 0, 1) := by decide +kernel
theorem dX3_sumUp_32 : decode cX3_sumUp 32 = .ok (.getfield 45, 3) := by decide +kernel
theorem dX3_sumUp_35 : decode cX3_sumUp 35 = .ok (.if_icmp .ge 94, 3) := by decide +kernel
theorem dX3_sumUp_38 : decode cX3_sumUp 38 = .ok (.aload_n 0, 1) := by decide +kernel
theorem dX3_sumUp_39 : decode cX3_sumUp 39 = .ok (.getfield 13, 3) := by decide +kernel
theorem dX3_sumUp_42 : decode cX3_sumUp 42 = .ok (.iload 4, 2) := by decide +kernel
theorem dX3_sumUp_44 : decode cX3_sumUp 44 = .ok (.aaload, 1) := by decide +kernel
theorem dX3_sumUp_45 : decode cX3_sumUp 45 = .ok (.getfield 91, 3) := by decide +kernel
theorem dX3_sumUp_48 : decode cX3_sumUp 48 = .ok (.iload_n 1, 1) := by decide +kernel
theorem dX3_sumUp_49 : decode cX3_sumUp 49 = .ok (.iaload, 1) := by decide +kernel
theorem dX3_sumUp_50 : decode cX3_sumUp 50 = .ok (.istore 5, 2) := by decide +kernel
theorem dX3_sumUp_52 : decode cX3_sumUp 52 = .ok (.iconst 0, 1) := by decide +kernel
theorem dX3_sumUp_53 : decode cX3_sumUp 53 = .ok (.istore 6, 2) := by decide +kernel
theorem dX3_sumUp_55 : decode cX3_sumUp 55 = .ok (.iload 6, 2) := by decide +kernel
theorem dX3_sumUp_57 : decode cX3_sumUp 57 = .ok (.iconst 1, 1) := by decide +kernel
theorem dX3_sumUp_58 : decode cX3_sumUp 58 = .ok (.iload 4, 2) := by decide +kernel
theorem dX3_sumUp_60 : decode cX3_sumUp 60 = .ok (.ishl, 1) := by decide +kernel
theorem dX3_sumUp_61 : decode cX3_sumUp 61 = .ok (.if_icmp .ge 62, 3) := by decide +kernel
theorem dX3_sumUp_64 : decode cX3_sumUp 64 = .ok (.iload 6, 2) := by decide +kernel
theorem dX3_sumUp_66 : decode cX3_sumUp 66 = .ok (.iconst 1, 1) := by decide +kernel
theorem dX3_sumUp_67 : decode cX3_sumUp 67 = .ok (.iload 4, 2) := by decide +kernel
theorem dX3_sumUp_69 : decode cX3_sumUp 69 = .ok (.ishl, 1) := by decide +kernel
theorem dX3_sumUp_70 : decode cX3_sumUp 70 = .ok (.ior, 1) := by decide +kernel
theorem dX3_sumUp_71 : decode cX3_sumUp 71 = .ok (.istore 7, 2) := by decide +kernel
theorem dX3_sumUp_73 : decode cX3_sumUp 73 = .ok (.aload_n 0, 1) := by decide +kernel
theorem dX3_sumUp_74 : decode cX3_sumUp 74 = .ok (.getfield 37, 3) := by decide +kernel
theorem dX3_sumUp_77 : decode cX3_sumUp 77 = .ok (.iload_n 2, 1) := by decide +kernel
theorem dX3_sumUp_78 : decode cX3_sumUp 78 = .ok (.iload 7, 2) := by decide +kernel
theorem dX3_sumUp_80 : decode cX3_sumUp 80 = .ok (.iadd, 1) := by decide +kernel
theorem dX3_sumUp_81 : decode cX3_sumUp 81 = .ok (.aload_n 0, 1) := by decide +kernel
theorem dX3_sumUp_82 : decode cX3_sumUp 82 = .ok (.getfield 37, 3) := by decide +kernel
theorem dX3_sumUp_85 : decode cX3_sumUp 85 = .ok (.iload_n 2, 1) := by decide +kernel
theorem dX3_sumUp_86 : decode cX3_sumUp 86 = .ok (.iload 6, 2) := by decide +kernel
theorem dX3_sumUp_88 : decode cX3_sumUp 88 = .ok (.iadd, 1) := by decide +kernel
theorem dX3_sumUp_89 : decode cX3_sumUp 89 = .ok (.iaload, 1) := by decide +kernel
theorem dX3_sumUp_90 : decode cX3_sumUp 90 = .ok (.iload 5, 2) := by decide +kernel
theorem dX3_sumUp_92 : decode cX3_sumUp 92 = .ok (.iadd, 1) := by decide +kernel
theorem dX3_sumUp_93 : decode cX3_sumUp 93 = .ok (.iastore, 1) := by decide +kernel
theorem dX3_sumUp_94 : decode cX3_sumUp 94 = .ok (.aload_n 0, 1) := by decide +kernel
theorem dX3_sumUp_95 : decode cX3_sumUp 95 = .ok (.getfield 37, 3) := by decide +kernel
theorem dX3_sumUp_98 : decode cX3_sumUp 98 = .ok (.iload_n 3, 1) := by decide +kernel
theorem dX3_sumUp_99 : decode cX3_sumUp 99 = .ok (.iload 7, 2) := by decide +kernel
theorem dX3_sumUp_101 : decode cX3_sumUp 101 = .ok (.iadd, 1) := by decide +kernel
theorem dX3_sumUp_102 : decode cX3_sumUp 102 = .ok (.aload_n 0, 1) := by decide +kernel
theorem dX3_sumUp_103 : decode cX3_sumUp 103 = .ok (.getfield 37, 3) := by decide +kernel
theorem dX3_sumUp_106 : decode cX3_sumUp 106 = .ok (.iload_n 3, 1) := by decide +kernel
theorem dX3_sumUp_107 : decode cX3_sumUp 107 = .ok (.iload 6, 2) := by decide +kernel
theorem dX3_sumUp_109 : decode cX3_sumUp 109 = .ok (.iadd, 1) := by decide +kernel
theorem dX3_sumUp_110 : decode cX3_sumUp 110 = .ok (.iaload, 1) := by decide +kernel
theorem dX3_sumUp_111 : decode cX3_sumUp 111 = .ok (.iload 5, 2) := by decide +kernel
theorem dX3_sumUp_113 : decode cX3_sumUp 113 = .ok (.iconst 2, 1) := by decide +kernel
theorem dX3_sumUp_114 : decode cX3_sumUp 114 = .ok (.idiv, 1) := by decide +kernel
theorem dX3_sumUp_115 : decode cX3_sumUp 115 = .ok (.iadd, 1) := by decide +kernel
theorem dX3_sumUp_116 : decode cX3_sumUp 116 = .ok (.iastore, 1) := by decide +kernel
theorem dX3_sumUp_117 : decode cX3_sumUp 117 = .ok (.iinc 6 1, 3) := by decide +kernel
theorem dX3_sumUp_120 : decode cX3_sumUp 120 = .ok (.goto (-65), 3) := by decide +kernel
theorem dX3_sumUp_123 : decode cX3_sumUp 123 = .ok (.iinc 4 1, 3) := by decide +kernel
theorem dX3_sumUp_126 : decode cX3_sumUp 126 = .ok (.goto (-97), 3) := by decide +kernel
theorem dX3_sumUp_129 : decode cX3_sumUp 129 = .ok (.return_, 1) := by decide +kernel
theorem dX3_compareSeasons_0 : decode cX3_compareSeasons 0 = .ok (.iconst 0, 1) := by decide +kernel
theorem dX3_compareSeasons_1 : decode cX3_compareSeasons 1 = .ok (.istore_n 1, 1) := by decide +kernel
theorem dX3_compareSeasons_2 : decode cX3_compareSeasons 2 = .ok (.iload_n 1, 1) := by decide +kernel
theorem dX3_compareSeasons_3 : decode cX3_compareSeasons 3 = .ok (.iconst 1, 1) := by decide +kernel
theorem dX3_compareSeasons_4 : decode cX3_compareSeasons 4 = .ok (.aload_n 0, 1) := by decide +kernel
theorem dX3_compareSeasons_5 : decode cX3_compareSeasons 5 = .ok (.getfield 45, 3) := by decide +kernel
theorem dX3_compareSeasons_8 : decode cX3_compareSeasons 8 = .ok (.ishl, 1) := by decide +kernel
theorem dX3_compareSeasons_9 : decode cX3_compareSeasons 9 = .ok (.if_icmp .ge 94, 3) := by decide +kernel
theorem dX3_compareSeasons_12 : decode cX3_compareSeasons 12 = .ok (.aload_n 0, 1) := by decide +kernel
theorem dX3_compareSeasons_13 : decode cX3_compareSeasons 13 = .ok (.getfield 37, 3) := by decide +kernel
theorem dX3_compareSeasons_16 : decode cX3_compareSeasons 16 = .ok (.iload_n 1, 1) := by decide +kernel
theorem dX3_compareSeasons_17 : decode cX3_compareSeasons 17 = .ok (.iaload, 1) := by decide +kernel
theorem dX3_compareSeasons_18 : decode cX3_compareSeasons 18 = .ok (.istore_n 2, 1) := by decide +kernel
theorem dX3_compareSeasons_19 : decode cX3_compareSeasons 19 = .ok (.aload_n 0, 1) := by decide +kernel
theorem dX3_compareSeasons_20 : decode cX3_compareSeasons 20 = .ok (.getfield 37, 3) := by decide +kernel
theorem dX3_compareSeasons_23 : decode cX3_compareSeasons 23 = .ok (.iload_n 1, 1) := by decide +kernel
theorem dX3_compareSeasons_24 : decode cX3_compareSeasons 24 = .ok (.iaload, 1) := by decide +kernel
theorem dX3_compareSeasons_25 : decode cX3_compareSeasons 25 = .ok (.istore_n 3, 1) := by decide +kernel
theorem dX3_compareSeasons_26 : decode cX3_compareSeasons 26 = .ok (.iconst 1, 1) := by decide +kernel
theorem dX3_compareSeasons_27 : decode cX3_compareSeasons 27 = .ok (.istore 4, 2) := by decide +kernel
theorem dX3_compareSeasons_29 : decode cX3_compareSeasons 29 = .ok (.iload 4, 2) := by decide +kernel
theorem dX3_compareSeasons_31 : decode cX3_compareSeasons 31 = .ok (.iconst 4, 1) := by decide +kernel
theorem dX3_compareSeasons_32 : decode cX3_compareSeasons 32 = .ok (.if_icmp .ge 43, 3) := by decide +kernel
theorem dX3_compareSeasons_35 : decode cX3_compareSeasons 35 = .ok (.iload_n 2, 1) := by decide +kernel
theorem dX3_compareSeasons_36 : decode cX3_compareSeasons 36 = .ok (.aload_n 0, 1) := by decide +kernel
theorem dX3_compareSeasons_37 : decode cX3_compareSeasons 37 = .ok (.getfield 37, 3) := by decide +kernel
theorem dX3_compareSeasons_40 : decode cX3_compareSeasons 40 = .ok (.iload 4, 2) := by decide +kernel
theorem dX3_compareSeasons_42 : decode cX3_compareSeasons 42 = .ok (.bipush 64, 2) := by decide +kernel
theorem dX3_compareSeasons_44 : decode cX3_compareSeasons 44 = .ok (.imul, 1) := by decide +kernel
theorem dX3_compareSeasons_45 : decode cX3_compareSeasons 45 = .ok (.iload_n 1, 1) := by decide +kernel
theorem dX3_compareSeasons_46 : decode cX3_compareSeasons 46 = .ok (.iadd, 1) := by decide +kernel
theorem dX3_compareSeasons_47 : decode cX3_compareSeasons 47 = .ok (.iaload, 1) := by decide +kernel
theorem dX3_compareSeasons_48 : decode cX3_compareSeasons 48 = .ok (.invokestatic 94, 3) := by decide +kernel
theorem dX3_compareSeasons_51 : decode cX3_compareSeasons 51 = .ok (.istore_n 2, 1) := by decide +kernel
theorem dX3_compareSeasons_52 : decode cX3_compareSeasons 52 = .ok (.iload_n 3, 1) := by decide +kernel
theorem dX3_compareSeasons_53 : decode cX3_compareSeasons 53 = .ok (.aload_n 0, 1) := by decide +kernel
theorem dX3_compareSeasons_54 : decode cX3_compareSeasons 54 = .ok (.getfield 37, 3) := by decide +kernel
theorem dX3_compareSeasons_57 : decode cX3_compareSeasons 57 = .ok (.iload 4, 2) := by decide +kernel
theorem dX3_compareSeasons_59 : decode cX3_compareSeasons 59 = .ok (.bipush 64, 2) := by decide +kernel
theorem dX3_compareSeasons_61 : decode cX3_compareSeasons 61 = .ok (.imul, 1) := by decide +kernel
theorem dX3_compareSeasons_62 : decode cX3_compareSeasons 62 = .ok (.iload_n 1, 1) := by decide +kernel
theorem dX3_compareSeasons_63 : decode cX3_compareSeasons 63 = .ok (.iadd, 1) := by decide +kernel
theorem dX3_compareSeasons_64 : decode cX3_compareSeasons 64 = .ok (.iaload, 1) := by decide +kernel
theorem dX3_compareSeasons_65 : decode cX3_compareSeasons 65 = .ok (.invokestatic 99, 3) := by decide +kernel
theorem dX3_compareSeasons_68 : decode cX3_compareSeasons 68 = .ok (.istore_n 3, 1) := by decide +kernel
theorem dX3_compareSeasons_69 : decode cX3_compareSeasons 69 = .ok (.iinc 4 1, 3) := by decide +kernel
theorem dX3_compareSeasons_72 : decode cX3_compareSeasons 72 = .ok (.goto (-43), 3) := by decide +kernel
theorem dX3_compareSeasons_75 : decode cX3_compareSeasons 75 = .ok (.aload_n 0, 1) := by decide +kernel
theorem dX3_compareSeasons_76 : decode cX3_compareSeasons 76 = .ok (.getfield 37, 3) := by decide +kernel
theorem dX3_compareSeasons_79 : decode cX3_compareSeasons 79 = .ok (.sipush 512, 3) := by decide +kernel
theorem dX3_compareSeasons_82 : decode cX3_compareSeasons 82 = .ok (.iload_n 1, 1) := by decide +kernel
theorem dX3_compareSeasons_83 : decode cX3_compareSeasons 83 = .ok (.iadd, 1) := by decide +kernel
theorem dX3_compareSeasons_84 : decode cX3_compareSeasons 84 = .ok (.iload_n 2, 1) := by decide +kernel
theorem dX3_compareSeasons_85 : decode cX3_compareSeasons 85 = .ok (.iastore, 1) := by decide +kernel
theorem dX3_compareSeasons_86 : decode cX3_compareSeasons 86 = .ok (.aload_n 0, 1) := by decide +kernel
theorem dX3_compareSeasons_87 : decode cX3_compareSeasons 87 = .ok (.getfield 37, 3) := by decide +kernel
theorem dX3_compareSeasons_90 : decode cX3_compareSeasons 90 = .ok (.sipush 576, 3) := by decide +kernel
theorem dX3_compareSeasons_93 : decode cX3_compareSeasons 93 = .ok (.iload_n 1, 1) := by decide +kernel
theorem dX3_compareSeasons_94 : decode cX3_compareSeasons 94 = .ok (.iadd, 1) := by decide +kernel
theorem dX3_compareSeasons_95 : decode cX3_compareSeasons 95 = .ok (.iload_n 3, 1) := by decide +kernel
theorem dX3_compareSeasons_96 : decode cX3_compareSeasons 96 = .ok (.iastore, 1) := by decide +kernel
theorem dX3_compareSeasons_97 : decode cX3_compareSeasons 97 = .ok (.iinc 1 1, 3) := by decide +kernel
theorem dX3_compareSeasons_100 : decode cX3_compareSeasons 100 = .ok (.goto (-98), 3) := by decide +kernel
theorem dX3_compareSeasons_103 : decode cX3_compareSeasons 103 = .ok (.return_, 1) := by decide +kernel
theorem dX3_all_0 : decode cX3_all 0 = .ok (.iconst 1, 1) := by decide +kernel
theorem dX3_all_1 : decode cX3_all 1 = .ok (.aload_n 0, 1) := by decide +kernel
theorem dX3_all_2 : decode cX3_all 2 = .ok (.getfield 45, 3) := by decide +kernel
theorem dX3_all_5 : decode cX3_all 5 = .ok (.ishl, 1) := by decide +kernel
theorem dX3_all_6 : decode cX3_all 6 = .ok (.iconst 1, 1) := by decide +kernel
theorem dX3_all_7 : decode cX3_all 7 = .ok (.isub, 1) := by decide +kernel
theorem dX3_all_8 : decode cX3_all 8 = .ok (.ireturn, 1) := by decide +kernel
theorem dX3_water_0 : decode cX3_water 0 = .ok (.iload_n 2, 1) := by decide +kernel
theorem dX3_water_1 : decode cX3_water 1 = .ok (.ifCond .lt 23, 3) := by decide +kernel
theorem dX3_water_4 : decode cX3_water 4 = .ok (.iload_n 2, 1) := by decide +kernel
theorem dX3_water_5 : decode cX3_water 5 = .ok (.bipush 10, 2) := by decide +kernel
theorem dX3_water_7 : decode cX3_water 7 = .ok (.if_icmp .ge 17, 3) := by decide +kernel
theorem dX3_water_10 : decode cX3_water 10 = .ok (.iload_n 1, 1) := by decide +kernel
theorem dX3_water_11 : decode cX3_water 11 = .ok (.ifCond .lt 13, 3) := by decide +kernel
theorem dX3_water_14 : decode cX3_water 14 = .ok (.iload_n 1, 1) := by decide +kernel
theorem dX3_water_15 : decode cX3_water 15 = .ok (.bipush 64, 2) := by decide +kernel
theorem dX3_water_17 : decode cX3_water 17 = .ok (.if_icmp .ge 7, 3) := by decide +kernel
theorem dX3_water_20 : decode cX3_water 20 = .ok (.iconst 1, 1) := by decide +kernel
theorem dX3_water_21 : decode cX3_water 21 = .ok (.goto 4, 3) := by decide +kernel
theorem dX3_water_24 : decode cX3_water 24 = .ok (.iconst 0, 1) := by decide +kernel
theorem dX3_water_25 : decode cX3_water 25 = .ok (.istore_n 3, 1) := by decide +kernel
theorem dX3_water_26 : decode cX3_water 26 = .ok (.iload_n 3, 1) := by decide +kernel
theorem dX3_water_27 : decode cX3_water 27 = .ok (.ifCond .eq 17, 3) := by decide +kernel
theorem dX3_water_30 : decode cX3_water 30 = .ok (.aload_n 0, 1) := by decide +kernel
theorem dX3_water_31 : decode cX3_water 31 = .ok (.getfield 37, 3) := by decide +kernel
theorem dX3_water_34 : decode cX3_water 34 = .ok (.iload_n 2, 1) := by decide +kernel
theorem dX3_water_35 : decode cX3_water 35 = .ok (.bipush 64, 2) := by decide +kernel
theorem dX3_water_37 : decode cX3_water 37 = .ok (.imul, 1) := by decide +kernel
theorem dX3_water_38 : decode cX3_water 38 = .ok (.iload_n 1, 1) := by decide +kernel
theorem dX3_water_39 : decode cX3_water 39 = .ok (.iadd, 1) := by decide +kernel
theorem dX3_water_40 : decode cX3_water 40 = .ok (.iaload, 1) := by decide +kernel
theorem dX3_water_41 : decode cX3_water 41 = .ok (.goto 4, 3) := by decide +kernel
theorem dX3_water_44 : decode cX3_water 44 = .ok (.iconst 0, 1) := by decide +kernel
theorem dX3_water_45 : decode cX3_water 45 = .ok (.ireturn, 1) := by decide +kernel
theorem dX3_kinSteps_0 : decode cX3_kinSteps 0 = .ok (.iload_n 1, 1) := by decide +kernel
theorem dX3_kinSteps_1 : decode cX3_kinSteps 1 = .ok (.istore_n 3, 1) := by decide +kernel
theorem dX3_kinSteps_2 : decode cX3_kinSteps 2 = .ok (.iconst 0, 1) := by decide +kernel
theorem dX3_kinSteps_3 : decode cX3_kinSteps 3 = .ok (.istore 4, 2) := by decide +kernel
theorem dX3_kinSteps_5 : decode cX3_kinSteps 5 = .ok (.iload 4, 2) := by decide +kernel
theorem dX3_kinSteps_7 : decode cX3_kinSteps 7 = .ok (.bipush 6, 2) := by decide +kernel
theorem dX3_kinSteps_9 : decode cX3_kinSteps 9 = .ok (.if_icmp .ge 73, 3) := by decide +kernel
theorem dX3_kinSteps_12 : decode cX3_kinSteps 12 = .ok (.iload_n 3, 1) := by decide +kernel
theorem dX3_kinSteps_13 : decode cX3_kinSteps 13 = .ok (.iconst (-1), 1) := by decide +kernel
theorem dX3_kinSteps_14 : decode cX3_kinSteps 14 = .ok (.if_icmp .eq 68, 3) := by decide +kernel
theorem dX3_kinSteps_17 : decode cX3_kinSteps 17 = .ok (.iload_n 2, 1) := by decide +kernel
theorem dX3_kinSteps_18 : decode cX3_kinSteps 18 = .ok (.istore 5, 2) := by decide +kernel
theorem dX3_kinSteps_20 : decode cX3_kinSteps 20 = .ok (.iconst 0, 1) := by decide +kernel
theorem dX3_kinSteps_21 : decode cX3_kinSteps 21 = .ok (.istore 6, 2) := by decide +kernel
theorem dX3_kinSteps_23 : decode cX3_kinSteps 23 = .ok (.iload 6, 2) := by decide +kernel
theorem dX3_kinSteps_25 : decode cX3_kinSteps 25 = .ok (.bipush 6, 2) := by decide +kernel
theorem dX3_kinSteps_27 : decode cX3_kinSteps 27 = .ok (.if_icmp .ge 39, 3) := by decide +kernel
theorem dX3_kinSteps_30 : decode cX3_kinSteps 30 = .ok (.iload 5, 2) := by decide +kernel
theorem dX3_kinSteps_32 : decode cX3_kinSteps 32 = .ok (.iconst (-1), 1) := by decide +kernel
theorem dX3_kinSteps_33 : decode cX3_kinSteps 33 = .ok (.if_icmp .eq 33, 3) := by decide +kernel
theorem dX3_kinSteps_36 : decode cX3_kinSteps 36 = .ok (.iload_n 3, 1) := by decide +kernel
theorem dX3_kinSteps_37 : decode cX3_kinSteps 37 = .ok (.iload 5, 2) := by decide +kernel
theorem dX3_kinSteps_39 : decode cX3_kinSteps 39 = .ok (.if_icmp .ne 9, 3) := by decide +kernel
theorem dX3_kinSteps_42 : decode cX3_kinSteps 42 = .ok (.iload 4, 2) := by decide +kernel
theorem dX3_kinSteps_44 : decode cX3_kinSteps 44 = .ok (.iload 6, 2) := by decide +kernel
theorem dX3_kinSteps_46 : decode cX3_kinSteps 46 = .ok (.iadd, 1) := by decide +kernel
theorem dX3_kinSteps_47 : decode cX3_kinSteps 47 = .ok (.ireturn, 1) := by decide +kernel
theorem dX3_kinSteps_48 : decode cX3_kinSteps 48 = .ok (.aload_n 0, 1) := by decide +kernel
theorem dX3_kinSteps_49 : decode cX3_kinSteps 49 = .ok (.getfield 13, 3) := by decide +kernel
theorem dX3_kinSteps_52 : decode cX3_kinSteps 52 = .ok (.iload 5, 2) := by decide +kernel
theorem dX3_kinSteps_54 : decode cX3_kinSteps 54 = .ok (.aaload, 1) := by decide +kernel
theorem dX3_kinSteps_55 : decode cX3_kinSteps 55 = .ok (.getfield 102, 3) := by decide +kernel
theorem dX3_kinSteps_58 : decode cX3_kinSteps 58 = .ok (.istore 5, 2) := by decide +kernel
theorem dX3_kinSteps_60 : decode cX3_kinSteps 60 = .ok (.iinc 6 1, 3) := by decide +kernel
theorem dX3_kinSteps_63 : decode cX3_kinSteps 63 = .ok (.goto (-40), 3) := by decide +kernel
theorem dX3_kinSteps_66 : decode cX3_kinSteps 66 = .ok (.aload_n 0, 1) := by decide +kernel
theorem dX3_kinSteps_67 : decode cX3_kinSteps 67 = .ok (.getfield 13, 3) := by decide +kernel
theorem dX3_kinSteps_70 : decode cX3_kinSteps 70 = .ok (.iload_n 3, 1) := by decide +kernel
theorem dX3_kinSteps_71 : decode cX3_kinSteps 71 = .ok (.aaload, 1) := by decide +kernel
theorem dX3_kinSteps_72 : decode cX3_kinSteps 72 = .ok (.getfield 102, 3) := by decide +kernel
theorem dX3_kinSteps_75 : decode cX3_kinSteps 75 = .ok (.istore_n 3, 1) := by decide +kernel
theorem dX3_kinSteps_76 : decode cX3_kinSteps 76 = .ok (.iinc 4 1, 3) := by decide +kernel
theorem dX3_kinSteps_79 : decode cX3_kinSteps 79 = .ok (.goto (-74), 3) := by decide +kernel
theorem dX3_kinSteps_82 : decode cX3_kinSteps 82 = .ok (.bipush 99, 2) := by decide +kernel
theorem dX3_kinSteps_84 : decode cX3_kinSteps 84 = .ok (.ireturn, 1) := by decide +kernel
theorem dX3_thickness_0 : decode cX3_thickness 0 = .ok (.aload_n 0, 1) := by decide +kernel
theorem dX3_thickness_1 : decode cX3_thickness 1 = .ok (.getfield 13, 3) := by decide +kernel
theorem dX3_thickness_4 : decode cX3_thickness 4 = .ok (.iload_n 1, 1) := by decide +kernel
theorem dX3_thickness_5 : decode cX3_thickness 5 = .ok (.aaload, 1) := by decide +kernel
theorem dX3_thickness_6 : decode cX3_thickness 6 = .ok (.getfield 105, 3) := by decide +kernel
theorem dX3_thickness_9 : decode cX3_thickness 9 = .ok (.aload_n 0, 1) := by decide +kernel
theorem dX3_thickness_10 : decode cX3_thickness 10 = .ok (.getfield 13, 3) := by decide +kernel
theorem dX3_thickness_13 : decode cX3_thickness 13 = .ok (.iload_n 2, 1) := by decide +kernel
theorem dX3_thickness_14 : decode cX3_thickness 14 = .ok (.aaload, 1) := by decide +kernel
theorem dX3_thickness_15 : decode cX3_thickness 15 = .ok (.getfield 105, 3) := by decide +kernel
theorem dX3_thickness_18 : decode cX3_thickness 18 = .ok (.invokestatic 94, 3) := by decide +kernel
theorem dX3_thickness_21 : decode cX3_thickness 21 = .ok (.istore_n 3, 1) := by decide +kernel
theorem dX3_thickness_22 : decode cX3_thickness 22 = .ok (.aload_n 0, 1) := by decide +kernel
theorem dX3_thickness_23 : decode cX3_thickness 23 = .ok (.getfield 13, 3) := by decide +kernel
theorem dX3_thickness_26 : decode cX3_thickness 26 = .ok (.iload_n 1, 1) := by decide +kernel
theorem dX3_thickness_27 : decode cX3_thickness 27 = .ok (.aaload, 1) := by decide +kernel
theorem dX3_thickness_28 : decode cX3_thickness 28 = .ok (.getfield 105, 3) := by decide +kernel
theorem dX3_thickness_31 : decode cX3_thickness 31 = .ok (.aload_n 0, 1) := by decide +kernel
theorem dX3_thickness_32 : decode cX3_thickness 32 = .ok (.getfield 13, 3) := by decide +kernel
theorem dX3_thickness_35 : decode cX3_thickness 35 = .ok (.iload_n 2, 1) := by decide +kernel
theorem dX3_thickness_36 : decode cX3_thickness 36 = .ok (.aaload, 1) := by decide +kernel
theorem dX3_thickness_37 : decode cX3_thickness 37 = .ok (.getfield 105, 3) := by decide +kernel
theorem dX3_thickness_40 : decode cX3_thickness 40 = .ok (.invokestatic 99, 3) := by decide +kernel
theorem dX3_thickness_43 : decode cX3_thickness 43 = .ok (.istore 4, 2) := by decide +kernel
theorem dX3_thickness_45 : decode cX3_thickness 45 = .ok (.iconst 0, 1) := by decide +kernel
theorem dX3_thickness_46 : decode cX3_thickness 46 = .ok (.istore 5, 2) := by decide +kernel
theorem dX3_thickness_48 : decode cX3_thickness 48 = .ok (.iconst 0, 1) := by decide +kernel
theorem dX3_thickness_49 : decode cX3_thickness 49 = .ok (.istore 6, 2) := by decide +kernel
theorem dX3_thickness_51 : decode cX3_thickness 51 = .ok (.iload 6, 2) := by decide +kernel
theorem dX3_thickness_53 : decode cX3_thickness 53 = .ok (.aload_n 0, 1) := by decide +kernel
theorem dX3_thickness_54 : decode cX3_thickness 54 = .ok (.getfield 49, 3) := by decide +kernel
theorem dX3_thickness_57 : decode cX3_thickness 57 = .ok (.if_icmp .ge 44, 3) := by decide +kernel
theorem dX3_thickness_60 : decode cX3_thickness 60 = .ok (.aload_n 0, 1) := by decide +kernel
theorem dX3_thickness_61 : decode cX3_thickness 61 = .ok (.getfield 17, 3) := by decide +kernel
theorem dX3_thickness_64 : decode cX3_thickness 64 = .ok (.iload 6, 2) := by decide +kernel
theorem dX3_thickness_66 : decode cX3_thickness 66 = .ok (.iaload, 1) := by decide +kernel
theorem dX3_thickness_67 : decode cX3_thickness 67 = .ok (.iload_n 3, 1) := by decide +kernel
theorem dX3_thickness_68 : decode cX3_thickness 68 = .ok (.if_icmp .le 27, 3) := by decide +kernel
theorem dX3_thickness_71 : decode cX3_thickness 71 = .ok (.aload_n 0, 1) := by decide +kernel
theorem dX3_thickness_72 : decode cX3_thickness 72 = .ok (.getfield 17, 3) := by decide +kernel
theorem dX3_thickness_75 : decode cX3_thickness 75 = .ok (.iload 6, 2) := by decide +kernel
theorem dX3_thickness_77 : decode cX3_thickness 77 = .ok (.iaload, 1) := by decide +kernel
theorem dX3_thickness_78 : decode cX3_thickness 78 = .ok (.iload 4, 2) := by decide +kernel
theorem dX3_thickness_80 : decode cX3_thickness 80 = .ok (.if_icmp .ge 15, 3) := by decide +kernel
theorem dX3_thickness_83 : decode cX3_thickness 83 = .ok (.iload 5, 2) := by decide +kernel
theorem dX3_thickness_85 : decode cX3_thickness 85 = .ok (.aload_n 0, 1) := by decide +kernel
theorem dX3_thickness_86 : decode cX3_thickness 86 = .ok (.getfield 21, 3) := by decide +kernel
theorem dX3_thickness_89 : decode cX3_thickness 89 = .ok (.iload 6, 2) := by decide +kernel
theorem dX3_thickness_91 : decode cX3_thickness 91 = .ok (.iaload, 1) := by decide +kernel
theorem dX3_thickness_92 : decode cX3_thickness 92 = .ok (.iadd, 1) := by decide +kernel
theorem dX3_thickness_93 : decode cX3_thickness 93 = .ok (.istore 5, 2) := by decide +kernel
theorem dX3_thickness_95 : decode cX3_thickness 95 = .ok (.iinc 6 1, 3) := by decide +kernel
theorem dX3_thickness_98 : decode cX3_thickness 98 = .ok (.goto (-47), 3) := by decide +kernel
theorem dX3_thickness_101 : decode cX3_thickness 101 = .ok (.iload 5, 2) := by decide +kernel
theorem dX3_thickness_103 : decode cX3_thickness 103 = .ok (.ireturn, 1) := by decide +kernel
theorem dX3_digging_0 : decode cX3_digging 0 = .ok (.aload_n 0, 1) := by decide +kernel
theorem dX3_digging_1 : decode cX3_digging 1 = .ok (.getfield 13, 3) := by decide +kernel
theorem dX3_digging_4 : decode cX3_digging 4 = .ok (.iload_n 1, 1) := by decide +kernel
theorem dX3_digging_5 : decode cX3_digging 5 = .ok (.aaload, 1) := by decide +kernel
theorem dX3_digging_6 : decode cX3_digging 6 = .ok (.getfield 105, 3) := by decide +kernel
theorem dX3_digging_9 : decode cX3_digging 9 = .ok (.aload_n 0, 1) := by decide +kernel
theorem dX3_digging_10 : decode cX3_digging 10 = .ok (.getfield 13, 3) := by decide +kernel
theorem dX3_digging_13 : decode cX3_digging 13 = .ok (.iload_n 2, 1) := by decide +kernel
theorem dX3_digging_14 : decode cX3_digging 14 = .ok (.aaload, 1) := by decide +kernel
theorem dX3_digging_15 : decode cX3_digging 15 = .ok (.getfield 105, 3) := by decide +kernel
theorem dX3_digging_18 : decode cX3_digging 18 = .ok (.isub, 1) := by decide +kernel
theorem dX3_digging_19 : decode cX3_digging 19 = .ok (.invokestatic 108, 3) := by decide +kernel
theorem dX3_digging_22 : decode cX3_digging 22 = .ok (.aload_n 0, 1) := by decide +kernel
theorem dX3_digging_23 : decode cX3_digging 23 = .ok (.iload_n 1, 1) := by decide +kernel
theorem dX3_digging_24 : decode cX3_digging 24 = .ok (.iload_n 2, 1) := by decide +kernel
theorem dX3_digging_25 : decode cX3_digging 25 = .ok (.invokevirtual 112, 3) := by decide +kernel
theorem dX3_digging_28 : decode cX3_digging 28 = .ok (.iadd, 1) := by decide +kernel
theorem dX3_digging_29 : decode cX3_digging 29 = .ok (.ireturn, 1) := by decide +kernel
theorem dX3_floodChance_0 : decode cX3_floodChance 0 = .ok (.iload_n 1, 1) := by decide +kernel
theorem dX3_floodChance_1 : decode cX3_floodChance 1 = .ok (.invokestatic 115, 3) := by decide +kernel
theorem dX3_floodChance_4 : decode cX3_floodChance 4 = .ok (.istore 4, 2) := by decide +kernel
theorem dX3_floodChance_6 : decode cX3_floodChance 6 = .ok (.aload_n 0, 1) := by decide +kernel
theorem dX3_floodChance_7 : decode cX3_floodChance 7 = .ok (.iload_n 1, 1) := by decide +kernel
theorem dX3_floodChance_8 : decode cX3_floodChance 8 = .ok (.iload_n 2, 1) := by decide +kernel
theorem dX3_floodChance_9 : decode cX3_floodChance 9 = .ok (.invokevirtual 120, 3) := by decide +kernel
theorem dX3_floodChance_12 : decode cX3_floodChance 12 = .ok (.istore 5, 2) := by decide +kernel
theorem dX3_floodChance_14 : decode cX3_floodChance 14 = .ok (.iconst 0, 1) := by decide +kernel
theorem dX3_floodChance_15 : decode cX3_floodChance 15 = .ok (.istore 6, 2) := by decide +kernel
theorem dX3_floodChance_17 : decode cX3_floodChance 17 = .ok (.iconst 0, 1) := by decide +kernel
theorem dX3_floodChance_18 : decode cX3_floodChance 18 = .ok (.istore 7, 2) := by decide +kernel
theorem dX3_floodChance_20 : decode cX3_floodChance 20 = .ok (.iload 7, 2) := by decide +kernel
theorem dX3_floodChance_22 : decode cX3_floodChance 22 = .ok (.iload 4, 2) := by decide +kernel
theorem dX3_floodChance_24 : decode cX3_floodChance 24 = .ok (.if_icmp .gt 36, 3) := by decide +kernel
theorem dX3_floodChance_27 : decode cX3_floodChance 27 = .ok (.iload 5, 2) := by decide +kernel
theorem dX3_floodChance_29 : decode cX3_floodChance 29 = .ok (.iload 7, 2) := by decide +kernel
theorem dX3_floodChance_31 : decode cX3_floodChance 31 = .ok (.aload_n 0, 1) := by decide +kernel
theorem dX3_floodChance_32 : decode cX3_floodChance 32 = .ok (.getfield 58, 3) := by decide +kernel
theorem dX3_floodChance_35 : decode cX3_floodChance 35 = .ok (.imul, 1) := by decide +kernel
theorem dX3_floodChance_36 : decode cX3_floodChance 36 = .ok (.iadd, 1) := by decide +kernel
theorem dX3_floodChance_37 : decode cX3_floodChance 37 = .ok (.iload_n 3, 1) := by decide +kernel
theorem dX3_floodChance_38 : decode cX3_floodChance 38 = .ok (.if_icmp .le 16, 3) := by decide +kernel
theorem dX3_floodChance_41 : decode cX3_floodChance 41 = .ok (.iload 6, 2) := by decide +kernel
theorem dX3_floodChance_43 : decode cX3_floodChance 43 = .ok (.aload_n 0, 1) := by decide +kernel
theorem dX3_floodChance_44 : decode cX3_floodChance 44 = .ok (.iload 7, 2) := by decide +kernel
theorem dX3_floodChance_46 : decode cX3_floodChance 46 = .ok (.iload 4, 2) := by decide +kernel
theorem dX3_floodChance_48 : decode cX3_floodChance 48 = .ok (.invokevirtual 122, 3) := by decide +kernel
theorem dX3_floodChance_51 : decode cX3_floodChance 51 = .ok (.iadd, 1) := by decide +kernel
theorem dX3_floodChance_52 : decode cX3_floodChance 52 = .ok (.istore 6, 2) := by decide +kernel
theorem dX3_floodChance_54 : decode cX3_floodChance 54 = .ok (.iinc 7 1, 3) := by decide +kernel
theorem dX3_floodChance_57 : decode cX3_floodChance 57 = .ok (.goto (-37), 3) := by decide +kernel
theorem dX3_floodChance_60 : decode cX3_floodChance 60 = .ok (.iload 6, 2) := by decide +kernel
theorem dX3_floodChance_62 : decode cX3_floodChance 62 = .ok (.ireturn, 1) := by decide +kernel
theorem dX3_chanceOf_0 : decode cX3_chanceOf 0 = .ok (.iconst 1, 1) := by decide +kernel
theorem dX3_chanceOf_1 : decode cX3_chanceOf 1 = .ok (.istore_n 3, 1) := by decide +kernel
theorem dX3_chanceOf_2 : decode cX3_chanceOf 2 = .ok (.iconst 0, 1) := by decide +kernel
theorem dX3_chanceOf_3 : decode cX3_chanceOf 3 = .ok (.istore 4, 2) := by decide +kernel
theorem dX3_chanceOf_5 : decode cX3_chanceOf 5 = .ok (.iload 4, 2) := by decide +kernel
theorem dX3_chanceOf_7 : decode cX3_chanceOf 7 = .ok (.iload_n 1, 1) := by decide +kernel
theorem dX3_chanceOf_8 : decode cX3_chanceOf 8 = .ok (.if_icmp .ge 21, 3) := by decide +kernel
theorem dX3_chanceOf_11 : decode cX3_chanceOf 11 = .ok (.iload_n 3, 1) := by decide +kernel
theorem dX3_chanceOf_12 : decode cX3_chanceOf 12 = .ok (.iload_n 2, 1) := by decide +kernel
theorem dX3_chanceOf_13 : decode cX3_chanceOf 13 = .ok (.iload 4, 2) := by decide +kernel
theorem dX3_chanceOf_15 : decode cX3_chanceOf 15 = .ok (.isub, 1) := by decide +kernel
theorem dX3_chanceOf_16 : decode cX3_chanceOf 16 = .ok (.imul, 1) := by decide +kernel
theorem dX3_chanceOf_17 : decode cX3_chanceOf 17 = .ok (.iload 4, 2) := by decide +kernel
theorem dX3_chanceOf_19 : decode cX3_chanceOf 19 = .ok (.iconst 1, 1) := by decide +kernel
theorem dX3_chanceOf_20 : decode cX3_chanceOf 20 = .ok (.iadd, 1) := by decide +kernel
theorem dX3_chanceOf_21 : decode cX3_chanceOf 21 = .ok (.idiv, 1) := by decide +kernel
theorem dX3_chanceOf_22 : decode cX3_chanceOf 22 = .ok (.istore_n 3, 1) := by decide +kernel
theorem dX3_chanceOf_23 : decode cX3_chanceOf 23 = .ok (.iinc 4 1, 3) := by decide +kernel
theorem dX3_chanceOf_26 : decode cX3_chanceOf 26 = .ok (.goto (-21), 3) := by decide +kernel
theorem dX3_chanceOf_29 : decode cX3_chanceOf 29 = .ok (.iconst 0, 1) := by decide +kernel
theorem dX3_chanceOf_30 : decode cX3_chanceOf 30 = .ok (.istore 4, 2) := by decide +kernel
theorem dX3_chanceOf_32 : decode cX3_chanceOf 32 = .ok (.iload 4, 2) := by decide +kernel
theorem dX3_chanceOf_34 : decode cX3_chanceOf 34 = .ok (.bipush 6, 2) := by decide +kernel
theorem dX3_chanceOf_36 : decode cX3_chanceOf 36 = .ok (.if_icmp .ge 47, 3) := by decide +kernel
theorem dX3_chanceOf_39 : decode cX3_chanceOf 39 = .ok (.iload 4, 2) := by decide +kernel
theorem dX3_chanceOf_41 : decode cX3_chanceOf 41 = .ok (.iload_n 1, 1) := by decide +kernel
theorem dX3_chanceOf_42 : decode cX3_chanceOf 42 = .ok (.if_icmp .ge 10, 3) := by decide +kernel
theorem dX3_chanceOf_45 : decode cX3_chanceOf 45 = .ok (.aload_n 0, 1) := by decide +kernel
theorem dX3_chanceOf_46 : decode cX3_chanceOf 46 = .ok (.getfield 55, 3) := by decide +kernel
theorem dX3_chanceOf_49 : decode cX3_chanceOf 49 = .ok (.goto 10, 3) := by decide +kernel
theorem dX3_chanceOf_52 : decode cX3_chanceOf 52 = .ok (.bipush 10, 2) := by decide +kernel
theorem dX3_chanceOf_54 : decode cX3_chanceOf 54 = .ok (.aload_n 0, 1) := by decide +kernel
theorem dX3_chanceOf_55 : decode cX3_chanceOf 55 = .ok (.getfield 55, 3) := by decide +kernel
theorem dX3_chanceOf_58 : decode cX3_chanceOf 58 = .ok (.isub, 1) := by decide +kernel
theorem dX3_chanceOf_59 : decode cX3_chanceOf 59 = .ok (.istore 5, 2) := by decide +kernel
theorem dX3_chanceOf_61 : decode cX3_chanceOf 61 = .ok (.iload_n 3, 1) := by decide +kernel
theorem dX3_chanceOf_62 : decode cX3_chanceOf 62 = .ok (.iload 4, 2) := by decide +kernel
theorem dX3_chanceOf_64 : decode cX3_chanceOf 64 = .ok (.iload_n 2, 1) := by decide +kernel
theorem dX3_chanceOf_65 : decode cX3_chanceOf 65 = .ok (.if_icmp .ge 8, 3) := by decide +kernel
theorem dX3_chanceOf_68 : decode cX3_chanceOf 68 = .ok (.iload 5, 2) := by decide +kernel
theorem dX3_chanceOf_70 : decode cX3_chanceOf 70 = .ok (.goto 5, 3) := by decide +kernel
theorem dX3_chanceOf_73 : decode cX3_chanceOf 73 = .ok (.bipush 10, 2) := by decide +kernel
theorem dX3_chanceOf_75 : decode cX3_chanceOf 75 = .ok (.imul, 1) := by decide +kernel
theorem dX3_chanceOf_76 : decode cX3_chanceOf 76 = .ok (.istore_n 3, 1) := by decide +kernel
theorem dX3_chanceOf_77 : decode cX3_chanceOf 77 = .ok (.iinc 4 1, 3) := by decide +kernel
theorem dX3_chanceOf_80 : decode cX3_chanceOf 80 = .ok (.goto (-48), 3) := by decide +kernel
theorem dX3_chanceOf_83 : decode cX3_chanceOf 83 = .ok (.iload_n 3, 1) := by decide +kernel
theorem dX3_chanceOf_84 : decode cX3_chanceOf 84 = .ok (.ireturn, 1) := by decide +kernel
theorem dX4_begin_0 : decode cX4_begin 0 = .ok (.aload_n 0, 1) := by decide +kernel
theorem dX4_begin_1 : decode cX4_begin 1 = .ok (.iconst 0, 1) := by decide +kernel
theorem dX4_begin_2 : decode cX4_begin 2 = .ok (.putfield 9, 3) := by decide +kernel
theorem dX4_begin_5 : decode cX4_begin 5 = .ok (.aload_n 0, 1) := by decide +kernel
theorem dX4_begin_6 : decode cX4_begin 6 = .ok (.iconst 0, 1) := by decide +kernel
theorem dX4_begin_7 : decode cX4_begin 7 = .ok (.putfield 15, 3) := by decide +kernel
theorem dX4_begin_10 : decode cX4_begin 10 = .ok (.return_, 1) := by decide +kernel
theorem dX4_note_0 : decode cX4_note 0 = .ok (.aload_n 0, 1) := by decide +kernel
theorem dX4_note_1 : decode cX4_note 1 = .ok (.getfield 18, 3) := by decide +kernel
theorem dX4_note_4 : decode cX4_note 4 = .ok (.bipush 8, 2) := by decide +kernel
theorem dX4_note_6 : decode cX4_note 6 = .ok (.invokevirtual 24, 3) := by decide +kernel
theorem dX4_note_9 : decode cX4_note 9 = .ok (.ifCond .ne 15, 3) := by decide +kernel
theorem dX4_note_12 : decode cX4_note 12 = .ok (.aload_n 0, 1) := by decide +kernel
theorem dX4_note_13 : decode cX4_note 13 = .ok (.getfield 18, 3) := by decide +kernel
theorem dX4_note_16 : decode cX4_note 16 = .ok (.bipush 9, 2) := by decide +kernel
theorem dX4_note_18 : decode cX4_note 18 = .ok (.invokevirtual 30, 3) := by decide +kernel
theorem dX4_note_21 : decode cX4_note 21 = .ok (.ifCond .eq 4, 3) := by decide +kernel
theorem dX4_note_24 : decode cX4_note 24 = .ok (.return_, 1) := by decide +kernel
theorem dX4_note_25 : decode cX4_note 25 = .ok (.iload_n 1, 1) := by decide +kernel
theorem dX4_note_26 : decode cX4_note 26 = .ok (.aload_n 0, 1) := by decide +kernel
theorem dX4_note_27 : decode cX4_note 27 = .ok (.getfield 9, 3) := by decide +kernel
theorem dX4_note_30 : decode cX4_note 30 = .ok (.if_icmp .lt 19, 3) := by decide +kernel
theorem dX4_note_33 : decode cX4_note 33 = .ok (.iload_n 1, 1) := by decide +kernel
theorem dX4_note_34 : decode cX4_note 34 = .ok (.aload_n 0, 1) := by decide +kernel
theorem dX4_note_35 : decode cX4_note 35 = .ok (.getfield 9, 3) := by decide +kernel
theorem dX4_note_38 : decode cX4_note 38 = .ok (.if_icmp .ne 15, 3) := by decide +kernel
theorem dX4_note_41 : decode cX4_note 41 = .ok (.iload_n 2, 1) := by decide +kernel
theorem dX4_note_42 : decode cX4_note 42 = .ok (.aload_n 0, 1) := by decide +kernel
theorem dX4_note_43 : decode cX4_note 43 = .ok (.getfield 15, 3) := by decide +kernel
theorem dX4_note_46 : decode cX4_note 46 = .ok (.if_icmp .ge 7, 3) := by decide +kernel
theorem dX4_note_49 : decode cX4_note 49 = .ok (.iconst 1, 1) := by decide +kernel
theorem dX4_note_50 : decode cX4_note 50 = .ok (.goto 4, 3) := by decide +kernel
theorem dX4_note_53 : decode cX4_note 53 = .ok (.iconst 0, 1) := by decide +kernel
theorem dX4_note_54 : decode cX4_note 54 = .ok (.istore_n 3, 1) := by decide +kernel
theorem dX4_note_55 : decode cX4_note 55 = .ok (.aload_n 0, 1) := by decide +kernel
theorem dX4_note_56 : decode cX4_note 56 = .ok (.getfield 33, 3) := by decide +kernel
theorem dX4_note_59 : decode cX4_note 59 = .ok (.ifCond .eq 7, 3) := by decide +kernel
theorem dX4_note_62 : decode cX4_note 62 = .ok (.iload_n 3, 1) := by decide +kernel
theorem dX4_note_63 : decode cX4_note 63 = .ok (.ifCond .eq 31, 3) := by decide +kernel
theorem dX4_note_66 : decode cX4_note 66 = .ok (.aload_n 0, 1) := by decide +kernel
theorem dX4_note_67 : decode cX4_note 67 = .ok (.iload_n 1, 1) := by decide +kernel
theorem dX4_note_68 : decode cX4_note 68 = .ok (.putfield 9, 3) := by decide +kernel
theorem dX4_note_71 : decode cX4_note 71 = .ok (.aload_n 0, 1) := by decide +kernel
theorem dX4_note_72 : decode cX4_note 72 = .ok (.iload_n 2, 1) := by decide +kernel
theorem dX4_note_73 : decode cX4_note 73 = .ok (.putfield 15, 3) := by decide +kernel
theorem dX4_note_76 : decode cX4_note 76 = .ok (.aload_n 0, 1) := by decide +kernel
theorem dX4_note_77 : decode cX4_note 77 = .ok (.getfield 18, 3) := by decide +kernel
theorem dX4_note_80 : decode cX4_note 80 = .ok (.getfield 36, 3) := by decide +kernel
theorem dX4_note_83 : decode cX4_note 83 = .ok (.iconst 0, 1) := by decide +kernel
theorem dX4_note_84 : decode cX4_note 84 = .ok (.aload_n 0, 1) := by decide +kernel
theorem dX4_note_85 : decode cX4_note 85 = .ok (.getfield 40, 3) := by decide +kernel
theorem dX4_note_88 : decode cX4_note 88 = .ok (.iconst 0, 1) := by decide +kernel
theorem dX4_note_89 : decode cX4_note 89 = .ok (.bipush 6, 2) := by decide +kernel
theorem dX4_note_91 : decode cX4_note 91 = .ok (.invokestatic 41, 3) := by decide +kernel
theorem dX4_note_94 : decode cX4_note 94 = .ok (.aload_n 0, 1) := by decide +kernel
theorem dX4_note_95 : decode cX4_note 95 = .ok (.dup, 1) := by decide +kernel
theorem dX4_note_96 : decode cX4_note 96 = .ok (.getfield 33, 3) := by decide +kernel
theorem dX4_note_99 : decode cX4_note 99 = .ok (.iconst 1, 1) := by decide +kernel
theorem dX4_note_100 : decode cX4_note 100 = .ok (.iadd, 1) := by decide +kernel
theorem dX4_note_101 : decode cX4_note 101 = .ok (.putfield 33, 3) := by decide +kernel
theorem dX4_note_104 : decode cX4_note 104 = .ok (.return_, 1) := by decide +kernel
theorem dX4_end_0 : decode cX4_end 0 = .ok (.return_, 1) := by decide +kernel
theorem dX5_clear_0 : decode cX5_clear 0 = .ok (.aload_n 0, 1) := by decide +kernel
theorem dX5_clear_1 : decode cX5_clear 1 = .ok (.aload_n 1, 1) := by decide +kernel
theorem dX5_clear_2 : decode cX5_clear 2 = .ok (.putfield 18, 3) := by decide +kernel
theorem dX5_clear_5 : decode cX5_clear 5 = .ok (.iconst 0, 1) := by decide +kernel
theorem dX5_clear_6 : decode cX5_clear 6 = .ok (.istore_n 2, 1) := by decide +kernel
theorem dX5_clear_7 : decode cX5_clear 7 = .ok (.iload_n 2, 1) := by decide +kernel
theorem dX5_clear_8 : decode cX5_clear 8 = .ok (.bipush 6, 2) := by decide +kernel
theorem dX5_clear_10 : decode cX5_clear 10 = .ok (.if_icmp .ge 25, 3) := by decide +kernel
theorem dX5_clear_13 : decode cX5_clear 13 = .ok (.aload_n 0, 1) := by decide +kernel
theorem dX5_clear_14 : decode cX5_clear 14 = .ok (.getfield 9, 3) := by decide +kernel
theorem dX5_clear_17 : decode cX5_clear 17 = .ok (.iload_n 2, 1) := by decide +kernel
theorem dX5_clear_18 : decode cX5_clear 18 = .ok (.iconst (-1), 1) := by decide +kernel
theorem dX5_clear_19 : decode cX5_clear 19 = .ok (.iastore, 1) := by decide +kernel
theorem dX5_clear_20 : decode cX5_clear 20 = .ok (.aload_n 0, 1) := by decide +kernel
theorem dX5_clear_21 : decode cX5_clear 21 = .ok (.getfield 15, 3) := by decide +kernel
theorem dX5_clear_24 : decode cX5_clear 24 = .ok (.iload_n 2, 1) := by decide +kernel
theorem dX5_clear_25 : decode cX5_clear 25 = .ok (.iconst 1, 1) := by decide +kernel
theorem dX5_clear_26 : decode cX5_clear 26 = .ok (.iload_n 2, 1) := by decide +kernel
theorem dX5_clear_27 : decode cX5_clear 27 = .ok (.ishl, 1) := by decide +kernel
theorem dX5_clear_28 : decode cX5_clear 28 = .ok (.iastore, 1) := by decide +kernel
theorem dX5_clear_29 : decode cX5_clear 29 = .ok (.iinc 2 1, 3) := by decide +kernel
theorem dX5_clear_32 : decode cX5_clear 32 = .ok (.goto (-25), 3) := by decide +kernel
theorem dX5_clear_35 : decode cX5_clear 35 = .ok (.return_, 1) := by decide +kernel
theorem dX5_lay_0 : decode cX5_lay 0 = .ok (.aload_n 0, 1) := by decide +kernel
theorem dX5_lay_1 : decode cX5_lay 1 = .ok (.aload_n 1, 1) := by decide +kernel
theorem dX5_lay_2 : decode cX5_lay 2 = .ok (.invokevirtual 22, 3) := by decide +kernel
theorem dX5_lay_5 : decode cX5_lay 5 = .ok (.iconst 0, 1) := by decide +kernel
theorem dX5_lay_6 : decode cX5_lay 6 = .ok (.istore_n 3, 1) := by decide +kernel
theorem dX5_lay_7 : decode cX5_lay 7 = .ok (.iload_n 3, 1) := by decide +kernel
theorem dX5_lay_8 : decode cX5_lay 8 = .ok (.aload_n 1, 1) := by decide +kernel
theorem dX5_lay_9 : decode cX5_lay 9 = .ok (.getfield 26, 3) := by decide +kernel
theorem dX5_lay_12 : decode cX5_lay 12 = .ok (.if_icmp .ge 30, 3) := by decide +kernel
theorem dX5_lay_15 : decode cX5_lay 15 = .ok (.iload_n 3, 1) := by decide +kernel
theorem dX5_lay_16 : decode cX5_lay 16 = .ok (.aload_n 2, 1) := by decide +kernel
theorem dX5_lay_17 : decode cX5_lay 17 = .ok (.arraylength, 1) := by decide +kernel
theorem dX5_lay_18 : decode cX5_lay 18 = .ok (.if_icmp .ge 24, 3) := by decide +kernel
theorem dX5_lay_21 : decode cX5_lay 21 = .ok (.aload_n 2, 1) := by decide +kernel
theorem dX5_lay_22 : decode cX5_lay 22 = .ok (.iload_n 3, 1) := by decide +kernel
theorem dX5_lay_23 : decode cX5_lay 23 = .ok (.iaload, 1) := by decide +kernel
theorem dX5_lay_24 : decode cX5_lay 24 = .ok (.iconst (-1), 1) := by decide +kernel
theorem dX5_lay_25 : decode cX5_lay 25 = .ok (.if_icmp .eq 11, 3) := by decide +kernel
theorem dX5_lay_28 : decode cX5_lay 28 = .ok (.aload_n 0, 1) := by decide +kernel
theorem dX5_lay_29 : decode cX5_lay 29 = .ok (.iload_n 3, 1) := by decide +kernel
theorem dX5_lay_30 : decode cX5_lay 30 = .ok (.aload_n 2, 1) := by decide +kernel
theorem dX5_lay_31 : decode cX5_lay 31 = .ok (.iload_n 3, 1) := by decide +kernel
theorem dX5_lay_32 : decode cX5_lay 32 = .ok (.iaload, 1) := by decide +kernel
theorem dX5_lay_33 : decode cX5_lay 33 = .ok (.invokevirtual 32, 3) := by decide +kernel
theorem dX5_lay_36 : decode cX5_lay 36 = .ok (.iinc 3 1, 3) := by decide +kernel
theorem dX5_lay_39 : decode cX5_lay 39 = .ok (.goto (-32), 3) := by decide +kernel
theorem dX5_lay_42 : decode cX5_lay 42 = .ok (.return_, 1) := by decide +kernel
theorem dX5_knows_0 : decode cX5_knows 0 = .ok (.iload_n 1, 1) := by decide +kernel
theorem dX5_knows_1 : decode cX5_knows 1 = .ok (.ifCond .lt 18, 3) := by decide +kernel
theorem dX5_knows_4 : decode cX5_knows 4 = .ok (.iload_n 1, 1) := by decide +kernel
theorem dX5_knows_5 : decode cX5_knows 5 = .ok (.aload_n 0, 1) := by decide +kernel
theorem dX5_knows_6 : decode cX5_knows 6 = .ok (.getfield 18, 3) := by decide +kernel
theorem dX5_knows_9 : decode cX5_knows 9 = .ok (.getfield 26, 3) := by decide +kernel
theorem dX5_knows_12 : decode cX5_knows 12 = .ok (.if_icmp .ge 7, 3) := by decide +kernel
theorem dX5_knows_15 : decode cX5_knows 15 = .ok (.iconst 1, 1) := by decide +kernel
theorem dX5_knows_16 : decode cX5_knows 16 = .ok (.goto 4, 3) := by decide +kernel
theorem dX5_knows_19 : decode cX5_knows 19 = .ok (.iconst 0, 1) := by decide +kernel
theorem dX5_knows_20 : decode cX5_knows 20 = .ok (.ireturn, 1) := by decide +kernel
theorem dX5_allows_0 : decode cX5_allows 0 = .ok (.aload_n 0, 1) := by decide +kernel
theorem dX5_allows_1 : decode cX5_allows 1 = .ok (.iload_n 1, 1) := by decide +kernel
theorem dX5_allows_2 : decode cX5_allows 2 = .ok (.invokevirtual 36, 3) := by decide +kernel
theorem dX5_allows_5 : decode cX5_allows 5 = .ok (.ifCond .eq 21, 3) := by decide +kernel
theorem dX5_allows_8 : decode cX5_allows 8 = .ok (.aload_n 0, 1) := by decide +kernel
theorem dX5_allows_9 : decode cX5_allows 9 = .ok (.iload_n 2, 1) := by decide +kernel
theorem dX5_allows_10 : decode cX5_allows 10 = .ok (.invokevirtual 36, 3) := by decide +kernel
theorem dX5_allows_13 : decode cX5_allows 13 = .ok (.ifCond .eq 13, 3) := by decide +kernel
theorem dX5_allows_16 : decode cX5_allows 16 = .ok (.aload_n 0, 1) := by decide +kernel
theorem dX5_allows_17 : decode cX5_allows 17 = .ok (.getfield 9, 3) := by decide +kernel
theorem dX5_allows_20 : decode cX5_allows 20 = .ok (.iload_n 1, 1) := by decide +kernel
theorem dX5_allows_21 : decode cX5_allows 21 = .ok (.iaload, 1) := by decide +kernel
theorem dX5_allows_22 : decode cX5_allows 22 = .ok (.iconst (-1), 1) := by decide +kernel
theorem dX5_allows_23 : decode cX5_allows 23 = .ok (.if_icmp .eq 5, 3) := by decide +kernel
theorem dX5_allows_26 : decode cX5_allows 26 = .ok (.iconst 0, 1) := by decide +kernel
theorem dX5_allows_27 : decode cX5_allows 27 = .ok (.ireturn, 1) := by decide +kernel
theorem dX5_allows_28 : decode cX5_allows 28 = .ok (.aload_n 0, 1) := by decide +kernel
theorem dX5_allows_29 : decode cX5_allows 29 = .ok (.getfield 18, 3) := by decide +kernel
theorem dX5_allows_32 : decode cX5_allows 32 = .ok (.getfield 40, 3) := by decide +kernel
theorem dX5_allows_35 : decode cX5_allows 35 = .ok (.iload_n 1, 1) := by decide +kernel
theorem dX5_allows_36 : decode cX5_allows 36 = .ok (.iaload, 1) := by decide +kernel
theorem dX5_allows_37 : decode cX5_allows 37 = .ok (.iload_n 2, 1) := by decide +kernel
theorem dX5_allows_38 : decode cX5_allows 38 = .ok (.ishr, 1) := by decide +kernel
