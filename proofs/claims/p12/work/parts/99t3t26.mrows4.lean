theorem dX13_findShares_141 : decode cX13_findShares 141 = .ok (.goto 5, 3) := by decide +kernel
theorem dX13_findShares_144 : decode cX13_findShares 144 = .ok (.iload 5, 2) := by decide +kernel
theorem dX13_findShares_146 : decode cX13_findShares 146 = .ok (.istore 5, 2) := by decide +kernel
theorem dX13_findShares_148 : decode cX13_findShares 148 = .ok (.iinc 6 1, 3) := by decide +kernel
theorem dX13_findShares_151 : decode cX13_findShares 151 = .ok (.goto (-41), 3) := by decide +kernel
theorem dX13_findShares_154 : decode cX13_findShares 154 = .ok (.aload_n 0, 1) := by decide +kernel
theorem dX13_findShares_155 : decode cX13_findShares 155 = .ok (.getfield 151, 3) := by decide +kernel
theorem dX13_findShares_158 : decode cX13_findShares 158 = .ok (.iload 5, 2) := by decide +kernel
theorem dX13_findShares_160 : decode cX13_findShares 160 = .ok (.dup2, 1) := by decide +kernel
theorem dX13_findShares_161 : decode cX13_findShares 161 = .ok (.iaload, 1) := by decide +kernel
theorem dX13_findShares_162 : decode cX13_findShares 162 = .ok (.iconst 1, 1) := by decide +kernel
theorem dX13_findShares_163 : decode cX13_findShares 163 = .ok (.iadd, 1) := by decide +kernel
theorem dX13_findShares_164 : decode cX13_findShares 164 = .ok (.iastore, 1) := by decide +kernel
theorem dX13_findShares_165 : decode cX13_findShares 165 = .ok (.aload_n 0, 1) := by decide +kernel
theorem dX13_findShares_166 : decode cX13_findShares 166 = .ok (.getfield 154, 3) := by decide +kernel
theorem dX13_findShares_169 : decode cX13_findShares 169 = .ok (.iload 5, 2) := by decide +kernel
theorem dX13_findShares_171 : decode cX13_findShares 171 = .ok (.iconst (-1), 1) := by decide +kernel
theorem dX13_findShares_172 : decode cX13_findShares 172 = .ok (.iastore, 1) := by decide +kernel
theorem dX13_findShares_173 : decode cX13_findShares 173 = .ok (.iinc 4 1, 3) := by decide +kernel
theorem dX13_findShares_176 : decode cX13_findShares 176 = .ok (.goto (-82), 3) := by decide +kernel
theorem dX13_findShares_179 : decode cX13_findShares 179 = .ok (.return_, 1) := by decide +kernel
theorem dX13_share_0 : decode cX13_share 0 = .ok (.aload_n 0, 1) := by decide +kernel
theorem dX13_share_1 : decode cX13_share 1 = .ok (.iconst 0, 1) := by decide +kernel
theorem dX13_share_2 : decode cX13_share 2 = .ok (.putfield 1, 3) := by decide +kernel
theorem dX13_share_5 : decode cX13_share 5 = .ok (.aload_n 0, 1) := by decide +kernel
theorem dX13_share_6 : decode cX13_share 6 = .ok (.iload_n 1, 1) := by decide +kernel
theorem dX13_share_7 : decode cX13_share 7 = .ok (.invokevirtual 336, 3) := by decide +kernel
theorem dX13_share_10 : decode cX13_share 10 = .ok (.ifCond .eq 29, 3) := by decide +kernel
theorem dX13_share_13 : decode cX13_share 13 = .ok (.iload_n 2, 1) := by decide +kernel
theorem dX13_share_14 : decode cX13_share 14 = .ok (.iconst 0, 1) := by decide +kernel
theorem dX13_share_15 : decode cX13_share 15 = .ok (.iconst 3, 1) := by decide +kernel
theorem dX13_share_16 : decode cX13_share 16 = .ok (.invokestatic 339, 3) := by decide +kernel
theorem dX13_share_19 : decode cX13_share 19 = .ok (.ifCond .eq 20, 3) := by decide +kernel
theorem dX13_share_22 : decode cX13_share 22 = .ok (.iload_n 3, 1) := by decide +kernel
theorem dX13_share_23 : decode cX13_share 23 = .ok (.iconst 0, 1) := by decide +kernel
theorem dX13_share_24 : decode cX13_share 24 = .ok (.aload_n 0, 1) := by decide +kernel
theorem dX13_share_25 : decode cX13_share 25 = .ok (.getfield 126, 3) := by decide +kernel
theorem dX13_share_28 : decode cX13_share 28 = .ok (.bipush 19, 2) := by decide +kernel
theorem dX13_share_30 : decode cX13_share 30 = .ok (.iaload, 1) := by decide +kernel
theorem dX13_share_31 : decode cX13_share 31 = .ok (.iconst 1, 1) := by decide +kernel
theorem dX13_share_32 : decode cX13_share 32 = .ok (.isub, 1) := by decide +kernel
theorem dX13_share_33 : decode cX13_share 33 = .ok (.invokestatic 339, 3) := by decide +kernel
theorem dX13_share_36 : decode cX13_share 36 = .ok (.ifCond .ne 5, 3) := by decide +kernel
theorem dX13_share_39 : decode cX13_share 39 = .ok (.iconst (-1), 1) := by decide +kernel
theorem dX13_share_40 : decode cX13_share 40 = .ok (.ireturn, 1) := by decide +kernel
theorem dX13_share_41 : decode cX13_share 41 = .ok (.iconst 0, 1) := by decide +kernel
theorem dX13_share_42 : decode cX13_share 42 = .ok (.istore 4, 2) := by decide +kernel
theorem dX13_share_44 : decode cX13_share 44 = .ok (.iconst 0, 1) := by decide +kernel
theorem dX13_share_45 : decode cX13_share 45 = .ok (.istore 5, 2) := by decide +kernel
theorem dX13_share_47 : decode cX13_share 47 = .ok (.iload 5, 2) := by decide +kernel
theorem dX13_share_49 : decode cX13_share 49 = .ok (.aload_n 0, 1) := by decide +kernel
theorem dX13_share_50 : decode cX13_share 50 = .ok (.getfield 126, 3) := by decide +kernel
theorem dX13_share_53 : decode cX13_share 53 = .ok (.bipush 19, 2) := by decide +kernel
theorem dX13_share_55 : decode cX13_share 55 = .ok (.iaload, 1) := by decide +kernel
theorem dX13_share_56 : decode cX13_share 56 = .ok (.if_icmp .ge 24, 3) := by decide +kernel
theorem dX13_share_59 : decode cX13_share 59 = .ok (.iload 4, 2) := by decide +kernel
theorem dX13_share_61 : decode cX13_share 61 = .ok (.aload_n 0, 1) := by decide +kernel
theorem dX13_share_62 : decode cX13_share 62 = .ok (.getfield 126, 3) := by decide +kernel
theorem dX13_share_65 : decode cX13_share 65 = .ok (.bipush 20, 2) := by decide +kernel
theorem dX13_share_67 : decode cX13_share 67 = .ok (.iload 5, 2) := by decide +kernel
theorem dX13_share_69 : decode cX13_share 69 = .ok (.iadd, 1) := by decide +kernel
theorem dX13_share_70 : decode cX13_share 70 = .ok (.iaload, 1) := by decide +kernel
theorem dX13_share_71 : decode cX13_share 71 = .ok (.iadd, 1) := by decide +kernel
theorem dX13_share_72 : decode cX13_share 72 = .ok (.istore 4, 2) := by decide +kernel
theorem dX13_share_74 : decode cX13_share 74 = .ok (.iinc 5 1, 3) := by decide +kernel
theorem dX13_share_77 : decode cX13_share 77 = .ok (.goto (-30), 3) := by decide +kernel
theorem dX13_share_80 : decode cX13_share 80 = .ok (.aload_n 0, 1) := by decide +kernel
theorem dX13_share_81 : decode cX13_share 81 = .ok (.aload_n 0, 1) := by decide +kernel
theorem dX13_share_82 : decode cX13_share 82 = .ok (.iconst 0, 1) := by decide +kernel
theorem dX13_share_83 : decode cX13_share 83 = .ok (.iload_n 1, 1) := by decide +kernel
theorem dX13_share_84 : decode cX13_share 84 = .ok (.iload_n 2, 1) := by decide +kernel
theorem dX13_share_85 : decode cX13_share 85 = .ok (.invokevirtual 370, 3) := by decide +kernel
theorem dX13_share_88 : decode cX13_share 88 = .ok (.iload 4, 2) := by decide +kernel
theorem dX13_share_90 : decode cX13_share 90 = .ok (.invokevirtual 436, 3) := by decide +kernel
theorem dX13_share_93 : decode cX13_share 93 = .ok (.aload_n 0, 1) := by decide +kernel
theorem dX13_share_94 : decode cX13_share 94 = .ok (.getfield 151, 3) := by decide +kernel
theorem dX13_share_97 : decode cX13_share 97 = .ok (.iload_n 3, 1) := by decide +kernel
theorem dX13_share_98 : decode cX13_share 98 = .ok (.iaload, 1) := by decide +kernel
theorem dX13_share_99 : decode cX13_share 99 = .ok (.ireturn, 1) := by decide +kernel
theorem dX13_floods_0 : decode cX13_floods 0 = .ok (.aload_n 0, 1) := by decide +kernel
theorem dX13_floods_1 : decode cX13_floods 1 = .ok (.iload_n 1, 1) := by decide +kernel
theorem dX13_floods_2 : decode cX13_floods 2 = .ok (.bipush 11, 2) := by decide +kernel
theorem dX13_floods_4 : decode cX13_floods 4 = .ok (.invokevirtual 300, 3) := by decide +kernel
theorem dX13_floods_7 : decode cX13_floods 7 = .ok (.istore 4, 2) := by decide +kernel
theorem dX13_floods_9 : decode cX13_floods 9 = .ok (.aload_n 0, 1) := by decide +kernel
theorem dX13_floods_10 : decode cX13_floods 10 = .ok (.iconst 0, 1) := by decide +kernel
theorem dX13_floods_11 : decode cX13_floods 11 = .ok (.iload_n 1, 1) := by decide +kernel
theorem dX13_floods_12 : decode cX13_floods 12 = .ok (.iload 4, 2) := by decide +kernel
theorem dX13_floods_14 : decode cX13_floods 14 = .ok (.invokevirtual 319, 3) := by decide +kernel
theorem dX13_floods_17 : decode cX13_floods 17 = .ok (.invokestatic 394, 3) := by decide +kernel
theorem dX13_floods_20 : decode cX13_floods 20 = .ok (.istore 5, 2) := by decide +kernel
theorem dX13_floods_22 : decode cX13_floods 22 = .ok (.aload_n 0, 1) := by decide +kernel
theorem dX13_floods_23 : decode cX13_floods 23 = .ok (.iconst 0, 1) := by decide +kernel
theorem dX13_floods_24 : decode cX13_floods 24 = .ok (.iload_n 1, 1) := by decide +kernel
theorem dX13_floods_25 : decode cX13_floods 25 = .ok (.iload 4, 2) := by decide +kernel
theorem dX13_floods_27 : decode cX13_floods 27 = .ok (.iload_n 2, 1) := by decide +kernel
theorem dX13_floods_28 : decode cX13_floods 28 = .ok (.invokevirtual 325, 3) := by decide +kernel
theorem dX13_floods_31 : decode cX13_floods 31 = .ok (.istore 6, 2) := by decide +kernel
theorem dX13_floods_33 : decode cX13_floods 33 = .ok (.lconst 0, 1) := by decide +kernel
theorem dX13_floods_34 : decode cX13_floods 34 = .ok (.lstore 7, 2) := by decide +kernel
theorem dX13_floods_36 : decode cX13_floods 36 = .ok (.lconst 1, 1) := by decide +kernel
theorem dX13_floods_37 : decode cX13_floods 37 = .ok (.lstore 9, 2) := by decide +kernel
theorem dX13_floods_39 : decode cX13_floods 39 = .ok (.iconst 0, 1) := by decide +kernel
theorem dX13_floods_40 : decode cX13_floods 40 = .ok (.istore 11, 2) := by decide +kernel
theorem dX13_floods_42 : decode cX13_floods 42 = .ok (.iload 11, 2) := by decide +kernel
theorem dX13_floods_44 : decode cX13_floods 44 = .ok (.iload 5, 2) := by decide +kernel
theorem dX13_floods_46 : decode cX13_floods 46 = .ok (.if_icmp .ge 17, 3) := by decide +kernel
theorem dX13_floods_49 : decode cX13_floods 49 = .ok (.lload 9, 2) := by decide +kernel
theorem dX13_floods_51 : decode cX13_floods 51 = .ok (.ldc2_w 183, 3) := by decide +kernel
theorem dX13_floods_54 : decode cX13_floods 54 = .ok (.lmul, 1) := by decide +kernel
theorem dX13_floods_55 : decode cX13_floods 55 = .ok (.lstore 9, 2) := by decide +kernel
theorem dX13_floods_57 : decode cX13_floods 57 = .ok (.iinc 11 1, 3) := by decide +kernel
theorem dX13_floods_60 : decode cX13_floods 60 = .ok (.goto (-18), 3) := by decide +kernel
theorem dX13_floods_63 : decode cX13_floods 63 = .ok (.iconst 0, 1) := by decide +kernel
theorem dX13_floods_64 : decode cX13_floods 64 = .ok (.istore 11, 2) := by decide +kernel
theorem dX13_floods_66 : decode cX13_floods 66 = .ok (.iload 11, 2) := by decide +kernel
theorem dX13_floods_68 : decode cX13_floods 68 = .ok (.iload 5, 2) := by decide +kernel
theorem dX13_floods_70 : decode cX13_floods 70 = .ok (.if_icmp .gt 119, 3) := by decide +kernel
theorem dX13_floods_73 : decode cX13_floods 73 = .ok (.lconst 1, 1) := by decide +kernel
theorem dX13_floods_74 : decode cX13_floods 74 = .ok (.lstore 12, 2) := by decide +kernel
theorem dX13_floods_76 : decode cX13_floods 76 = .ok (.iconst 0, 1) := by decide +kernel
theorem dX13_floods_77 : decode cX13_floods 77 = .ok (.istore 14, 2) := by decide +kernel
theorem dX13_floods_79 : decode cX13_floods 79 = .ok (.iload 14, 2) := by decide +kernel
theorem dX13_floods_81 : decode cX13_floods 81 = .ok (.iload 5, 2) := by decide +kernel
theorem dX13_floods_83 : decode cX13_floods 83 = .ok (.if_icmp .ge 40, 3) := by decide +kernel
theorem dX13_floods_86 : decode cX13_floods 86 = .ok (.lload 12, 2) := by decide +kernel
theorem dX13_floods_88 : decode cX13_floods 88 = .ok (.iload 14, 2) := by decide +kernel
theorem dX13_floods_90 : decode cX13_floods 90 = .ok (.iload 11, 2) := by decide +kernel
theorem dX13_floods_92 : decode cX13_floods 92 = .ok (.if_icmp .ge 12, 3) := by decide +kernel
theorem dX13_floods_95 : decode cX13_floods 95 = .ok (.aload_n 0, 1) := by decide +kernel
theorem dX13_floods_96 : decode cX13_floods 96 = .ok (.getfield 99, 3) := by decide +kernel
theorem dX13_floods_99 : decode cX13_floods 99 = .ok (.iconst 3, 1) := by decide +kernel
theorem dX13_floods_100 : decode cX13_floods 100 = .ok (.iaload, 1) := by decide +kernel
theorem dX13_floods_101 : decode cX13_floods 101 = .ok (.goto 12, 3) := by decide +kernel
theorem dX13_floods_104 : decode cX13_floods 104 = .ok (.bipush 10, 2) := by decide +kernel
theorem dX13_floods_106 : decode cX13_floods 106 = .ok (.aload_n 0, 1) := by decide +kernel
theorem dX13_floods_107 : decode cX13_floods 107 = .ok (.getfield 99, 3) := by decide +kernel
theorem dX13_floods_110 : decode cX13_floods 110 = .ok (.iconst 3, 1) := by decide +kernel
theorem dX13_floods_111 : decode cX13_floods 111 = .ok (.iaload, 1) := by decide +kernel
theorem dX13_floods_112 : decode cX13_floods 112 = .ok (.isub, 1) := by decide +kernel
theorem dX13_floods_113 : decode cX13_floods 113 = .ok (.i2l, 1) := by decide +kernel
theorem dX13_floods_114 : decode cX13_floods 114 = .ok (.lmul, 1) := by decide +kernel
theorem dX13_floods_115 : decode cX13_floods 115 = .ok (.lstore 12, 2) := by decide +kernel
theorem dX13_floods_117 : decode cX13_floods 117 = .ok (.iinc 14 1, 3) := by decide +kernel
theorem dX13_floods_120 : decode cX13_floods 120 = .ok (.goto (-41), 3) := by decide +kernel
theorem dX13_floods_123 : decode cX13_floods 123 = .ok (.iconst 0, 1) := by decide +kernel
theorem dX13_floods_124 : decode cX13_floods 124 = .ok (.istore 14, 2) := by decide +kernel
theorem dX13_floods_126 : decode cX13_floods 126 = .ok (.iload 14, 2) := by decide +kernel
theorem dX13_floods_128 : decode cX13_floods 128 = .ok (.iload 11, 2) := by decide +kernel
theorem dX13_floods_130 : decode cX13_floods 130 = .ok (.if_icmp .ge 26, 3) := by decide +kernel
theorem dX13_floods_133 : decode cX13_floods 133 = .ok (.lload 12, 2) := by decide +kernel
theorem dX13_floods_135 : decode cX13_floods 135 = .ok (.iload 5, 2) := by decide +kernel
theorem dX13_floods_137 : decode cX13_floods 137 = .ok (.iload 14, 2) := by decide +kernel
theorem dX13_floods_139 : decode cX13_floods 139 = .ok (.isub, 1) := by decide +kernel
theorem dX13_floods_140 : decode cX13_floods 140 = .ok (.i2l, 1) := by decide +kernel
theorem dX13_floods_141 : decode cX13_floods 141 = .ok (.lmul, 1) := by decide +kernel
theorem dX13_floods_142 : decode cX13_floods 142 = .ok (.iload 14, 2) := by decide +kernel
theorem dX13_floods_144 : decode cX13_floods 144 = .ok (.iconst 1, 1) := by decide +kernel
theorem dX13_floods_145 : decode cX13_floods 145 = .ok (.iadd, 1) := by decide +kernel
theorem dX13_floods_146 : decode cX13_floods 146 = .ok (.i2l, 1) := by decide +kernel
theorem dX13_floods_147 : decode cX13_floods 147 = .ok (.ldiv, 1) := by decide +kernel
theorem dX13_floods_148 : decode cX13_floods 148 = .ok (.lstore 12, 2) := by decide +kernel
theorem dX13_floods_150 : decode cX13_floods 150 = .ok (.iinc 14 1, 3) := by decide +kernel
theorem dX13_floods_153 : decode cX13_floods 153 = .ok (.goto (-27), 3) := by decide +kernel
theorem dX13_floods_156 : decode cX13_floods 156 = .ok (.lload 7, 2) := by decide +kernel
theorem dX13_floods_158 : decode cX13_floods 158 = .ok (.iload 6, 2) := by decide +kernel
theorem dX13_floods_160 : decode cX13_floods 160 = .ok (.iload 11, 2) := by decide +kernel
theorem dX13_floods_162 : decode cX13_floods 162 = .ok (.aload_n 0, 1) := by decide +kernel
theorem dX13_floods_163 : decode cX13_floods 163 = .ok (.getfield 99, 3) := by decide +kernel
theorem dX13_floods_166 : decode cX13_floods 166 = .ok (.iconst 4, 1) := by decide +kernel
theorem dX13_floods_167 : decode cX13_floods 167 = .ok (.iaload, 1) := by decide +kernel
theorem dX13_floods_168 : decode cX13_floods 168 = .ok (.imul, 1) := by decide +kernel
theorem dX13_floods_169 : decode cX13_floods 169 = .ok (.iadd, 1) := by decide +kernel
theorem dX13_floods_170 : decode cX13_floods 170 = .ok (.iload_n 3, 1) := by decide +kernel
theorem dX13_floods_171 : decode cX13_floods 171 = .ok (.if_icmp .le 8, 3) := by decide +kernel
theorem dX13_floods_174 : decode cX13_floods 174 = .ok (.lload 12, 2) := by decide +kernel
theorem dX13_floods_176 : decode cX13_floods 176 = .ok (.goto 4, 3) := by decide +kernel
theorem dX13_floods_179 : decode cX13_floods 179 = .ok (.lconst 0, 1) := by decide +kernel
theorem dX13_floods_180 : decode cX13_floods 180 = .ok (.ladd, 1) := by decide +kernel
theorem dX13_floods_181 : decode cX13_floods 181 = .ok (.lstore 7, 2) := by decide +kernel
theorem dX13_floods_183 : decode cX13_floods 183 = .ok (.iinc 11 1, 3) := by decide +kernel
theorem dX13_floods_186 : decode cX13_floods 186 = .ok (.goto (-120), 3) := by decide +kernel
theorem dX13_floods_189 : decode cX13_floods 189 = .ok (.lload 7, 2) := by decide +kernel
theorem dX13_floods_191 : decode cX13_floods 191 = .ok (.ldc2_w 439, 3) := by decide +kernel
theorem dX13_floods_194 : decode cX13_floods 194 = .ok (.lmul, 1) := by decide +kernel
theorem dX13_floods_195 : decode cX13_floods 195 = .ok (.lload 9, 2) := by decide +kernel
theorem dX13_floods_197 : decode cX13_floods 197 = .ok (.ldiv, 1) := by decide +kernel
theorem dX13_floods_198 : decode cX13_floods 198 = .ok (.l2i, 1) := by decide +kernel
theorem dX13_floods_199 : decode cX13_floods 199 = .ok (.ireturn, 1) := by decide +kernel
theorem dX13_hasTown_0 : decode cX13_hasTown 0 = .ok (.aload_n 0, 1) := by decide +kernel
theorem dX13_hasTown_1 : decode cX13_hasTown 1 = .ok (.iload_n 1, 1) := by decide +kernel
theorem dX13_hasTown_2 : decode cX13_hasTown 2 = .ok (.invokevirtual 336, 3) := by decide +kernel
theorem dX13_hasTown_5 : decode cX13_hasTown 5 = .ok (.ifCond .eq 26, 3) := by decide +kernel
theorem dX13_hasTown_8 : decode cX13_hasTown 8 = .ok (.iload_n 2, 1) := by decide +kernel
theorem dX13_hasTown_9 : decode cX13_hasTown 9 = .ok (.iconst 0, 1) := by decide +kernel
theorem dX13_hasTown_10 : decode cX13_hasTown 10 = .ok (.iconst 3, 1) := by decide +kernel
theorem dX13_hasTown_11 : decode cX13_hasTown 11 = .ok (.invokestatic 339, 3) := by decide +kernel
theorem dX13_hasTown_14 : decode cX13_hasTown 14 = .ok (.ifCond .eq 17, 3) := by decide +kernel
theorem dX13_hasTown_17 : decode cX13_hasTown 17 = .ok (.aload_n 0, 1) := by decide +kernel
theorem dX13_hasTown_18 : decode cX13_hasTown 18 = .ok (.iload_n 1, 1) := by decide +kernel
theorem dX13_hasTown_19 : decode cX13_hasTown 19 = .ok (.bipush 10, 2) := by decide +kernel
theorem dX13_hasTown_21 : decode cX13_hasTown 21 = .ok (.invokevirtual 300, 3) := by decide +kernel
theorem dX13_hasTown_24 : decode cX13_hasTown 24 = .ok (.ifCond .lt 7, 3) := by decide +kernel
theorem dX13_hasTown_27 : decode cX13_hasTown 27 = .ok (.iconst 1, 1) := by decide +kernel
theorem dX13_hasTown_28 : decode cX13_hasTown 28 = .ok (.goto 4, 3) := by decide +kernel
theorem dX13_hasTown_31 : decode cX13_hasTown 31 = .ok (.iconst 0, 1) := by decide +kernel
theorem dX13_hasTown_32 : decode cX13_hasTown 32 = .ok (.ireturn, 1) := by decide +kernel
theorem dX13_storms_0 : decode cX13_storms 0 = .ok (.aload_n 0, 1) := by decide +kernel
theorem dX13_storms_1 : decode cX13_storms 1 = .ok (.iconst 0, 1) := by decide +kernel
theorem dX13_storms_2 : decode cX13_storms 2 = .ok (.putfield 1, 3) := by decide +kernel
theorem dX13_storms_5 : decode cX13_storms 5 = .ok (.aload_n 0, 1) := by decide +kernel
theorem dX13_storms_6 : decode cX13_storms 6 = .ok (.iload_n 1, 1) := by decide +kernel
theorem dX13_storms_7 : decode cX13_storms 7 = .ok (.iload_n 2, 1) := by decide +kernel
theorem dX13_storms_8 : decode cX13_storms 8 = .ok (.invokevirtual 441, 3) := by decide +kernel
theorem dX13_storms_11 : decode cX13_storms 11 = .ok (.ifCond .eq 19, 3) := by decide +kernel
theorem dX13_storms_14 : decode cX13_storms 14 = .ok (.aload_n 0, 1) := by decide +kernel
theorem dX13_storms_15 : decode cX13_storms 15 = .ok (.iload_n 1, 1) := by decide +kernel
theorem dX13_storms_16 : decode cX13_storms 16 = .ok (.iload_n 2, 1) := by decide +kernel
theorem dX13_storms_17 : decode cX13_storms 17 = .ok (.aload_n 0, 1) := by decide +kernel
theorem dX13_storms_18 : decode cX13_storms 18 = .ok (.iload_n 1, 1) := by decide +kernel
theorem dX13_storms_19 : decode cX13_storms 19 = .ok (.bipush 10, 2) := by decide +kernel
theorem dX13_storms_21 : decode cX13_storms 21 = .ok (.invokevirtual 300, 3) := by decide +kernel
theorem dX13_storms_24 : decode cX13_storms 24 = .ok (.invokevirtual 444, 3) := by decide +kernel
theorem dX13_storms_27 : decode cX13_storms 27 = .ok (.goto 4, 3) := by decide +kernel
theorem dX13_storms_30 : decode cX13_storms 30 = .ok (.iconst (-1), 1) := by decide +kernel
theorem dX13_storms_31 : decode cX13_storms 31 = .ok (.ireturn, 1) := by decide +kernel
theorem dX13_walls_0 : decode cX13_walls 0 = .ok (.aload_n 0, 1) := by decide +kernel
theorem dX13_walls_1 : decode cX13_walls 1 = .ok (.iconst 0, 1) := by decide +kernel
theorem dX13_walls_2 : decode cX13_walls 2 = .ok (.putfield 1, 3) := by decide +kernel
theorem dX13_walls_5 : decode cX13_walls 5 = .ok (.aload_n 0, 1) := by decide +kernel
theorem dX13_walls_6 : decode cX13_walls 6 = .ok (.iload_n 1, 1) := by decide +kernel
theorem dX13_walls_7 : decode cX13_walls 7 = .ok (.iload_n 2, 1) := by decide +kernel
theorem dX13_walls_8 : decode cX13_walls 8 = .ok (.invokevirtual 441, 3) := by decide +kernel
theorem dX13_walls_11 : decode cX13_walls 11 = .ok (.ifCond .eq 14, 3) := by decide +kernel
theorem dX13_walls_14 : decode cX13_walls 14 = .ok (.iload_n 3, 1) := by decide +kernel
theorem dX13_walls_15 : decode cX13_walls 15 = .ok (.iconst 0, 1) := by decide +kernel
theorem dX13_walls_16 : decode cX13_walls 16 = .ok (.ldc_w 447, 3) := by decide +kernel
theorem dX13_walls_19 : decode cX13_walls 19 = .ok (.invokestatic 339, 3) := by decide +kernel
theorem dX13_walls_22 : decode cX13_walls 22 = .ok (.ifCond .ne 5, 3) := by decide +kernel
theorem dX13_walls_25 : decode cX13_walls 25 = .ok (.iconst (-1), 1) := by decide +kernel
theorem dX13_walls_26 : decode cX13_walls 26 = .ok (.ireturn, 1) := by decide +kernel
theorem dX13_walls_27 : decode cX13_walls 27 = .ok (.iconst 0, 1) := by decide +kernel
theorem dX13_walls_28 : decode cX13_walls 28 = .ok (.istore 4, 2) := by decide +kernel
theorem dX13_walls_30 : decode cX13_walls 30 = .ok (.aload_n 0, 1) := by decide +kernel
theorem dX13_walls_31 : decode cX13_walls 31 = .ok (.iload_n 1, 1) := by decide +kernel
theorem dX13_walls_32 : decode cX13_walls 32 = .ok (.iload_n 2, 1) := by decide +kernel
theorem dX13_walls_33 : decode cX13_walls 33 = .ok (.iload 4, 2) := by decide +kernel
theorem dX13_walls_35 : decode cX13_walls 35 = .ok (.invokevirtual 444, 3) := by decide +kernel
theorem dX13_walls_38 : decode cX13_walls 38 = .ok (.iload_n 3, 1) := by decide +kernel
theorem dX13_walls_39 : decode cX13_walls 39 = .ok (.if_icmp .le 9, 3) := by decide +kernel
theorem dX13_walls_42 : decode cX13_walls 42 = .ok (.iinc 4 1, 3) := by decide +kernel
theorem dX13_walls_45 : decode cX13_walls 45 = .ok (.goto (-15), 3) := by decide +kernel
theorem dX13_walls_48 : decode cX13_walls 48 = .ok (.iload 4, 2) := by decide +kernel
theorem dX13_walls_50 : decode cX13_walls 50 = .ok (.ireturn, 1) := by decide +kernel
theorem dX13_worst_0 : decode cX13_worst 0 = .ok (.aload_n 0, 1) := by decide +kernel
theorem dX13_worst_1 : decode cX13_worst 1 = .ok (.aload_n 0, 1) := by decide +kernel
theorem dX13_worst_2 : decode cX13_worst 2 = .ok (.iload_n 1, 1) := by decide +kernel
theorem dX13_worst_3 : decode cX13_worst 3 = .ok (.iconst 0, 1) := by decide +kernel
theorem dX13_worst_4 : decode cX13_worst 4 = .ok (.invokevirtual 441, 3) := by decide +kernel
theorem dX13_worst_7 : decode cX13_worst 7 = .ok (.ifCond .eq 16, 3) := by decide +kernel
theorem dX13_worst_10 : decode cX13_worst 10 = .ok (.iload_n 2, 1) := by decide +kernel
theorem dX13_worst_11 : decode cX13_worst 11 = .ok (.iconst 0, 1) := by decide +kernel
theorem dX13_worst_12 : decode cX13_worst 12 = .ok (.iconst 1, 1) := by decide +kernel
theorem dX13_worst_13 : decode cX13_worst 13 = .ok (.invokestatic 339, 3) := by decide +kernel
theorem dX13_worst_16 : decode cX13_worst 16 = .ok (.ifCond .eq 7, 3) := by decide +kernel
theorem dX13_worst_19 : decode cX13_worst 19 = .ok (.iconst 0, 1) := by decide +kernel
theorem dX13_worst_20 : decode cX13_worst 20 = .ok (.goto 4, 3) := by decide +kernel
theorem dX13_worst_23 : decode cX13_worst 23 = .ok (.iconst 1, 1) := by decide +kernel
theorem dX13_worst_24 : decode cX13_worst 24 = .ok (.putfield 1, 3) := by decide +kernel
theorem dX13_worst_27 : decode cX13_worst 27 = .ok (.aload_n 0, 1) := by decide +kernel
theorem dX13_worst_28 : decode cX13_worst 28 = .ok (.getfield 1, 3) := by decide +kernel
theorem dX13_worst_31 : decode cX13_worst 31 = .ok (.ifCond .le 5, 3) := by decide +kernel
theorem dX13_worst_34 : decode cX13_worst 34 = .ok (.iconst 0, 1) := by decide +kernel
theorem dX13_worst_35 : decode cX13_worst 35 = .ok (.ireturn, 1) := by decide +kernel
theorem dX13_worst_36 : decode cX13_worst 36 = .ok (.aload_n 0, 1) := by decide +kernel
theorem dX13_worst_37 : decode cX13_worst 37 = .ok (.iload_n 1, 1) := by decide +kernel
theorem dX13_worst_38 : decode cX13_worst 38 = .ok (.bipush 11, 2) := by decide +kernel
theorem dX13_worst_40 : decode cX13_worst 40 = .ok (.invokevirtual 300, 3) := by decide +kernel
theorem dX13_worst_43 : decode cX13_worst 43 = .ok (.istore_n 3, 1) := by decide +kernel
theorem dX13_worst_44 : decode cX13_worst 44 = .ok (.aload_n 0, 1) := by decide +kernel
theorem dX13_worst_45 : decode cX13_worst 45 = .ok (.getfield 99, 3) := by decide +kernel
theorem dX13_worst_48 : decode cX13_worst 48 = .ok (.iconst 3, 1) := by decide +kernel
theorem dX13_worst_49 : decode cX13_worst 49 = .ok (.iaload, 1) := by decide +kernel
theorem dX13_worst_50 : decode cX13_worst 50 = .ok (.ifCond .le 23, 3) := by decide +kernel
theorem dX13_worst_53 : decode cX13_worst 53 = .ok (.aload_n 0, 1) := by decide +kernel
theorem dX13_worst_54 : decode cX13_worst 54 = .ok (.getfield 99, 3) := by decide +kernel
theorem dX13_worst_57 : decode cX13_worst 57 = .ok (.iconst 4, 1) := by decide +kernel
theorem dX13_worst_58 : decode cX13_worst 58 = .ok (.iaload, 1) := by decide +kernel
theorem dX13_worst_59 : decode cX13_worst 59 = .ok (.aload_n 0, 1) := by decide +kernel
theorem dX13_worst_60 : decode cX13_worst 60 = .ok (.iconst 0, 1) := by decide +kernel
theorem dX13_worst_61 : decode cX13_worst 61 = .ok (.iload_n 1, 1) := by decide +kernel
theorem dX13_worst_62 : decode cX13_worst 62 = .ok (.iload_n 3, 1) := by decide +kernel
theorem dX13_worst_63 : decode cX13_worst 63 = .ok (.invokevirtual 319, 3) := by decide +kernel
theorem dX13_worst_66 : decode cX13_worst 66 = .ok (.invokestatic 394, 3) := by decide +kernel
theorem dX13_worst_69 : decode cX13_worst 69 = .ok (.imul, 1) := by decide +kernel
theorem dX13_worst_70 : decode cX13_worst 70 = .ok (.goto 4, 3) := by decide +kernel
theorem dX13_worst_73 : decode cX13_worst 73 = .ok (.iconst 0, 1) := by decide +kernel
theorem dX13_worst_74 : decode cX13_worst 74 = .ok (.istore 4, 2) := by decide +kernel
theorem dX13_worst_76 : decode cX13_worst 76 = .ok (.iconst 0, 1) := by decide +kernel
theorem dX13_worst_77 : decode cX13_worst 77 = .ok (.istore 5, 2) := by decide +kernel
theorem dX13_worst_79 : decode cX13_worst 79 = .ok (.iconst 1, 1) := by decide +kernel
theorem dX13_worst_80 : decode cX13_worst 80 = .ok (.istore 6, 2) := by decide +kernel
theorem dX13_worst_82 : decode cX13_worst 82 = .ok (.iload 6, 2) := by decide +kernel
theorem dX13_worst_84 : decode cX13_worst 84 = .ok (.iconst 4, 1) := by decide +kernel
theorem dX13_worst_85 : decode cX13_worst 85 = .ok (.if_icmp .ge 39, 3) := by decide +kernel
theorem dX13_worst_88 : decode cX13_worst 88 = .ok (.aload_n 0, 1) := by decide +kernel
theorem dX13_worst_89 : decode cX13_worst 89 = .ok (.iconst 0, 1) := by decide +kernel
theorem dX13_worst_90 : decode cX13_worst 90 = .ok (.iload_n 1, 1) := by decide +kernel
theorem dX13_worst_91 : decode cX13_worst 91 = .ok (.iload_n 3, 1) := by decide +kernel
theorem dX13_worst_92 : decode cX13_worst 92 = .ok (.iload 6, 2) := by decide +kernel
theorem dX13_worst_94 : decode cX13_worst 94 = .ok (.invokevirtual 325, 3) := by decide +kernel
theorem dX13_worst_97 : decode cX13_worst 97 = .ok (.aload_n 0, 1) := by decide +kernel
theorem dX13_worst_98 : decode cX13_worst 98 = .ok (.iconst 0, 1) := by decide +kernel
theorem dX13_worst_99 : decode cX13_worst 99 = .ok (.iload_n 1, 1) := by decide +kernel
theorem dX13_worst_100 : decode cX13_worst 100 = .ok (.iload_n 3, 1) := by decide +kernel
theorem dX13_worst_101 : decode cX13_worst 101 = .ok (.iload 5, 2) := by decide +kernel
theorem dX13_worst_103 : decode cX13_worst 103 = .ok (.invokevirtual 325, 3) := by decide +kernel
theorem dX13_worst_106 : decode cX13_worst 106 = .ok (.if_icmp .le 8, 3) := by decide +kernel
theorem dX13_worst_109 : decode cX13_worst 109 = .ok (.iload 6, 2) := by decide +kernel
theorem dX13_worst_111 : decode cX13_worst 111 = .ok (.goto 5, 3) := by decide +kernel
theorem dX13_worst_114 : decode cX13_worst 114 = .ok (.iload 5, 2) := by decide +kernel
theorem dX13_worst_116 : decode cX13_worst 116 = .ok (.istore 5, 2) := by decide +kernel
theorem dX13_worst_118 : decode cX13_worst 118 = .ok (.iinc 6 1, 3) := by decide +kernel
theorem dX13_worst_121 : decode cX13_worst 121 = .ok (.goto (-39), 3) := by decide +kernel
theorem dX13_worst_124 : decode cX13_worst 124 = .ok (.iload_n 2, 1) := by decide +kernel
theorem dX13_worst_125 : decode cX13_worst 125 = .ok (.ifCond .ne 8, 3) := by decide +kernel
theorem dX13_worst_128 : decode cX13_worst 128 = .ok (.iload 5, 2) := by decide +kernel
theorem dX13_worst_130 : decode cX13_worst 130 = .ok (.goto 23, 3) := by decide +kernel
theorem dX13_worst_133 : decode cX13_worst 133 = .ok (.aload_n 0, 1) := by decide +kernel
theorem dX13_worst_134 : decode cX13_worst 134 = .ok (.iconst 0, 1) := by decide +kernel
theorem dX13_worst_135 : decode cX13_worst 135 = .ok (.iload_n 1, 1) := by decide +kernel
theorem dX13_worst_136 : decode cX13_worst 136 = .ok (.iload_n 3, 1) := by decide +kernel
theorem dX13_worst_137 : decode cX13_worst 137 = .ok (.iload 5, 2) := by decide +kernel
theorem dX13_worst_139 : decode cX13_worst 139 = .ok (.invokevirtual 325, 3) := by decide +kernel
theorem dX13_worst_142 : decode cX13_worst 142 = .ok (.iload 4, 2) := by decide +kernel
theorem dX13_worst_144 : decode cX13_worst 144 = .ok (.iadd, 1) := by decide +kernel
theorem dX13_worst_145 : decode cX13_worst 145 = .ok (.aload_n 0, 1) := by decide +kernel
theorem dX13_worst_146 : decode cX13_worst 146 = .ok (.iload_n 1, 1) := by decide +kernel
theorem dX13_worst_147 : decode cX13_worst 147 = .ok (.bipush 10, 2) := by decide +kernel
theorem dX13_worst_149 : decode cX13_worst 149 = .ok (.invokevirtual 300, 3) := by decide +kernel
theorem dX13_worst_152 : decode cX13_worst 152 = .ok (.isub, 1) := by decide +kernel
theorem dX13_worst_153 : decode cX13_worst 153 = .ok (.ireturn, 1) := by decide +kernel
theorem dX13_tell_0 : decode cX13_tell 0 = .ok (.aload_n 0, 1) := by decide +kernel
theorem dX13_tell_1 : decode cX13_tell 1 = .ok (.iconst 0, 1) := by decide +kernel
theorem dX13_tell_2 : decode cX13_tell 2 = .ok (.putfield 1, 3) := by decide +kernel
theorem dX13_tell_5 : decode cX13_tell 5 = .ok (.aload_n 0, 1) := by decide +kernel
theorem dX13_tell_6 : decode cX13_tell 6 = .ok (.iload_n 1, 1) := by decide +kernel
theorem dX13_tell_7 : decode cX13_tell 7 = .ok (.invokevirtual 336, 3) := by decide +kernel
theorem dX13_tell_10 : decode cX13_tell 10 = .ok (.ifCond .eq 35, 3) := by decide +kernel
theorem dX13_tell_13 : decode cX13_tell 13 = .ok (.iload_n 2, 1) := by decide +kernel
theorem dX13_tell_14 : decode cX13_tell 14 = .ok (.iconst 0, 1) := by decide +kernel
theorem dX13_tell_15 : decode cX13_tell 15 = .ok (.iconst 3, 1) := by decide +kernel
theorem dX13_tell_16 : decode cX13_tell 16 = .ok (.invokestatic 339, 3) := by decide +kernel
theorem dX13_tell_19 : decode cX13_tell 19 = .ok (.ifCond .eq 26, 3) := by decide +kernel
theorem dX13_tell_22 : decode cX13_tell 22 = .ok (.iload_n 3, 1) := by decide +kernel
theorem dX13_tell_23 : decode cX13_tell 23 = .ok (.iconst 0, 1) := by decide +kernel
theorem dX13_tell_24 : decode cX13_tell 24 = .ok (.sipush 9999, 3) := by decide +kernel
theorem dX13_tell_27 : decode cX13_tell 27 = .ok (.invokestatic 339, 3) := by decide +kernel
theorem dX13_tell_30 : decode cX13_tell 30 = .ok (.ifCond .eq 15, 3) := by decide +kernel
theorem dX13_tell_33 : decode cX13_tell 33 = .ok (.aload_n 0, 1) := by decide +kernel
theorem dX13_tell_34 : decode cX13_tell 34 = .ok (.getfield 126, 3) := by decide +kernel
theorem dX13_tell_37 : decode cX13_tell 37 = .ok (.bipush 26, 2) := by decide +kernel
theorem dX13_tell_39 : decode cX13_tell 39 = .ok (.iaload, 1) := by decide +kernel
theorem dX13_tell_40 : decode cX13_tell 40 = .ok (.bipush 10, 2) := by decide +kernel
theorem dX13_tell_42 : decode cX13_tell 42 = .ok (.if_icmp .ne 5, 3) := by decide +kernel
theorem dX13_tell_45 : decode cX13_tell 45 = .ok (.iconst 0, 1) := by decide +kernel
theorem dX13_tell_46 : decode cX13_tell 46 = .ok (.ireturn, 1) := by decide +kernel
theorem dX13_tell_47 : decode cX13_tell 47 = .ok (.bipush 27, 2) := by decide +kernel
theorem dX13_tell_49 : decode cX13_tell 49 = .ok (.iconst 3, 1) := by decide +kernel
theorem dX13_tell_50 : decode cX13_tell 50 = .ok (.aload_n 0, 1) := by decide +kernel
theorem dX13_tell_51 : decode cX13_tell 51 = .ok (.getfield 126, 3) := by decide +kernel
theorem dX13_tell_54 : decode cX13_tell 54 = .ok (.bipush 26, 2) := by decide +kernel
theorem dX13_tell_56 : decode cX13_tell 56 = .ok (.iaload, 1) := by decide +kernel
theorem dX13_tell_57 : decode cX13_tell 57 = .ok (.imul, 1) := by decide +kernel
theorem dX13_tell_58 : decode cX13_tell 58 = .ok (.iadd, 1) := by decide +kernel
theorem dX13_tell_59 : decode cX13_tell 59 = .ok (.istore 4, 2) := by decide +kernel
theorem dX13_tell_61 : decode cX13_tell 61 = .ok (.aload_n 0, 1) := by decide +kernel
theorem dX13_tell_62 : decode cX13_tell 62 = .ok (.getfield 126, 3) := by decide +kernel
theorem dX13_tell_65 : decode cX13_tell 65 = .ok (.iload 4, 2) := by decide +kernel
theorem dX13_tell_67 : decode cX13_tell 67 = .ok (.iload_n 1, 1) := by decide +kernel
theorem dX13_tell_68 : decode cX13_tell 68 = .ok (.iastore, 1) := by decide +kernel
theorem dX13_tell_69 : decode cX13_tell 69 = .ok (.aload_n 0, 1) := by decide +kernel
theorem dX13_tell_70 : decode cX13_tell 70 = .ok (.getfield 126, 3) := by decide +kernel
theorem dX13_tell_73 : decode cX13_tell 73 = .ok (.iload 4, 2) := by decide +kernel
theorem dX13_tell_75 : decode cX13_tell 75 = .ok (.iconst 1, 1) := by decide +kernel
theorem dX13_tell_76 : decode cX13_tell 76 = .ok (.iadd, 1) := by decide +kernel
theorem dX13_tell_77 : decode cX13_tell 77 = .ok (.iload_n 2, 1) := by decide +kernel
theorem dX13_tell_78 : decode cX13_tell 78 = .ok (.iastore, 1) := by decide +kernel
theorem dX13_tell_79 : decode cX13_tell 79 = .ok (.aload_n 0, 1) := by decide +kernel
theorem dX13_tell_80 : decode cX13_tell 80 = .ok (.getfield 126, 3) := by decide +kernel
theorem dX13_tell_83 : decode cX13_tell 83 = .ok (.iload 4, 2) := by decide +kernel
theorem dX13_tell_85 : decode cX13_tell 85 = .ok (.iconst 2, 1) := by decide +kernel
theorem dX13_tell_86 : decode cX13_tell 86 = .ok (.iadd, 1) := by decide +kernel
theorem dX13_tell_87 : decode cX13_tell 87 = .ok (.iload_n 3, 1) := by decide +kernel
theorem dX13_tell_88 : decode cX13_tell 88 = .ok (.iastore, 1) := by decide +kernel
theorem dX13_tell_89 : decode cX13_tell 89 = .ok (.aload_n 0, 1) := by decide +kernel
theorem dX13_tell_90 : decode cX13_tell 90 = .ok (.getfield 126, 3) := by decide +kernel
theorem dX13_tell_93 : decode cX13_tell 93 = .ok (.bipush 26, 2) := by decide +kernel
theorem dX13_tell_95 : decode cX13_tell 95 = .ok (.dup2, 1) := by decide +kernel
theorem dX13_tell_96 : decode cX13_tell 96 = .ok (.iaload, 1) := by decide +kernel
theorem dX13_tell_97 : decode cX13_tell 97 = .ok (.iconst 1, 1) := by decide +kernel
theorem dX13_tell_98 : decode cX13_tell 98 = .ok (.iadd, 1) := by decide +kernel
theorem dX13_tell_99 : decode cX13_tell 99 = .ok (.iastore, 1) := by decide +kernel
theorem dX13_tell_100 : decode cX13_tell 100 = .ok (.iconst 1, 1) := by decide +kernel
theorem dX13_tell_101 : decode cX13_tell 101 = .ok (.ireturn, 1) := by decide +kernel
theorem dX13_tellsMost_0 : decode cX13_tellsMost 0 = .ok (.iconst (-1), 1) := by decide +kernel
theorem dX13_tellsMost_1 : decode cX13_tellsMost 1 = .ok (.istore_n 1, 1) := by decide +kernel
theorem dX13_tellsMost_2 : decode cX13_tellsMost 2 = .ok (.aload_n 0, 1) := by decide +kernel
theorem dX13_tellsMost_3 : decode cX13_tellsMost 3 = .ok (.getfield 409, 3) := by decide +kernel
theorem dX13_tellsMost_6 : decode cX13_tellsMost 6 = .ok (.istore_n 2, 1) := by decide +kernel
theorem dX13_tellsMost_7 : decode cX13_tellsMost 7 = .ok (.iconst 0, 1) := by decide +kernel
theorem dX13_tellsMost_8 : decode cX13_tellsMost 8 = .ok (.istore_n 3, 1) := by decide +kernel
theorem dX13_tellsMost_9 : decode cX13_tellsMost 9 = .ok (.iload_n 3, 1) := by decide +kernel
theorem dX13_tellsMost_10 : decode cX13_tellsMost 10 = .ok (.iconst 4, 1) := by decide +kernel
theorem dX13_tellsMost_11 : decode cX13_tellsMost 11 = .ok (.aload_n 0, 1) := by decide +kernel
theorem dX13_tellsMost_12 : decode cX13_tellsMost 12 = .ok (.invokevirtual 296, 3) := by decide +kernel
theorem dX13_tellsMost_15 : decode cX13_tellsMost 15 = .ok (.imul, 1) := by decide +kernel
theorem dX13_tellsMost_16 : decode cX13_tellsMost 16 = .ok (.if_icmp .ge 92, 3) := by decide +kernel
theorem dX13_tellsMost_19 : decode cX13_tellsMost 19 = .ok (.iconst 0, 1) := by decide +kernel
theorem dX13_tellsMost_20 : decode cX13_tellsMost 20 = .ok (.istore 4, 2) := by decide +kernel
theorem dX13_tellsMost_22 : decode cX13_tellsMost 22 = .ok (.iconst 0, 1) := by decide +kernel
theorem dX13_tellsMost_23 : decode cX13_tellsMost 23 = .ok (.istore 5, 2) := by decide +kernel
theorem dX13_tellsMost_25 : decode cX13_tellsMost 25 = .ok (.iload 5, 2) := by decide +kernel
theorem dX13_tellsMost_27 : decode cX13_tellsMost 27 = .ok (.sipush 600, 3) := by decide +kernel
theorem dX13_tellsMost_30 : decode cX13_tellsMost 30 = .ok (.if_icmp .ge 47, 3) := by decide +kernel
theorem dX13_tellsMost_33 : decode cX13_tellsMost 33 = .ok (.aload_n 0, 1) := by decide +kernel
theorem dX13_tellsMost_34 : decode cX13_tellsMost 34 = .ok (.getfield 142, 3) := by decide +kernel
theorem dX13_tellsMost_37 : decode cX13_tellsMost 37 = .ok (.sipush 600, 3) := by decide +kernel
theorem dX13_tellsMost_40 : decode cX13_tellsMost 40 = .ok (.iload_n 3, 1) := by decide +kernel
theorem dX13_tellsMost_41 : decode cX13_tellsMost 41 = .ok (.imul, 1) := by decide +kernel
theorem dX13_tellsMost_42 : decode cX13_tellsMost 42 = .ok (.iload 5, 2) := by decide +kernel
theorem dX13_tellsMost_44 : decode cX13_tellsMost 44 = .ok (.iadd, 1) := by decide +kernel
theorem dX13_tellsMost_45 : decode cX13_tellsMost 45 = .ok (.iaload, 1) := by decide +kernel
theorem dX13_tellsMost_46 : decode cX13_tellsMost 46 = .ok (.iload 4, 2) := by decide +kernel
theorem dX13_tellsMost_48 : decode cX13_tellsMost 48 = .ok (.if_icmp .le 19, 3) := by decide +kernel
theorem dX13_tellsMost_51 : decode cX13_tellsMost 51 = .ok (.aload_n 0, 1) := by decide +kernel
theorem dX13_tellsMost_52 : decode cX13_tellsMost 52 = .ok (.getfield 142, 3) := by decide +kernel
theorem dX13_tellsMost_55 : decode cX13_tellsMost 55 = .ok (.sipush 600, 3) := by decide +kernel
theorem dX13_tellsMost_58 : decode cX13_tellsMost 58 = .ok (.iload_n 3, 1) := by decide +kernel
theorem dX13_tellsMost_59 : decode cX13_tellsMost 59 = .ok (.imul, 1) := by decide +kernel
theorem dX13_tellsMost_60 : decode cX13_tellsMost 60 = .ok (.iload 5, 2) := by decide +kernel
theorem dX13_tellsMost_62 : decode cX13_tellsMost 62 = .ok (.iadd, 1) := by decide +kernel
theorem dX13_tellsMost_63 : decode cX13_tellsMost 63 = .ok (.iaload, 1) := by decide +kernel
theorem dX13_tellsMost_64 : decode cX13_tellsMost 64 = .ok (.goto 5, 3) := by decide +kernel
theorem dX13_tellsMost_67 : decode cX13_tellsMost 67 = .ok (.iload 4, 2) := by decide +kernel
theorem dX13_tellsMost_69 : decode cX13_tellsMost 69 = .ok (.istore 4, 2) := by decide +kernel
theorem dX13_tellsMost_71 : decode cX13_tellsMost 71 = .ok (.iinc 5 1, 3) := by decide +kernel
theorem dX13_tellsMost_74 : decode cX13_tellsMost 74 = .ok (.goto (-49), 3) := by decide +kernel
theorem dX13_tellsMost_77 : decode cX13_tellsMost 77 = .ok (.iload 4, 2) := by decide +kernel
theorem dX13_tellsMost_79 : decode cX13_tellsMost 79 = .ok (.iload_n 2, 1) := by decide +kernel
theorem dX13_tellsMost_80 : decode cX13_tellsMost 80 = .ok (.if_icmp .ge 7, 3) := by decide +kernel
theorem dX13_tellsMost_83 : decode cX13_tellsMost 83 = .ok (.iload_n 3, 1) := by decide +kernel
theorem dX13_tellsMost_84 : decode cX13_tellsMost 84 = .ok (.goto 4, 3) := by decide +kernel
theorem dX13_tellsMost_87 : decode cX13_tellsMost 87 = .ok (.iload_n 1, 1) := by decide +kernel
theorem dX13_tellsMost_88 : decode cX13_tellsMost 88 = .ok (.istore_n 1, 1) := by decide +kernel
theorem dX13_tellsMost_89 : decode cX13_tellsMost 89 = .ok (.iload 4, 2) := by decide +kernel
theorem dX13_tellsMost_91 : decode cX13_tellsMost 91 = .ok (.iload_n 2, 1) := by decide +kernel
theorem dX13_tellsMost_92 : decode cX13_tellsMost 92 = .ok (.if_icmp .ge 8, 3) := by decide +kernel
theorem dX13_tellsMost_95 : decode cX13_tellsMost 95 = .ok (.iload 4, 2) := by decide +kernel
theorem dX13_tellsMost_97 : decode cX13_tellsMost 97 = .ok (.goto 4, 3) := by decide +kernel
theorem dX13_tellsMost_100 : decode cX13_tellsMost 100 = .ok (.iload_n 2, 1) := by decide +kernel
theorem dX13_tellsMost_101 : decode cX13_tellsMost 101 = .ok (.istore_n 2, 1) := by decide +kernel
theorem dX13_tellsMost_102 : decode cX13_tellsMost 102 = .ok (.iinc 3 1, 3) := by decide +kernel
theorem dX13_tellsMost_105 : decode cX13_tellsMost 105 = .ok (.goto (-96), 3) := by decide +kernel
theorem dX13_tellsMost_108 : decode cX13_tellsMost 108 = .ok (.iload_n 1, 1) := by decide +kernel
theorem dX13_tellsMost_109 : decode cX13_tellsMost 109 = .ok (.ireturn, 1) := by decide +kernel
theorem dX13_found_0 : decode cX13_found 0 = .ok (.aload_n 0, 1) := by decide +kernel
theorem dX13_found_1 : decode cX13_found 1 = .ok (.iconst 0, 1) := by decide +kernel
theorem dX13_found_2 : decode cX13_found 2 = .ok (.putfield 1, 3) := by decide +kernel
theorem dX13_found_5 : decode cX13_found 5 = .ok (.iload_n 1, 1) := by decide +kernel
theorem dX13_found_6 : decode cX13_found 6 = .ok (.iconst 0, 1) := by decide +kernel
theorem dX13_found_7 : decode cX13_found 7 = .ok (.iconst 1, 1) := by decide +kernel
theorem dX13_found_8 : decode cX13_found 8 = .ok (.aload_n 0, 1) := by decide +kernel
theorem dX13_found_9 : decode cX13_found 9 = .ok (.invokevirtual 296, 3) := by decide +kernel
theorem dX13_found_12 : decode cX13_found 12 = .ok (.iadd, 1) := by decide +kernel
theorem dX13_found_13 : decode cX13_found 13 = .ok (.invokestatic 339, 3) := by decide +kernel
theorem dX13_found_16 : decode cX13_found 16 = .ok (.ifCond .ne 6, 3) := by decide +kernel
theorem dX13_found_19 : decode cX13_found 19 = .ok (.bipush (-3), 2) := by decide +kernel
theorem dX13_found_21 : decode cX13_found 21 = .ok (.ireturn, 1) := by decide +kernel
theorem dX13_found_22 : decode cX13_found 22 = .ok (.iconst 0, 1) := by decide +kernel
theorem dX13_found_23 : decode cX13_found 23 = .ok (.istore_n 2, 1) := by decide +kernel
theorem dX13_found_24 : decode cX13_found 24 = .ok (.iload_n 2, 1) := by decide +kernel
theorem dX13_found_25 : decode cX13_found 25 = .ok (.sipush 14400, 3) := by decide +kernel
theorem dX13_found_28 : decode cX13_found 28 = .ok (.if_icmp .ge 16, 3) := by decide +kernel
theorem dX13_found_31 : decode cX13_found 31 = .ok (.aload_n 0, 1) := by decide +kernel
theorem dX13_found_32 : decode cX13_found 32 = .ok (.getfield 142, 3) := by decide +kernel
theorem dX13_found_35 : decode cX13_found 35 = .ok (.iload_n 2, 1) := by decide +kernel
theorem dX13_found_36 : decode cX13_found 36 = .ok (.iconst 0, 1) := by decide +kernel
theorem dX13_found_37 : decode cX13_found 37 = .ok (.iastore, 1) := by decide +kernel
theorem dX13_found_38 : decode cX13_found 38 = .ok (.iinc 2 1, 3) := by decide +kernel
theorem dX13_found_41 : decode cX13_found 41 = .ok (.goto (-17), 3) := by decide +kernel
theorem dX13_found_44 : decode cX13_found 44 = .ok (.aload_n 0, 1) := by decide +kernel
theorem dX13_found_45 : decode cX13_found 45 = .ok (.iconst 1, 1) := by decide +kernel
theorem dX13_found_46 : decode cX13_found 46 = .ok (.invokevirtual 424, 3) := by decide +kernel
theorem dX13_found_49 : decode cX13_found 49 = .ok (.iload_n 1, 1) := by decide +kernel
theorem dX13_found_50 : decode cX13_found 50 = .ok (.ifCond .eq 10, 3) := by decide +kernel
theorem dX13_found_53 : decode cX13_found 53 = .ok (.aload_n 0, 1) := by decide +kernel
theorem dX13_found_54 : decode cX13_found 54 = .ok (.getfield 409, 3) := by decide +kernel
theorem dX13_found_57 : decode cX13_found 57 = .ok (.ifCond .ne 17, 3) := by decide +kernel
theorem dX13_found_60 : decode cX13_found 60 = .ok (.iload_n 1, 1) := by decide +kernel
theorem dX13_found_61 : decode cX13_found 61 = .ok (.ifCond .ne 10, 3) := by decide +kernel
theorem dX13_found_64 : decode cX13_found 64 = .ok (.aload_n 0, 1) := by decide +kernel
theorem dX13_found_65 : decode cX13_found 65 = .ok (.getfield 409, 3) := by decide +kernel
theorem dX13_found_68 : decode cX13_found 68 = .ok (.goto 5, 3) := by decide +kernel
theorem dX13_found_71 : decode cX13_found 71 = .ok (.bipush (-3), 2) := by decide +kernel
theorem dX13_found_73 : decode cX13_found 73 = .ok (.ireturn, 1) := by decide +kernel
theorem dX13_found_74 : decode cX13_found 74 = .ok (.iload_n 1, 1) := by decide +kernel
theorem dX13_found_75 : decode cX13_found 75 = .ok (.iconst 1, 1) := by decide +kernel
theorem dX13_found_76 : decode cX13_found 76 = .ok (.if_icmp .ne 10, 3) := by decide +kernel
theorem dX13_found_79 : decode cX13_found 79 = .ok (.aload_n 0, 1) := by decide +kernel
theorem dX13_found_80 : decode cX13_found 80 = .ok (.invokevirtual 448, 3) := by decide +kernel
theorem dX13_found_83 : decode cX13_found 83 = .ok (.goto 11, 3) := by decide +kernel
theorem dX13_found_86 : decode cX13_found 86 = .ok (.aload_n 0, 1) := by decide +kernel
theorem dX13_found_87 : decode cX13_found 87 = .ok (.getfield 139, 3) := by decide +kernel
theorem dX13_found_90 : decode cX13_found 90 = .ok (.iload_n 1, 1) := by decide +kernel
theorem dX13_found_91 : decode cX13_found 91 = .ok (.iconst 2, 1) := by decide +kernel
theorem dX13_found_92 : decode cX13_found 92 = .ok (.isub, 1) := by decide +kernel
theorem dX13_found_93 : decode cX13_found 93 = .ok (.iaload, 1) := by decide +kernel
theorem dX13_found_94 : decode cX13_found 94 = .ok (.ireturn, 1) := by decide +kernel
theorem dX13_bidGets_0 : decode cX13_bidGets 0 = .ok (.iload_n 1, 1) := by decide +kernel
theorem dX13_bidGets_1 : decode cX13_bidGets 1 = .ok (.ifCond .eq 18, 3) := by decide +kernel
theorem dX13_bidGets_4 : decode cX13_bidGets 4 = .ok (.iload_n 2, 1) := by decide +kernel
theorem dX13_bidGets_5 : decode cX13_bidGets 5 = .ok (.iload_n 3, 1) := by decide +kernel
theorem dX13_bidGets_6 : decode cX13_bidGets 6 = .ok (.if_icmp .lt 9, 3) := by decide +kernel
theorem dX13_bidGets_9 : decode cX13_bidGets 9 = .ok (.iload_n 0, 1) := by decide +kernel
theorem dX13_bidGets_10 : decode cX13_bidGets 10 = .ok (.iload_n 2, 1) := by decide +kernel
theorem dX13_bidGets_11 : decode cX13_bidGets 11 = .ok (.isub, 1) := by decide +kernel
theorem dX13_bidGets_12 : decode cX13_bidGets 12 = .ok (.goto 19, 3) := by decide +kernel
theorem dX13_bidGets_15 : decode cX13_bidGets 15 = .ok (.iconst 0, 1) := by decide +kernel
theorem dX13_bidGets_16 : decode cX13_bidGets 16 = .ok (.goto 15, 3) := by decide +kernel
theorem dX13_bidGets_19 : decode cX13_bidGets 19 = .ok (.iload_n 3, 1) := by decide +kernel
theorem dX13_bidGets_20 : decode cX13_bidGets 20 = .ok (.iload_n 2, 1) := by decide +kernel
theorem dX13_bidGets_21 : decode cX13_bidGets 21 = .ok (.if_icmp .le 9, 3) := by decide +kernel
theorem dX13_bidGets_24 : decode cX13_bidGets 24 = .ok (.iload_n 0, 1) := by decide +kernel
theorem dX13_bidGets_25 : decode cX13_bidGets 25 = .ok (.iload_n 3, 1) := by decide +kernel
theorem dX13_bidGets_26 : decode cX13_bidGets 26 = .ok (.isub, 1) := by decide +kernel
theorem dX13_bidGets_27 : decode cX13_bidGets 27 = .ok (.goto 4, 3) := by decide +kernel
theorem dX13_bidGets_30 : decode cX13_bidGets 30 = .ok (.iconst 0, 1) := by decide +kernel
theorem dX13_bidGets_31 : decode cX13_bidGets 31 = .ok (.ireturn, 1) := by decide +kernel
theorem dX13_rests_0 : decode cX13_rests 0 = .ok (.aload_n 0, 1) := by decide +kernel
theorem dX13_rests_1 : decode cX13_rests 1 = .ok (.iconst 0, 1) := by decide +kernel
theorem dX13_rests_2 : decode cX13_rests 2 = .ok (.putfield 1, 3) := by decide +kernel
theorem dX13_rests_5 : decode cX13_rests 5 = .ok (.aload_n 0, 1) := by decide +kernel
theorem dX13_rests_6 : decode cX13_rests 6 = .ok (.iload_n 1, 1) := by decide +kernel
theorem dX13_rests_7 : decode cX13_rests 7 = .ok (.invokevirtual 336, 3) := by decide +kernel
theorem dX13_rests_10 : decode cX13_rests 10 = .ok (.ifCond .eq 50, 3) := by decide +kernel
theorem dX13_rests_13 : decode cX13_rests 13 = .ok (.aload_n 0, 1) := by decide +kernel
theorem dX13_rests_14 : decode cX13_rests 14 = .ok (.iload_n 2, 1) := by decide +kernel
theorem dX13_rests_15 : decode cX13_rests 15 = .ok (.invokevirtual 336, 3) := by decide +kernel
theorem dX13_rests_18 : decode cX13_rests 18 = .ok (.ifCond .eq 42, 3) := by decide +kernel
theorem dX13_rests_21 : decode cX13_rests 21 = .ok (.aload_n 0, 1) := by decide +kernel
theorem dX13_rests_22 : decode cX13_rests 22 = .ok (.iload_n 3, 1) := by decide +kernel
theorem dX13_rests_23 : decode cX13_rests 23 = .ok (.invokevirtual 336, 3) := by decide +kernel
theorem dX13_rests_26 : decode cX13_rests 26 = .ok (.ifCond .eq 34, 3) := by decide +kernel
theorem dX13_rests_29 : decode cX13_rests 29 = .ok (.iload_n 2, 1) := by decide +kernel
theorem dX13_rests_30 : decode cX13_rests 30 = .ok (.iload_n 3, 1) := by decide +kernel
theorem dX13_rests_31 : decode cX13_rests 31 = .ok (.if_icmp .eq 29, 3) := by decide +kernel
theorem dX13_rests_34 : decode cX13_rests 34 = .ok (.iload 4, 2) := by decide +kernel
theorem dX13_rests_36 : decode cX13_rests 36 = .ok (.iconst (-1), 1) := by decide +kernel
theorem dX13_rests_37 : decode cX13_rests 37 = .ok (.if_icmp .lt 23, 3) := by decide +kernel
theorem dX13_rests_40 : decode cX13_rests 40 = .ok (.aload_n 0, 1) := by decide +kernel
theorem dX13_rests_41 : decode cX13_rests 41 = .ok (.iconst 0, 1) := by decide +kernel
theorem dX13_rests_42 : decode cX13_rests 42 = .ok (.iload_n 1, 1) := by decide +kernel
theorem dX13_rests_43 : decode cX13_rests 43 = .ok (.iload_n 2, 1) := by decide +kernel
theorem dX13_rests_44 : decode cX13_rests 44 = .ok (.invokevirtual 361, 3) := by decide +kernel
theorem dX13_rests_47 : decode cX13_rests 47 = .ok (.ifCond .eq 13, 3) := by decide +kernel
theorem dX13_rests_50 : decode cX13_rests 50 = .ok (.aload_n 0, 1) := by decide +kernel
theorem dX13_rests_51 : decode cX13_rests 51 = .ok (.iconst 0, 1) := by decide +kernel
theorem dX13_rests_52 : decode cX13_rests 52 = .ok (.iload_n 1, 1) := by decide +kernel
theorem dX13_rests_53 : decode cX13_rests 53 = .ok (.iload_n 3, 1) := by decide +kernel
theorem dX13_rests_54 : decode cX13_rests 54 = .ok (.invokevirtual 361, 3) := by decide +kernel
theorem dX13_rests_57 : decode cX13_rests 57 = .ok (.ifCond .ne 5, 3) := by decide +kernel
theorem dX13_rests_60 : decode cX13_rests 60 = .ok (.iconst (-1), 1) := by decide +kernel
theorem dX13_rests_61 : decode cX13_rests 61 = .ok (.ireturn, 1) := by decide +kernel
theorem dX13_rests_62 : decode cX13_rests 62 = .ok (.aload_n 0, 1) := by decide +kernel
theorem dX13_rests_63 : decode cX13_rests 63 = .ok (.iconst 0, 1) := by decide +kernel
theorem dX13_rests_64 : decode cX13_rests 64 = .ok (.iload_n 1, 1) := by decide +kernel
theorem dX13_rests_65 : decode cX13_rests 65 = .ok (.aload_n 0, 1) := by decide +kernel
theorem dX13_rests_66 : decode cX13_rests 66 = .ok (.iconst 0, 1) := by decide +kernel
theorem dX13_rests_67 : decode cX13_rests 67 = .ok (.invokevirtual 349, 3) := by decide +kernel
theorem dX13_rests_70 : decode cX13_rests 70 = .ok (.invokevirtual 370, 3) := by decide +kernel
theorem dX13_rests_73 : decode cX13_rests 73 = .ok (.iconst 5, 1) := by decide +kernel
theorem dX13_rests_74 : decode cX13_rests 74 = .ok (.idiv, 1) := by decide +kernel
theorem dX13_rests_75 : decode cX13_rests 75 = .ok (.istore 5, 2) := by decide +kernel
theorem dX13_rests_77 : decode cX13_rests 77 = .ok (.iconst 0, 1) := by decide +kernel
theorem dX13_rests_78 : decode cX13_rests 78 = .ok (.istore 6, 2) := by decide +kernel
theorem dX13_rests_80 : decode cX13_rests 80 = .ok (.iconst 0, 1) := by decide +kernel
theorem dX13_rests_81 : decode cX13_rests 81 = .ok (.istore 7, 2) := by decide +kernel
theorem dX13_rests_83 : decode cX13_rests 83 = .ok (.iload 7, 2) := by decide +kernel
theorem dX13_rests_85 : decode cX13_rests 85 = .ok (.bipush 100, 2) := by decide +kernel
theorem dX13_rests_87 : decode cX13_rests 87 = .ok (.if_icmp .ge 134, 3) := by decide +kernel
theorem dX13_rests_90 : decode cX13_rests 90 = .ok (.iconst 1, 1) := by decide +kernel
theorem dX13_rests_91 : decode cX13_rests 91 = .ok (.istore 8, 2) := by decide +kernel
theorem dX13_rests_93 : decode cX13_rests 93 = .ok (.iconst 0, 1) := by decide +kernel
theorem dX13_rests_94 : decode cX13_rests 94 = .ok (.istore 9, 2) := by decide +kernel
theorem dX13_rests_96 : decode cX13_rests 96 = .ok (.iload 9, 2) := by decide +kernel
theorem dX13_rests_98 : decode cX13_rests 98 = .ok (.bipush 10, 2) := by decide +kernel
theorem dX13_rests_100 : decode cX13_rests 100 = .ok (.if_icmp .ge 85, 3) := by decide +kernel
theorem dX13_rests_103 : decode cX13_rests 103 = .ok (.iload 8, 2) := by decide +kernel
theorem dX13_rests_105 : decode cX13_rests 105 = .ok (.ifCond .eq 71, 3) := by decide +kernel
theorem dX13_rests_108 : decode cX13_rests 108 = .ok (.iload 5, 2) := by decide +kernel
theorem dX13_rests_110 : decode cX13_rests 110 = .ok (.iconst 1, 1) := by decide +kernel
theorem dX13_rests_111 : decode cX13_rests 111 = .ok (.iload 9, 2) := by decide +kernel
theorem dX13_rests_113 : decode cX13_rests 113 = .ok (.iload 7, 2) := by decide +kernel
theorem dX13_rests_115 : decode cX13_rests 115 = .ok (.bipush 10, 2) := by decide +kernel
theorem dX13_rests_117 : decode cX13_rests 117 = .ok (.irem, 1) := by decide +kernel
theorem dX13_rests_118 : decode cX13_rests 118 = .ok (.invokestatic 451, 3) := by decide +kernel
theorem dX13_rests_121 : decode cX13_rests 121 = .ok (.iload 5, 2) := by decide +kernel
theorem dX13_rests_123 : decode cX13_rests 123 = .ok (.iconst 1, 1) := by decide +kernel
theorem dX13_rests_124 : decode cX13_rests 124 = .ok (.iload 7, 2) := by decide +kernel
theorem dX13_rests_126 : decode cX13_rests 126 = .ok (.bipush 10, 2) := by decide +kernel
theorem dX13_rests_128 : decode cX13_rests 128 = .ok (.idiv, 1) := by decide +kernel
theorem dX13_rests_129 : decode cX13_rests 129 = .ok (.iload 7, 2) := by decide +kernel
theorem dX13_rests_131 : decode cX13_rests 131 = .ok (.bipush 10, 2) := by decide +kernel
theorem dX13_rests_133 : decode cX13_rests 133 = .ok (.irem, 1) := by decide +kernel
theorem dX13_rests_134 : decode cX13_rests 134 = .ok (.invokestatic 451, 3) := by decide +kernel
theorem dX13_rests_137 : decode cX13_rests 137 = .ok (.if_icmp .gt 39, 3) := by decide +kernel
theorem dX13_rests_140 : decode cX13_rests 140 = .ok (.iload 5, 2) := by decide +kernel
theorem dX13_rests_142 : decode cX13_rests 142 = .ok (.iconst 0, 1) := by decide +kernel
theorem dX13_rests_143 : decode cX13_rests 143 = .ok (.iload 7, 2) := by decide +kernel
theorem dX13_rests_145 : decode cX13_rests 145 = .ok (.bipush 10, 2) := by decide +kernel
theorem dX13_rests_147 : decode cX13_rests 147 = .ok (.idiv, 1) := by decide +kernel
theorem dX13_rests_148 : decode cX13_rests 148 = .ok (.iload 9, 2) := by decide +kernel
theorem dX13_rests_150 : decode cX13_rests 150 = .ok (.invokestatic 451, 3) := by decide +kernel
theorem dX13_rests_153 : decode cX13_rests 153 = .ok (.iload 5, 2) := by decide +kernel
theorem dX13_rests_155 : decode cX13_rests 155 = .ok (.iconst 0, 1) := by decide +kernel
theorem dX13_rests_156 : decode cX13_rests 156 = .ok (.iload 7, 2) := by decide +kernel
theorem dX13_rests_158 : decode cX13_rests 158 = .ok (.bipush 10, 2) := by decide +kernel
theorem dX13_rests_160 : decode cX13_rests 160 = .ok (.idiv, 1) := by decide +kernel
theorem dX13_rests_161 : decode cX13_rests 161 = .ok (.iload 7, 2) := by decide +kernel
theorem dX13_rests_163 : decode cX13_rests 163 = .ok (.bipush 10, 2) := by decide +kernel
theorem dX13_rests_165 : decode cX13_rests 165 = .ok (.irem, 1) := by decide +kernel
theorem dX13_rests_166 : decode cX13_rests 166 = .ok (.invokestatic 451, 3) := by decide +kernel
theorem dX13_rests_169 : decode cX13_rests 169 = .ok (.if_icmp .gt 7, 3) := by decide +kernel
theorem dX13_rests_172 : decode cX13_rests 172 = .ok (.iconst 1, 1) := by decide +kernel
theorem dX13_rests_173 : decode cX13_rests 173 = .ok (.goto 4, 3) := by decide +kernel
theorem dX13_rests_176 : decode cX13_rests 176 = .ok (.iconst 0, 1) := by decide +kernel
theorem dX13_rests_177 : decode cX13_rests 177 = .ok (.istore 8, 2) := by decide +kernel
theorem dX13_rests_179 : decode cX13_rests 179 = .ok (.iinc 9 1, 3) := by decide +kernel
theorem dX13_rests_182 : decode cX13_rests 182 = .ok (.goto (-86), 3) := by decide +kernel
theorem dX13_rests_185 : decode cX13_rests 185 = .ok (.iload 8, 2) := by decide +kernel
theorem dX13_rests_187 : decode cX13_rests 187 = .ok (.ifCond .eq 13, 3) := by decide +kernel
theorem dX13_rests_190 : decode cX13_rests 190 = .ok (.iload 6, 2) := by decide +kernel
theorem dX13_rests_192 : decode cX13_rests 192 = .ok (.iload 4, 2) := by decide +kernel
theorem dX13_rests_194 : decode cX13_rests 194 = .ok (.if_icmp .ne 6, 3) := by decide +kernel
theorem dX13_rests_197 : decode cX13_rests 197 = .ok (.iload 7, 2) := by decide +kernel
theorem dX13_rests_199 : decode cX13_rests 199 = .ok (.ireturn, 1) := by decide +kernel
theorem dX13_rests_200 : decode cX13_rests 200 = .ok (.iload 6, 2) := by decide +kernel
theorem dX13_rests_202 : decode cX13_rests 202 = .ok (.iload 8, 2) := by decide +kernel
theorem dX13_rests_204 : decode cX13_rests 204 = .ok (.ifCond .eq 7, 3) := by decide +kernel
theorem dX13_rests_207 : decode cX13_rests 207 = .ok (.iconst 1, 1) := by decide +kernel
theorem dX13_rests_208 : decode cX13_rests 208 = .ok (.goto 4, 3) := by decide +kernel
theorem dX13_rests_211 : decode cX13_rests 211 = .ok (.iconst 0, 1) := by decide +kernel
theorem dX13_rests_212 : decode cX13_rests 212 = .ok (.iadd, 1) := by decide +kernel
theorem dX13_rests_213 : decode cX13_rests 213 = .ok (.istore 6, 2) := by decide +kernel
theorem dX13_rests_215 : decode cX13_rests 215 = .ok (.iinc 7 1, 3) := by decide +kernel
theorem dX13_rests_218 : decode cX13_rests 218 = .ok (.goto (-135), 3) := by decide +kernel
theorem dX13_rests_221 : decode cX13_rests 221 = .ok (.iload 4, 2) := by decide +kernel
theorem dX13_rests_223 : decode cX13_rests 223 = .ok (.ifCond .ge 8, 3) := by decide +kernel
theorem dX13_rests_226 : decode cX13_rests 226 = .ok (.iload 6, 2) := by decide +kernel
theorem dX13_rests_228 : decode cX13_rests 228 = .ok (.goto 4, 3) := by decide +kernel
theorem dX13_rests_231 : decode cX13_rests 231 = .ok (.iconst (-1), 1) := by decide +kernel
theorem dX13_rests_232 : decode cX13_rests 232 = .ok (.ireturn, 1) := by decide +kernel
theorem dX13_isLosing_0 : decode cX13_isLosing 0 = .ok (.iload_n 1, 1) := by decide +kernel
theorem dX13_isLosing_1 : decode cX13_isLosing 1 = .ok (.ifCond .lt 25, 3) := by decide +kernel
theorem dX13_isLosing_4 : decode cX13_isLosing 4 = .ok (.iload_n 2, 1) := by decide +kernel
theorem dX13_isLosing_5 : decode cX13_isLosing 5 = .ok (.ifCond .lt 21, 3) := by decide +kernel
theorem dX13_isLosing_8 : decode cX13_isLosing 8 = .ok (.aload_n 0, 1) := by decide +kernel
theorem dX13_isLosing_9 : decode cX13_isLosing 9 = .ok (.getfield 157, 3) := by decide +kernel
theorem dX13_isLosing_12 : decode cX13_isLosing 12 = .ok (.bipush 21, 2) := by decide +kernel
theorem dX13_isLosing_14 : decode cX13_isLosing 14 = .ok (.iload_n 1, 1) := by decide +kernel
theorem dX13_isLosing_15 : decode cX13_isLosing 15 = .ok (.imul, 1) := by decide +kernel
theorem dX13_isLosing_16 : decode cX13_isLosing 16 = .ok (.iload_n 2, 1) := by decide +kernel
theorem dX13_isLosing_17 : decode cX13_isLosing 17 = .ok (.iadd, 1) := by decide +kernel
theorem dX13_isLosing_18 : decode cX13_isLosing 18 = .ok (.baload, 1) := by decide +kernel
theorem dX13_isLosing_19 : decode cX13_isLosing 19 = .ok (.ifCond .ne 7, 3) := by decide +kernel
theorem dX13_isLosing_22 : decode cX13_isLosing 22 = .ok (.iconst 1, 1) := by decide +kernel
theorem dX13_isLosing_23 : decode cX13_isLosing 23 = .ok (.goto 4, 3) := by decide +kernel
theorem dX13_isLosing_26 : decode cX13_isLosing 26 = .ok (.iconst 0, 1) := by decide +kernel
theorem dX13_isLosing_27 : decode cX13_isLosing 27 = .ok (.ireturn, 1) := by decide +kernel
theorem dX13_dams_0 : decode cX13_dams 0 = .ok (.aload_n 0, 1) := by decide +kernel
theorem dX13_dams_1 : decode cX13_dams 1 = .ok (.iconst 0, 1) := by decide +kernel
theorem dX13_dams_2 : decode cX13_dams 2 = .ok (.putfield 1, 3) := by decide +kernel
theorem dX13_dams_5 : decode cX13_dams 5 = .ok (.aload_n 0, 1) := by decide +kernel
theorem dX13_dams_6 : decode cX13_dams 6 = .ok (.iload_n 1, 1) := by decide +kernel
theorem dX13_dams_7 : decode cX13_dams 7 = .ok (.invokevirtual 336, 3) := by decide +kernel
theorem dX13_dams_10 : decode cX13_dams 10 = .ok (.ifCond .eq 25, 3) := by decide +kernel
theorem dX13_dams_13 : decode cX13_dams 13 = .ok (.aload_n 0, 1) := by decide +kernel
theorem dX13_dams_14 : decode cX13_dams 14 = .ok (.iload_n 2, 1) := by decide +kernel
theorem dX13_dams_15 : decode cX13_dams 15 = .ok (.invokevirtual 336, 3) := by decide +kernel
theorem dX13_dams_18 : decode cX13_dams 18 = .ok (.ifCond .eq 17, 3) := by decide +kernel
theorem dX13_dams_21 : decode cX13_dams 21 = .ok (.iload_n 1, 1) := by decide +kernel
theorem dX13_dams_22 : decode cX13_dams 22 = .ok (.iload_n 2, 1) := by decide +kernel
theorem dX13_dams_23 : decode cX13_dams 23 = .ok (.if_icmp .eq 12, 3) := by decide +kernel
theorem dX13_dams_26 : decode cX13_dams 26 = .ok (.iload_n 3, 1) := by decide +kernel
theorem dX13_dams_27 : decode cX13_dams 27 = .ok (.iconst 0, 1) := by decide +kernel
theorem dX13_dams_28 : decode cX13_dams 28 = .ok (.iconst 1, 1) := by decide +kernel
theorem dX13_dams_29 : decode cX13_dams 29 = .ok (.invokestatic 339, 3) := by decide +kernel
theorem dX13_dams_32 : decode cX13_dams 32 = .ok (.ifCond .ne 5, 3) := by decide +kernel
theorem dX13_dams_35 : decode cX13_dams 35 = .ok (.iconst (-1), 1) := by decide +kernel
theorem dX13_dams_36 : decode cX13_dams 36 = .ok (.ireturn, 1) := by decide +kernel
theorem dX13_dams_37 : decode cX13_dams 37 = .ok (.iconst 0, 1) := by decide +kernel
theorem dX13_dams_38 : decode cX13_dams 38 = .ok (.istore 4, 2) := by decide +kernel
theorem dX13_dams_40 : decode cX13_dams 40 = .ok (.iload 4, 2) := by decide +kernel
theorem dX13_dams_42 : decode cX13_dams 42 = .ok (.sipush 441, 3) := by decide +kernel
theorem dX13_dams_45 : decode cX13_dams 45 = .ok (.if_icmp .ge 88, 3) := by decide +kernel
theorem dX13_dams_48 : decode cX13_dams 48 = .ok (.iconst 0, 1) := by decide +kernel
theorem dX13_dams_49 : decode cX13_dams 49 = .ok (.istore 5, 2) := by decide +kernel
theorem dX13_dams_51 : decode cX13_dams 51 = .ok (.iconst 1, 1) := by decide +kernel
theorem dX13_dams_52 : decode cX13_dams 52 = .ok (.istore 6, 2) := by decide +kernel
theorem dX13_dams_54 : decode cX13_dams 54 = .ok (.iload 6, 2) := by decide +kernel
theorem dX13_dams_56 : decode cX13_dams 56 = .ok (.iconst 4, 1) := by decide +kernel
theorem dX13_dams_57 : decode cX13_dams 57 = .ok (.if_icmp .ge 61, 3) := by decide +kernel
theorem dX13_dams_60 : decode cX13_dams 60 = .ok (.iload 5, 2) := by decide +kernel
theorem dX13_dams_62 : decode cX13_dams 62 = .ok (.ifCond .ne 43, 3) := by decide +kernel
theorem dX13_dams_65 : decode cX13_dams 65 = .ok (.aload_n 0, 1) := by decide +kernel
theorem dX13_dams_66 : decode cX13_dams 66 = .ok (.iload 4, 2) := by decide +kernel
theorem dX13_dams_68 : decode cX13_dams 68 = .ok (.bipush 21, 2) := by decide +kernel
theorem dX13_dams_70 : decode cX13_dams 70 = .ok (.idiv, 1) := by decide +kernel
theorem dX13_dams_71 : decode cX13_dams 71 = .ok (.iload 6, 2) := by decide +kernel
theorem dX13_dams_73 : decode cX13_dams 73 = .ok (.isub, 1) := by decide +kernel
theorem dX13_dams_74 : decode cX13_dams 74 = .ok (.iload 4, 2) := by decide +kernel
theorem dX13_dams_76 : decode cX13_dams 76 = .ok (.bipush 21, 2) := by decide +kernel
theorem dX13_dams_78 : decode cX13_dams 78 = .ok (.irem, 1) := by decide +kernel
theorem dX13_dams_79 : decode cX13_dams 79 = .ok (.invokevirtual 455, 3) := by decide +kernel
theorem dX13_dams_82 : decode cX13_dams 82 = .ok (.ifCond .ne 23, 3) := by decide +kernel
theorem dX13_dams_85 : decode cX13_dams 85 = .ok (.aload_n 0, 1) := by decide +kernel
theorem dX13_dams_86 : decode cX13_dams 86 = .ok (.iload 4, 2) := by decide +kernel
theorem dX13_dams_88 : decode cX13_dams 88 = .ok (.bipush 21, 2) := by decide +kernel
theorem dX13_dams_90 : decode cX13_dams 90 = .ok (.idiv, 1) := by decide +kernel
theorem dX13_dams_91 : decode cX13_dams 91 = .ok (.iload 4, 2) := by decide +kernel
theorem dX13_dams_93 : decode cX13_dams 93 = .ok (.bipush 21, 2) := by decide +kernel
theorem dX13_dams_95 : decode cX13_dams 95 = .ok (.irem, 1) := by decide +kernel
theorem dX13_dams_96 : decode cX13_dams 96 = .ok (.iload 6, 2) := by decide +kernel
theorem dX13_dams_98 : decode cX13_dams 98 = .ok (.isub, 1) := by decide +kernel
theorem dX13_dams_99 : decode cX13_dams 99 = .ok (.invokevirtual 455, 3) := by decide +kernel
theorem dX13_dams_102 : decode cX13_dams 102 = .ok (.ifCond .eq 7, 3) := by decide +kernel
theorem dX13_dams_105 : decode cX13_dams 105 = .ok (.iconst 1, 1) := by decide +kernel
theorem dX13_dams_106 : decode cX13_dams 106 = .ok (.goto 4, 3) := by decide +kernel
theorem dX13_dams_109 : decode cX13_dams 109 = .ok (.iconst 0, 1) := by decide +kernel
theorem dX13_dams_110 : decode cX13_dams 110 = .ok (.istore 5, 2) := by decide +kernel
theorem dX13_dams_112 : decode cX13_dams 112 = .ok (.iinc 6 1, 3) := by decide +kernel
theorem dX13_dams_115 : decode cX13_dams 115 = .ok (.goto (-61), 3) := by decide +kernel
theorem dX13_dams_118 : decode cX13_dams 118 = .ok (.aload_n 0, 1) := by decide +kernel
theorem dX13_dams_119 : decode cX13_dams 119 = .ok (.getfield 157, 3) := by decide +kernel
theorem dX13_dams_122 : decode cX13_dams 122 = .ok (.iload 4, 2) := by decide +kernel
theorem dX13_dams_124 : decode cX13_dams 124 = .ok (.iload 5, 2) := by decide +kernel
theorem dX13_dams_126 : decode cX13_dams 126 = .ok (.bastore, 1) := by decide +kernel
theorem dX13_dams_127 : decode cX13_dams 127 = .ok (.iinc 4 1, 3) := by decide +kernel
theorem dX13_dams_130 : decode cX13_dams 130 = .ok (.goto (-90), 3) := by decide +kernel
theorem dX13_dams_133 : decode cX13_dams 133 = .ok (.aload_n 0, 1) := by decide +kernel
theorem dX13_dams_134 : decode cX13_dams 134 = .ok (.iload_n 1, 1) := by decide +kernel
theorem dX13_dams_135 : decode cX13_dams 135 = .ok (.iconst 4, 1) := by decide +kernel
theorem dX13_dams_136 : decode cX13_dams 136 = .ok (.aload_n 0, 1) := by decide +kernel
theorem dX13_dams_137 : decode cX13_dams 137 = .ok (.iconst 0, 1) := by decide +kernel
theorem dX13_dams_138 : decode cX13_dams 138 = .ok (.invokevirtual 349, 3) := by decide +kernel
theorem dX13_dams_141 : decode cX13_dams 141 = .ok (.iadd, 1) := by decide +kernel
theorem dX13_dams_142 : decode cX13_dams 142 = .ok (.invokevirtual 300, 3) := by decide +kernel
theorem dX13_dams_145 : decode cX13_dams 145 = .ok (.bipush 20, 2) := by decide +kernel
theorem dX13_dams_147 : decode cX13_dams 147 = .ok (.if_icmp .le 8, 3) := by decide +kernel
theorem dX13_dams_150 : decode cX13_dams 150 = .ok (.bipush 20, 2) := by decide +kernel
theorem dX13_dams_152 : decode cX13_dams 152 = .ok (.goto 15, 3) := by decide +kernel
theorem dX13_dams_155 : decode cX13_dams 155 = .ok (.aload_n 0, 1) := by decide +kernel
theorem dX13_dams_156 : decode cX13_dams 156 = .ok (.iload_n 1, 1) := by decide +kernel
theorem dX13_dams_157 : decode cX13_dams 157 = .ok (.iconst 4, 1) := by decide +kernel
theorem dX13_dams_158 : decode cX13_dams 158 = .ok (.aload_n 0, 1) := by decide +kernel
theorem dX13_dams_159 : decode cX13_dams 159 = .ok (.iconst 0, 1) := by decide +kernel
theorem dX13_dams_160 : decode cX13_dams 160 = .ok (.invokevirtual 349, 3) := by decide +kernel
theorem dX13_dams_163 : decode cX13_dams 163 = .ok (.iadd, 1) := by decide +kernel
theorem dX13_dams_164 : decode cX13_dams 164 = .ok (.invokevirtual 300, 3) := by decide +kernel
theorem dX13_dams_167 : decode cX13_dams 167 = .ok (.istore 4, 2) := by decide +kernel
theorem dX13_dams_169 : decode cX13_dams 169 = .ok (.aload_n 0, 1) := by decide +kernel
theorem dX13_dams_170 : decode cX13_dams 170 = .ok (.iload_n 2, 1) := by decide +kernel
theorem dX13_dams_171 : decode cX13_dams 171 = .ok (.iconst 4, 1) := by decide +kernel
theorem dX13_dams_172 : decode cX13_dams 172 = .ok (.aload_n 0, 1) := by decide +kernel
theorem dX13_dams_173 : decode cX13_dams 173 = .ok (.iconst 0, 1) := by decide +kernel
theorem dX13_dams_174 : decode cX13_dams 174 = .ok (.invokevirtual 349, 3) := by decide +kernel
theorem dX13_dams_177 : decode cX13_dams 177 = .ok (.iadd, 1) := by decide +kernel
theorem dX13_dams_178 : decode cX13_dams 178 = .ok (.invokevirtual 300, 3) := by decide +kernel
theorem dX13_dams_181 : decode cX13_dams 181 = .ok (.bipush 20, 2) := by decide +kernel
theorem dX13_dams_183 : decode cX13_dams 183 = .ok (.if_icmp .le 8, 3) := by decide +kernel
theorem dX13_dams_186 : decode cX13_dams 186 = .ok (.bipush 20, 2) := by decide +kernel
theorem dX13_dams_188 : decode cX13_dams 188 = .ok (.goto 15, 3) := by decide +kernel
theorem dX13_dams_191 : decode cX13_dams 191 = .ok (.aload_n 0, 1) := by decide +kernel
theorem dX13_dams_192 : decode cX13_dams 192 = .ok (.iload_n 2, 1) := by decide +kernel
theorem dX13_dams_193 : decode cX13_dams 193 = .ok (.iconst 4, 1) := by decide +kernel
theorem dX13_dams_194 : decode cX13_dams 194 = .ok (.aload_n 0, 1) := by decide +kernel
theorem dX13_dams_195 : decode cX13_dams 195 = .ok (.iconst 0, 1) := by decide +kernel
theorem dX13_dams_196 : decode cX13_dams 196 = .ok (.invokevirtual 349, 3) := by decide +kernel
theorem dX13_dams_199 : decode cX13_dams 199 = .ok (.iadd, 1) := by decide +kernel
theorem dX13_dams_200 : decode cX13_dams 200 = .ok (.invokevirtual 300, 3) := by decide +kernel
theorem dX13_dams_203 : decode cX13_dams 203 = .ok (.istore 5, 2) := by decide +kernel
theorem dX13_dams_205 : decode cX13_dams 205 = .ok (.iload_n 3, 1) := by decide +kernel
theorem dX13_dams_206 : decode cX13_dams 206 = .ok (.ifCond .ne 25, 3) := by decide +kernel
theorem dX13_dams_209 : decode cX13_dams 209 = .ok (.aload_n 0, 1) := by decide +kernel
theorem dX13_dams_210 : decode cX13_dams 210 = .ok (.getfield 157, 3) := by decide +kernel
theorem dX13_dams_213 : decode cX13_dams 213 = .ok (.bipush 21, 2) := by decide +kernel
theorem dX13_dams_215 : decode cX13_dams 215 = .ok (.iload 4, 2) := by decide +kernel
theorem dX13_dams_217 : decode cX13_dams 217 = .ok (.imul, 1) := by decide +kernel
theorem dX13_dams_218 : decode cX13_dams 218 = .ok (.iload 5, 2) := by decide +kernel
theorem dX13_dams_220 : decode cX13_dams 220 = .ok (.iadd, 1) := by decide +kernel
theorem dX13_dams_221 : decode cX13_dams 221 = .ok (.baload, 1) := by decide +kernel
theorem dX13_dams_222 : decode cX13_dams 222 = .ok (.ifCond .eq 7, 3) := by decide +kernel
theorem dX13_dams_225 : decode cX13_dams 225 = .ok (.iconst 1, 1) := by decide +kernel
theorem dX13_dams_226 : decode cX13_dams 226 = .ok (.goto 4, 3) := by decide +kernel
theorem dX13_dams_229 : decode cX13_dams 229 = .ok (.iconst 0, 1) := by decide +kernel
theorem dX13_dams_230 : decode cX13_dams 230 = .ok (.ireturn, 1) := by decide +kernel
theorem dX13_dams_231 : decode cX13_dams 231 = .ok (.iconst 1, 1) := by decide +kernel
theorem dX13_dams_232 : decode cX13_dams 232 = .ok (.istore 6, 2) := by decide +kernel
theorem dX13_dams_234 : decode cX13_dams 234 = .ok (.iload 6, 2) := by decide +kernel
theorem dX13_dams_236 : decode cX13_dams 236 = .ok (.bipush 7, 2) := by decide +kernel
theorem dX13_dams_238 : decode cX13_dams 238 = .ok (.if_icmp .ge 51, 3) := by decide +kernel
theorem dX13_dams_241 : decode cX13_dams 241 = .ok (.iload 6, 2) := by decide +kernel
theorem dX13_dams_243 : decode cX13_dams 243 = .ok (.iconst 4, 1) := by decide +kernel
theorem dX13_dams_244 : decode cX13_dams 244 = .ok (.if_icmp .ge 20, 3) := by decide +kernel
theorem dX13_dams_247 : decode cX13_dams 247 = .ok (.aload_n 0, 1) := by decide +kernel
theorem dX13_dams_248 : decode cX13_dams 248 = .ok (.iload 4, 2) := by decide +kernel
theorem dX13_dams_250 : decode cX13_dams 250 = .ok (.iload 6, 2) := by decide +kernel
theorem dX13_dams_252 : decode cX13_dams 252 = .ok (.isub, 1) := by decide +kernel
theorem dX13_dams_253 : decode cX13_dams 253 = .ok (.iload 5, 2) := by decide +kernel
theorem dX13_dams_255 : decode cX13_dams 255 = .ok (.invokevirtual 455, 3) := by decide +kernel
theorem dX13_dams_258 : decode cX13_dams 258 = .ok (.ifCond .eq 25, 3) := by decide +kernel
theorem dX13_dams_261 : decode cX13_dams 261 = .ok (.goto 19, 3) := by decide +kernel
theorem dX13_dams_264 : decode cX13_dams 264 = .ok (.aload_n 0, 1) := by decide +kernel
theorem dX13_dams_265 : decode cX13_dams 265 = .ok (.iload 4, 2) := by decide +kernel
theorem dX13_dams_267 : decode cX13_dams 267 = .ok (.iload 5, 2) := by decide +kernel
theorem dX13_dams_269 : decode cX13_dams 269 = .ok (.iload 6, 2) := by decide +kernel
theorem dX13_dams_271 : decode cX13_dams 271 = .ok (.isub, 1) := by decide +kernel
theorem dX13_dams_272 : decode cX13_dams 272 = .ok (.iconst 3, 1) := by decide +kernel
theorem dX13_dams_273 : decode cX13_dams 273 = .ok (.iadd, 1) := by decide +kernel
theorem dX13_dams_274 : decode cX13_dams 274 = .ok (.invokevirtual 455, 3) := by decide +kernel
theorem dX13_dams_277 : decode cX13_dams 277 = .ok (.ifCond .eq 6, 3) := by decide +kernel
theorem dX13_dams_280 : decode cX13_dams 280 = .ok (.iload 6, 2) := by decide +kernel
theorem dX13_dams_282 : decode cX13_dams 282 = .ok (.ireturn, 1) := by decide +kernel
theorem dX13_dams_283 : decode cX13_dams 283 = .ok (.iinc 6 1, 3) := by decide +kernel
theorem dX13_dams_286 : decode cX13_dams 286 = .ok (.goto (-52), 3) := by decide +kernel
theorem dX13_dams_289 : decode cX13_dams 289 = .ok (.iconst (-1), 1) := by decide +kernel
theorem dX13_dams_290 : decode cX13_dams 290 = .ok (.ireturn, 1) := by decide +kernel
theorem dX13_draw_0 : decode cX13_draw 0 = .ok (.aload_n 0, 1) := by decide +kernel
theorem dX13_draw_1 : decode cX13_draw 1 = .ok (.aload_n 0, 1) := by decide +kernel
theorem dX13_draw_2 : decode cX13_draw 2 = .ok (.getfield 458, 3) := by decide +kernel
theorem dX13_draw_5 : decode cX13_draw 5 = .ok (.ldc2_w 462, 3) := by decide +kernel
theorem dX13_draw_8 : decode cX13_draw 8 = .ok (.lmul, 1) := by decide +kernel
theorem dX13_draw_9 : decode cX13_draw 9 = .ok (.ldc2_w 464, 3) := by decide +kernel
theorem dX13_draw_12 : decode cX13_draw 12 = .ok (.ladd, 1) := by decide +kernel
theorem dX13_draw_13 : decode cX13_draw 13 = .ok (.ldc2_w 466, 3) := by decide +kernel
theorem dX13_draw_16 : decode cX13_draw 16 = .ok (.lrem, 1) := by decide +kernel
theorem dX13_draw_17 : decode cX13_draw 17 = .ok (.putfield 458, 3) := by decide +kernel
theorem dX13_draw_20 : decode cX13_draw 20 = .ok (.aload_n 0, 1) := by decide +kernel
theorem dX13_draw_21 : decode cX13_draw 21 = .ok (.getfield 458, 3) := by decide +kernel
theorem dX13_draw_24 : decode cX13_draw 24 = .ok (.ldc2_w 468, 3) := by decide +kernel
theorem dX13_draw_27 : decode cX13_draw 27 = .ok (.ldiv, 1) := by decide +kernel
theorem dX13_draw_28 : decode cX13_draw 28 = .ok (.iload_n 1, 1) := by decide +kernel
theorem dX13_draw_29 : decode cX13_draw 29 = .ok (.i2l, 1) := by decide +kernel
theorem dX13_draw_30 : decode cX13_draw 30 = .ok (.lrem, 1) := by decide +kernel
theorem dX13_draw_31 : decode cX13_draw 31 = .ok (.l2i, 1) := by decide +kernel
theorem dX13_draw_32 : decode cX13_draw 32 = .ok (.ireturn, 1) := by decide +kernel
theorem dX13_centuries_0 : decode cX13_centuries 0 = .ok (.aload_n 0, 1) := by decide +kernel
theorem dX13_centuries_1 : decode cX13_centuries 1 = .ok (.iconst 0, 1) := by decide +kernel
theorem dX13_centuries_2 : decode cX13_centuries 2 = .ok (.putfield 1, 3) := by decide +kernel
theorem dX13_centuries_5 : decode cX13_centuries 5 = .ok (.iload_n 1, 1) := by decide +kernel
theorem dX13_centuries_6 : decode cX13_centuries 6 = .ok (.iconst 0, 1) := by decide +kernel
theorem dX13_centuries_7 : decode cX13_centuries 7 = .ok (.sipush 9999, 3) := by decide +kernel
theorem dX13_centuries_10 : decode cX13_centuries 10 = .ok (.invokestatic 339, 3) := by decide +kernel
theorem dX13_centuries_13 : decode cX13_centuries 13 = .ok (.ifCond .eq 29, 3) := by decide +kernel
theorem dX13_centuries_16 : decode cX13_centuries 16 = .ok (.iload_n 2, 1) := by decide +kernel
theorem dX13_centuries_17 : decode cX13_centuries 17 = .ok (.iconst 1, 1) := by decide +kernel
theorem dX13_centuries_18 : decode cX13_centuries 18 = .ok (.bipush 100, 2) := by decide +kernel
theorem dX13_centuries_20 : decode cX13_centuries 20 = .ok (.invokestatic 339, 3) := by decide +kernel
theorem dX13_centuries_23 : decode cX13_centuries 23 = .ok (.ifCond .eq 19, 3) := by decide +kernel
theorem dX13_centuries_26 : decode cX13_centuries 26 = .ok (.iload_n 3, 1) := by decide +kernel
theorem dX13_centuries_27 : decode cX13_centuries 27 = .ok (.iconst 0, 1) := by decide +kernel
theorem dX13_centuries_28 : decode cX13_centuries 28 = .ok (.iconst 2, 1) := by decide +kernel
theorem dX13_centuries_29 : decode cX13_centuries 29 = .ok (.invokestatic 339, 3) := by decide +kernel
theorem dX13_centuries_32 : decode cX13_centuries 32 = .ok (.ifCond .eq 10, 3) := by decide +kernel
theorem dX13_centuries_35 : decode cX13_centuries 35 = .ok (.aload_n 0, 1) := by decide +kernel
theorem dX13_centuries_36 : decode cX13_centuries 36 = .ok (.invokevirtual 296, 3) := by decide +kernel
theorem dX13_centuries_39 : decode cX13_centuries 39 = .ok (.ifCond .ne 5, 3) := by decide +kernel
theorem dX13_centuries_42 : decode cX13_centuries 42 = .ok (.iconst (-1), 1) := by decide +kernel
theorem dX13_centuries_43 : decode cX13_centuries 43 = .ok (.ireturn, 1) := by decide +kernel
theorem dX13_centuries_44 : decode cX13_centuries 44 = .ok (.aload_n 0, 1) := by decide +kernel
theorem dX13_centuries_45 : decode cX13_centuries 45 = .ok (.iconst 0, 1) := by decide +kernel
theorem dX13_centuries_46 : decode cX13_centuries 46 = .ok (.sipush 1260, 3) := by decide +kernel
theorem dX13_centuries_49 : decode cX13_centuries 49 = .ok (.bipush 19, 2) := by decide +kernel
theorem dX13_centuries_51 : decode cX13_centuries 51 = .ok (.invokevirtual 292, 3) := by decide +kernel
theorem dX13_centuries_54 : decode cX13_centuries 54 = .ok (.aload_n 0, 1) := by decide +kernel
theorem dX13_centuries_55 : decode cX13_centuries 55 = .ok (.iload_n 1, 1) := by decide +kernel
theorem dX13_centuries_56 : decode cX13_centuries 56 = .ok (.i2l, 1) := by decide +kernel
theorem dX13_centuries_57 : decode cX13_centuries 57 = .ok (.putfield 458, 3) := by decide +kernel
theorem dX13_centuries_60 : decode cX13_centuries 60 = .ok (.iconst 0, 1) := by decide +kernel
theorem dX13_centuries_61 : decode cX13_centuries 61 = .ok (.istore 4, 2) := by decide +kernel
theorem dX13_centuries_63 : decode cX13_centuries 63 = .ok (.iconst 0, 1) := by decide +kernel
theorem dX13_centuries_64 : decode cX13_centuries 64 = .ok (.istore 5, 2) := by decide +kernel
theorem dX13_centuries_66 : decode cX13_centuries 66 = .ok (.iconst 0, 1) := by decide +kernel
theorem dX13_centuries_67 : decode cX13_centuries 67 = .ok (.istore 6, 2) := by decide +kernel
theorem dX13_centuries_69 : decode cX13_centuries 69 = .ok (.iload 6, 2) := by decide +kernel
theorem dX13_centuries_71 : decode cX13_centuries 71 = .ok (.iload_n 2, 1) := by decide +kernel
theorem dX13_centuries_72 : decode cX13_centuries 72 = .ok (.if_icmp .ge 211, 3) := by decide +kernel
theorem dX13_centuries_75 : decode cX13_centuries 75 = .ok (.aload_n 0, 1) := by decide +kernel
theorem dX13_centuries_76 : decode cX13_centuries 76 = .ok (.bipush 10, 2) := by decide +kernel
theorem dX13_centuries_78 : decode cX13_centuries 78 = .ok (.invokevirtual 470, 3) := by decide +kernel
theorem dX13_centuries_81 : decode cX13_centuries 81 = .ok (.istore 7, 2) := by decide +kernel
theorem dX13_centuries_83 : decode cX13_centuries 83 = .ok (.aload_n 0, 1) := by decide +kernel
theorem dX13_centuries_84 : decode cX13_centuries 84 = .ok (.iload 7, 2) := by decide +kernel
theorem dX13_centuries_86 : decode cX13_centuries 86 = .ok (.ifCond .ne 7, 3) := by decide +kernel
theorem dX13_centuries_89 : decode cX13_centuries 89 = .ok (.iconst 1, 1) := by decide +kernel
theorem dX13_centuries_90 : decode cX13_centuries 90 = .ok (.goto 4, 3) := by decide +kernel
theorem dX13_centuries_93 : decode cX13_centuries 93 = .ok (.iconst 0, 1) := by decide +kernel
theorem dX13_centuries_94 : decode cX13_centuries 94 = .ok (.putfield 306, 3) := by decide +kernel
theorem dX13_centuries_97 : decode cX13_centuries 97 = .ok (.iload 7, 2) := by decide +kernel
theorem dX13_centuries_99 : decode cX13_centuries 99 = .ok (.iconst 1, 1) := by decide +kernel
theorem dX13_centuries_100 : decode cX13_centuries 100 = .ok (.if_icmp .ne 65, 3) := by decide +kernel
theorem dX13_centuries_103 : decode cX13_centuries 103 = .ok (.aload_n 0, 1) := by decide +kernel
theorem dX13_centuries_104 : decode cX13_centuries 104 = .ok (.aload_n 0, 1) := by decide +kernel
theorem dX13_centuries_105 : decode cX13_centuries 105 = .ok (.invokevirtual 296, 3) := by decide +kernel
theorem dX13_centuries_108 : decode cX13_centuries 108 = .ok (.invokevirtual 470, 3) := by decide +kernel
theorem dX13_centuries_111 : decode cX13_centuries 111 = .ok (.istore 8, 2) := by decide +kernel
theorem dX13_centuries_113 : decode cX13_centuries 113 = .ok (.aload_n 0, 1) := by decide +kernel
theorem dX13_centuries_114 : decode cX13_centuries 114 = .ok (.aload_n 0, 1) := by decide +kernel
theorem dX13_centuries_115 : decode cX13_centuries 115 = .ok (.invokevirtual 296, 3) := by decide +kernel
theorem dX13_centuries_118 : decode cX13_centuries 118 = .ok (.invokevirtual 470, 3) := by decide +kernel
theorem dX13_centuries_121 : decode cX13_centuries 121 = .ok (.istore 9, 2) := by decide +kernel
theorem dX13_centuries_123 : decode cX13_centuries 123 = .ok (.aload_n 0, 1) := by decide +kernel
theorem dX13_centuries_124 : decode cX13_centuries 124 = .ok (.getfield 126, 3) := by decide +kernel
theorem dX13_centuries_127 : decode cX13_centuries 127 = .ok (.sipush 1261, 3) := by decide +kernel
theorem dX13_centuries_130 : decode cX13_centuries 130 = .ok (.iload 8, 2) := by decide +kernel
theorem dX13_centuries_132 : decode cX13_centuries 132 = .ok (.iadd, 1) := by decide +kernel
theorem dX13_centuries_133 : decode cX13_centuries 133 = .ok (.aload_n 0, 1) := by decide +kernel
theorem dX13_centuries_134 : decode cX13_centuries 134 = .ok (.sipush 1260, 3) := by decide +kernel
theorem dX13_centuries_137 : decode cX13_centuries 137 = .ok (.iload 8, 2) := by decide +kernel
theorem dX13_centuries_139 : decode cX13_centuries 139 = .ok (.iload 9, 2) := by decide +kernel
theorem dX13_centuries_141 : decode cX13_centuries 141 = .ok (.invokevirtual 361, 3) := by decide +kernel
theorem dX13_centuries_144 : decode cX13_centuries 144 = .ok (.ifCond .eq 8, 3) := by decide +kernel
theorem dX13_centuries_147 : decode cX13_centuries 147 = .ok (.iload 9, 2) := by decide +kernel
theorem dX13_centuries_149 : decode cX13_centuries 149 = .ok (.goto 12, 3) := by decide +kernel
theorem dX13_centuries_152 : decode cX13_centuries 152 = .ok (.aload_n 0, 1) := by decide +kernel
theorem dX13_centuries_153 : decode cX13_centuries 153 = .ok (.sipush 1260, 3) := by decide +kernel
theorem dX13_centuries_156 : decode cX13_centuries 156 = .ok (.iload 8, 2) := by decide +kernel
theorem dX13_centuries_158 : decode cX13_centuries 158 = .ok (.invokevirtual 303, 3) := by decide +kernel
theorem dX13_centuries_161 : decode cX13_centuries 161 = .ok (.iastore, 1) := by decide +kernel
theorem dX13_centuries_162 : decode cX13_centuries 162 = .ok (.goto 27, 3) := by decide +kernel
theorem dX13_centuries_165 : decode cX13_centuries 165 = .ok (.iload 7, 2) := by decide +kernel
theorem dX13_centuries_167 : decode cX13_centuries 167 = .ok (.iconst 2, 1) := by decide +kernel
theorem dX13_centuries_168 : decode cX13_centuries 168 = .ok (.if_icmp .ne 21, 3) := by decide +kernel
theorem dX13_centuries_171 : decode cX13_centuries 171 = .ok (.aload_n 0, 1) := by decide +kernel
theorem dX13_centuries_172 : decode cX13_centuries 172 = .ok (.getfield 126, 3) := by decide +kernel
theorem dX13_centuries_175 : decode cX13_centuries 175 = .ok (.sipush 1261, 3) := by decide +kernel
theorem dX13_centuries_178 : decode cX13_centuries 178 = .ok (.aload_n 0, 1) := by decide +kernel
theorem dX13_centuries_179 : decode cX13_centuries 179 = .ok (.aload_n 0, 1) := by decide +kernel
theorem dX13_centuries_180 : decode cX13_centuries 180 = .ok (.invokevirtual 296, 3) := by decide +kernel
theorem dX13_centuries_183 : decode cX13_centuries 183 = .ok (.invokevirtual 470, 3) := by decide +kernel
theorem dX13_centuries_186 : decode cX13_centuries 186 = .ok (.iadd, 1) := by decide +kernel
theorem dX13_centuries_187 : decode cX13_centuries 187 = .ok (.iconst (-1), 1) := by decide +kernel
theorem dX13_centuries_188 : decode cX13_centuries 188 = .ok (.iastore, 1) := by decide +kernel
theorem dX13_centuries_189 : decode cX13_centuries 189 = .ok (.iconst 0, 1) := by decide +kernel
theorem dX13_centuries_190 : decode cX13_centuries 190 = .ok (.istore 8, 2) := by decide +kernel
theorem dX13_centuries_192 : decode cX13_centuries 192 = .ok (.iload 8, 2) := by decide +kernel
theorem dX13_centuries_194 : decode cX13_centuries 194 = .ok (.aload_n 0, 1) := by decide +kernel
theorem dX13_centuries_195 : decode cX13_centuries 195 = .ok (.invokevirtual 296, 3) := by decide +kernel
theorem dX13_centuries_198 : decode cX13_centuries 198 = .ok (.if_icmp .ge 67, 3) := by decide +kernel
theorem dX13_centuries_201 : decode cX13_centuries 201 = .ok (.iload 4, 2) := by decide +kernel
theorem dX13_centuries_203 : decode cX13_centuries 203 = .ok (.aload_n 0, 1) := by decide +kernel
theorem dX13_centuries_204 : decode cX13_centuries 204 = .ok (.sipush 1260, 3) := by decide +kernel
theorem dX13_centuries_207 : decode cX13_centuries 207 = .ok (.iload 8, 2) := by decide +kernel
theorem dX13_centuries_209 : decode cX13_centuries 209 = .ok (.aload_n 0, 1) := by decide +kernel
theorem dX13_centuries_210 : decode cX13_centuries 210 = .ok (.sipush 1260, 3) := by decide +kernel
theorem dX13_centuries_213 : decode cX13_centuries 213 = .ok (.invokevirtual 349, 3) := by decide +kernel
theorem dX13_centuries_216 : decode cX13_centuries 216 = .ok (.invokevirtual 329, 3) := by decide +kernel
theorem dX13_centuries_219 : decode cX13_centuries 219 = .ok (.ifCond .eq 7, 3) := by decide +kernel
theorem dX13_centuries_222 : decode cX13_centuries 222 = .ok (.iconst 1, 1) := by decide +kernel
theorem dX13_centuries_223 : decode cX13_centuries 223 = .ok (.goto 4, 3) := by decide +kernel
theorem dX13_centuries_226 : decode cX13_centuries 226 = .ok (.iconst 0, 1) := by decide +kernel
theorem dX13_centuries_227 : decode cX13_centuries 227 = .ok (.iadd, 1) := by decide +kernel
theorem dX13_centuries_228 : decode cX13_centuries 228 = .ok (.istore 4, 2) := by decide +kernel
theorem dX13_centuries_230 : decode cX13_centuries 230 = .ok (.iload 5, 2) := by decide +kernel
theorem dX13_centuries_232 : decode cX13_centuries 232 = .ok (.aload_n 0, 1) := by decide +kernel
theorem dX13_centuries_233 : decode cX13_centuries 233 = .ok (.sipush 1260, 3) := by decide +kernel
theorem dX13_centuries_236 : decode cX13_centuries 236 = .ok (.iload 8, 2) := by decide +kernel
theorem dX13_centuries_238 : decode cX13_centuries 238 = .ok (.aload_n 0, 1) := by decide +kernel
theorem dX13_centuries_239 : decode cX13_centuries 239 = .ok (.sipush 1260, 3) := by decide +kernel
theorem dX13_centuries_242 : decode cX13_centuries 242 = .ok (.invokevirtual 349, 3) := by decide +kernel
theorem dX13_centuries_245 : decode cX13_centuries 245 = .ok (.invokevirtual 333, 3) := by decide +kernel
theorem dX13_centuries_248 : decode cX13_centuries 248 = .ok (.ifCond .eq 7, 3) := by decide +kernel
theorem dX13_centuries_251 : decode cX13_centuries 251 = .ok (.iconst 1, 1) := by decide +kernel
theorem dX13_centuries_252 : decode cX13_centuries 252 = .ok (.goto 4, 3) := by decide +kernel
theorem dX13_centuries_255 : decode cX13_centuries 255 = .ok (.iconst 0, 1) := by decide +kernel
theorem dX13_centuries_256 : decode cX13_centuries 256 = .ok (.iadd, 1) := by decide +kernel
theorem dX13_centuries_257 : decode cX13_centuries 257 = .ok (.istore 5, 2) := by decide +kernel
theorem dX13_centuries_259 : decode cX13_centuries 259 = .ok (.iinc 8 1, 3) := by decide +kernel
theorem dX13_centuries_262 : decode cX13_centuries 262 = .ok (.goto (-70), 3) := by decide +kernel
theorem dX13_centuries_265 : decode cX13_centuries 265 = .ok (.aload_n 0, 1) := by decide +kernel
theorem dX13_centuries_266 : decode cX13_centuries 266 = .ok (.getfield 126, 3) := by decide +kernel
theorem dX13_centuries_269 : decode cX13_centuries 269 = .ok (.sipush 1260, 3) := by decide +kernel
theorem dX13_centuries_272 : decode cX13_centuries 272 = .ok (.dup2, 1) := by decide +kernel
theorem dX13_centuries_273 : decode cX13_centuries 273 = .ok (.iaload, 1) := by decide +kernel
theorem dX13_centuries_274 : decode cX13_centuries 274 = .ok (.iconst 1, 1) := by decide +kernel
theorem dX13_centuries_275 : decode cX13_centuries 275 = .ok (.iadd, 1) := by decide +kernel
theorem dX13_centuries_276 : decode cX13_centuries 276 = .ok (.iastore, 1) := by decide +kernel
theorem dX13_centuries_277 : decode cX13_centuries 277 = .ok (.iinc 6 1, 3) := by decide +kernel
theorem dX13_centuries_280 : decode cX13_centuries 280 = .ok (.goto (-211), 3) := by decide +kernel
theorem dX13_centuries_283 : decode cX13_centuries 283 = .ok (.aload_n 0, 1) := by decide +kernel
theorem dX13_centuries_284 : decode cX13_centuries 284 = .ok (.iconst 0, 1) := by decide +kernel
theorem dX13_centuries_285 : decode cX13_centuries 285 = .ok (.putfield 306, 3) := by decide +kernel
theorem dX13_centuries_288 : decode cX13_centuries 288 = .ok (.iload_n 3, 1) := by decide +kernel
theorem dX13_centuries_289 : decode cX13_centuries 289 = .ok (.ifCond .ne 8, 3) := by decide +kernel
theorem dX13_centuries_292 : decode cX13_centuries 292 = .ok (.iload 4, 2) := by decide +kernel
theorem dX13_centuries_294 : decode cX13_centuries 294 = .ok (.goto 20, 3) := by decide +kernel
theorem dX13_centuries_297 : decode cX13_centuries 297 = .ok (.iload_n 3, 1) := by decide +kernel
theorem dX13_centuries_298 : decode cX13_centuries 298 = .ok (.iconst 1, 1) := by decide +kernel
theorem dX13_centuries_299 : decode cX13_centuries 299 = .ok (.if_icmp .ne 8, 3) := by decide +kernel
theorem dX13_centuries_302 : decode cX13_centuries 302 = .ok (.iload 5, 2) := by decide +kernel
theorem dX13_centuries_304 : decode cX13_centuries 304 = .ok (.goto 10, 3) := by decide +kernel
theorem dX13_centuries_307 : decode cX13_centuries 307 = .ok (.aload_n 0, 1) := by decide +kernel
theorem dX13_centuries_308 : decode cX13_centuries 308 = .ok (.sipush 1260, 3) := by decide +kernel
theorem dX13_centuries_311 : decode cX13_centuries 311 = .ok (.invokevirtual 388, 3) := by decide +kernel
theorem dX13_centuries_314 : decode cX13_centuries 314 = .ok (.ireturn, 1) := by decide +kernel
theorem dX13_mark_0 : decode cX13_mark 0 = .ok (.aload_n 0, 1) := by decide +kernel
theorem dX13_mark_1 : decode cX13_mark 1 = .ok (.iconst 0, 1) := by decide +kernel
theorem dX13_mark_2 : decode cX13_mark 2 = .ok (.putfield 1, 3) := by decide +kernel
theorem dX13_mark_5 : decode cX13_mark 5 = .ok (.iload_n 1, 1) := by decide +kernel
theorem dX13_mark_6 : decode cX13_mark 6 = .ok (.iconst 0, 1) := by decide +kernel
theorem dX13_mark_7 : decode cX13_mark 7 = .ok (.iconst 3, 1) := by decide +kernel
theorem dX13_mark_8 : decode cX13_mark 8 = .ok (.invokestatic 339, 3) := by decide +kernel
theorem dX13_mark_11 : decode cX13_mark 11 = .ok (.ifCond .eq 16, 3) := by decide +kernel
theorem dX13_mark_14 : decode cX13_mark 14 = .ok (.iload_n 2, 1) := by decide +kernel
theorem dX13_mark_15 : decode cX13_mark 15 = .ok (.ifCond .eq 14, 3) := by decide +kernel
theorem dX13_mark_18 : decode cX13_mark 18 = .ok (.aload_n 0, 1) := by decide +kernel
theorem dX13_mark_19 : decode cX13_mark 19 = .ok (.getfield 129, 3) := by decide +kernel
theorem dX13_mark_22 : decode cX13_mark 22 = .ok (.iload_n 1, 1) := by decide +kernel
theorem dX13_mark_23 : decode cX13_mark 23 = .ok (.baload, 1) := by decide +kernel
theorem dX13_mark_24 : decode cX13_mark 24 = .ok (.ifCond .ne 5, 3) := by decide +kernel
theorem dX13_mark_27 : decode cX13_mark 27 = .ok (.iconst 0, 1) := by decide +kernel
theorem dX13_mark_28 : decode cX13_mark 28 = .ok (.ireturn, 1) := by decide +kernel
theorem dX13_mark_29 : decode cX13_mark 29 = .ok (.aload_n 0, 1) := by decide +kernel
theorem dX13_mark_30 : decode cX13_mark 30 = .ok (.getfield 129, 3) := by decide +kernel
theorem dX13_mark_33 : decode cX13_mark 33 = .ok (.iload_n 1, 1) := by decide +kernel
theorem dX13_mark_34 : decode cX13_mark 34 = .ok (.iconst 1, 1) := by decide +kernel
theorem dX13_mark_35 : decode cX13_mark 35 = .ok (.bastore, 1) := by decide +kernel
theorem dX13_mark_36 : decode cX13_mark 36 = .ok (.aload_n 0, 1) := by decide +kernel
theorem dX13_mark_37 : decode cX13_mark 37 = .ok (.iload_n 2, 1) := by decide +kernel
theorem dX13_mark_38 : decode cX13_mark 38 = .ok (.ifCond .eq 12, 3) := by decide +kernel
theorem dX13_mark_41 : decode cX13_mark 41 = .ok (.bipush 60, 2) := by decide +kernel
theorem dX13_mark_43 : decode cX13_mark 43 = .ok (.iconst 1, 1) := by decide +kernel
theorem dX13_mark_44 : decode cX13_mark 44 = .ok (.iload_n 1, 1) := by decide +kernel
theorem dX13_mark_45 : decode cX13_mark 45 = .ok (.iadd, 1) := by decide +kernel
theorem dX13_mark_46 : decode cX13_mark 46 = .ok (.imul, 1) := by decide +kernel
theorem dX13_mark_47 : decode cX13_mark 47 = .ok (.goto 4, 3) := by decide +kernel
theorem dX13_mark_50 : decode cX13_mark 50 = .ok (.iconst 0, 1) := by decide +kernel
theorem dX13_mark_51 : decode cX13_mark 51 = .ok (.iload_n 2, 1) := by decide +kernel
theorem dX13_mark_52 : decode cX13_mark 52 = .ok (.ifCond .eq 7, 3) := by decide +kernel
theorem dX13_mark_55 : decode cX13_mark 55 = .ok (.iconst 0, 1) := by decide +kernel
theorem dX13_mark_56 : decode cX13_mark 56 = .ok (.goto 9, 3) := by decide +kernel
theorem dX13_mark_59 : decode cX13_mark 59 = .ok (.bipush 60, 2) := by decide +kernel
theorem dX13_mark_61 : decode cX13_mark 61 = .ok (.iconst 1, 1) := by decide +kernel
theorem dX13_mark_62 : decode cX13_mark 62 = .ok (.iload_n 1, 1) := by decide +kernel
theorem dX13_mark_63 : decode cX13_mark 63 = .ok (.iadd, 1) := by decide +kernel
theorem dX13_mark_64 : decode cX13_mark 64 = .ok (.imul, 1) := by decide +kernel
theorem dX13_mark_65 : decode cX13_mark 65 = .ok (.bipush 60, 2) := by decide +kernel
theorem dX13_mark_67 : decode cX13_mark 67 = .ok (.invokevirtual 292, 3) := by decide +kernel
theorem dX13_mark_70 : decode cX13_mark 70 = .ok (.aload_n 0, 1) := by decide +kernel
theorem dX13_mark_71 : decode cX13_mark 71 = .ok (.iload_n 2, 1) := by decide +kernel
theorem dX13_mark_72 : decode cX13_mark 72 = .ok (.ifCond .eq 7, 3) := by decide +kernel
theorem dX13_mark_75 : decode cX13_mark 75 = .ok (.iconst 0, 1) := by decide +kernel
theorem dX13_mark_76 : decode cX13_mark 76 = .ok (.goto 7, 3) := by decide +kernel
theorem dX13_mark_79 : decode cX13_mark 79 = .ok (.aload_n 0, 1) := by decide +kernel
theorem dX13_mark_80 : decode cX13_mark 80 = .ok (.getfield 289, 3) := by decide +kernel
theorem dX13_mark_83 : decode cX13_mark 83 = .ok (.putfield 289, 3) := by decide +kernel
theorem dX13_mark_86 : decode cX13_mark 86 = .ok (.iconst 1, 1) := by decide +kernel
theorem dX13_mark_87 : decode cX13_mark 87 = .ok (.ireturn, 1) := by decide +kernel
theorem dX13_count_0 : decode cX13_count 0 = .ok (.aload_n 0, 1) := by decide +kernel
theorem dX13_count_1 : decode cX13_count 1 = .ok (.iconst 0, 1) := by decide +kernel
theorem dX13_count_2 : decode cX13_count 2 = .ok (.putfield 1, 3) := by decide +kernel
theorem dX13_count_5 : decode cX13_count 5 = .ok (.iload_n 1, 1) := by decide +kernel
theorem dX13_count_6 : decode cX13_count 6 = .ok (.tableswitch 119 0 9 #[54, 59, 66, 73, 79, 86, 94, 102, 109, 114], 54) := by decide +kernel
theorem dX13_count_60 : decode cX13_count 60 = .ok (.aload_n 0, 1) := by decide +kernel
theorem dX13_count_61 : decode cX13_count 61 = .ok (.invokevirtual 296, 3) := by decide +kernel
theorem dX13_count_64 : decode cX13_count 64 = .ok (.ireturn, 1) := by decide +kernel
theorem dX13_count_65 : decode cX13_count 65 = .ok (.aload_n 0, 1) := by decide +kernel
theorem dX13_count_66 : decode cX13_count 66 = .ok (.getfield 99, 3) := by decide +kernel
theorem dX13_count_69 : decode cX13_count 69 = .ok (.iconst 1, 1) := by decide +kernel
theorem dX13_count_70 : decode cX13_count 70 = .ok (.iaload, 1) := by decide +kernel
theorem dX13_count_71 : decode cX13_count 71 = .ok (.ireturn, 1) := by decide +kernel
theorem dX13_count_72 : decode cX13_count 72 = .ok (.aload_n 0, 1) := by decide +kernel
theorem dX13_count_73 : decode cX13_count 73 = .ok (.getfield 126, 3) := by decide +kernel
theorem dX13_count_76 : decode cX13_count 76 = .ok (.iconst 0, 1) := by decide +kernel
theorem dX13_count_77 : decode cX13_count 77 = .ok (.iaload, 1) := by decide +kernel
theorem dX13_count_78 : decode cX13_count 78 = .ok (.ireturn, 1) := by decide +kernel
theorem dX13_count_79 : decode cX13_count 79 = .ok (.aload_n 0, 1) := by decide +kernel
theorem dX13_count_80 : decode cX13_count 80 = .ok (.iconst 0, 1) := by decide +kernel
theorem dX13_count_81 : decode cX13_count 81 = .ok (.invokevirtual 388, 3) := by decide +kernel
theorem dX13_count_84 : decode cX13_count 84 = .ok (.ireturn, 1) := by decide +kernel
theorem dX13_count_85 : decode cX13_count 85 = .ok (.aload_n 0, 1) := by decide +kernel
theorem dX13_count_86 : decode cX13_count 86 = .ok (.getfield 114, 3) := by decide +kernel
theorem dX13_count_89 : decode cX13_count 89 = .ok (.iconst 0, 1) := by decide +kernel
theorem dX13_count_90 : decode cX13_count 90 = .ok (.iaload, 1) := by decide +kernel
theorem dX13_count_91 : decode cX13_count 91 = .ok (.ireturn, 1) := by decide +kernel
theorem dX13_count_92 : decode cX13_count 92 = .ok (.aload_n 0, 1) := by decide +kernel
theorem dX13_count_93 : decode cX13_count 93 = .ok (.getfield 126, 3) := by decide +kernel
theorem dX13_count_96 : decode cX13_count 96 = .ok (.bipush 19, 2) := by decide +kernel
theorem dX13_count_98 : decode cX13_count 98 = .ok (.iaload, 1) := by decide +kernel
