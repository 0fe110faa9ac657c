theorem dX13_count_99 : decode cX13_count 99 = .ok (.ireturn, 1) := by decide +kernel
theorem dX13_count_100 : decode cX13_count 100 = .ok (.aload_n 0, 1) := by decide +kernel
theorem dX13_count_101 : decode cX13_count 101 = .ok (.getfield 126, 3) := by decide +kernel
theorem dX13_count_104 : decode cX13_count 104 = .ok (.bipush 26, 2) := by decide +kernel
theorem dX13_count_106 : decode cX13_count 106 = .ok (.iaload, 1) := by decide +kernel
theorem dX13_count_107 : decode cX13_count 107 = .ok (.ireturn, 1) := by decide +kernel
theorem dX13_count_108 : decode cX13_count 108 = .ok (.aload_n 0, 1) := by decide +kernel
theorem dX13_count_109 : decode cX13_count 109 = .ok (.getfield 99, 3) := by decide +kernel
theorem dX13_count_112 : decode cX13_count 112 = .ok (.iconst 2, 1) := by decide +kernel
theorem dX13_count_113 : decode cX13_count 113 = .ok (.iaload, 1) := by decide +kernel
theorem dX13_count_114 : decode cX13_count 114 = .ok (.ireturn, 1) := by decide +kernel
theorem dX13_count_115 : decode cX13_count 115 = .ok (.aload_n 0, 1) := by decide +kernel
theorem dX13_count_116 : decode cX13_count 116 = .ok (.getfield 289, 3) := by decide +kernel
theorem dX13_count_119 : decode cX13_count 119 = .ok (.ireturn, 1) := by decide +kernel
theorem dX13_count_120 : decode cX13_count 120 = .ok (.aload_n 0, 1) := by decide +kernel
theorem dX13_count_121 : decode cX13_count 121 = .ok (.getfield 11, 3) := by decide +kernel
theorem dX13_count_124 : decode cX13_count 124 = .ok (.ireturn, 1) := by decide +kernel
theorem dX13_count_125 : decode cX13_count 125 = .ok (.iconst (-1), 1) := by decide +kernel
theorem dX13_count_126 : decode cX13_count 126 = .ok (.ireturn, 1) := by decide +kernel
