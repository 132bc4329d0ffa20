theorem dX3_findBestMove_0 : decode cX3_findBestMove 0 = .ok (.aload_n 0, 1) := by decide +kernel
theorem dX3_findBestMove_1 : decode cX3_findBestMove 1 = .ok (.getfield 25, 3) := by decide +kernel
theorem dX3_findBestMove_4 : decode cX3_findBestMove 4 = .ok (.aload_n 0, 1) := by decide +kernel
theorem dX3_findBestMove_5 : decode cX3_findBestMove 5 = .ok (.getfield 21, 3) := by decide +kernel
theorem dX3_findBestMove_8 : decode cX3_findBestMove 8 = .ok (.invokevirtual 179, 3) := by decide +kernel
theorem dX3_findBestMove_11 : decode cX3_findBestMove 11 = .ok (.aload_n 0, 1) := by decide +kernel
theorem dX3_findBestMove_12 : decode cX3_findBestMove 12 = .ok (.getfield 25, 3) := by decide +kernel
theorem dX3_findBestMove_15 : decode cX3_findBestMove 15 = .ok (.iload_n 1, 1) := by decide +kernel
theorem dX3_findBestMove_16 : decode cX3_findBestMove 16 = .ok (.aload_n 0, 1) := by decide +kernel
theorem dX3_findBestMove_17 : decode cX3_findBestMove 17 = .ok (.getfield 10, 3) := by decide +kernel
theorem dX3_findBestMove_20 : decode cX3_findBestMove 20 = .ok (.invokevirtual 156, 3) := by decide +kernel
theorem dX3_findBestMove_23 : decode cX3_findBestMove 23 = .ok (.aload_n 0, 1) := by decide +kernel
theorem dX3_findBestMove_24 : decode cX3_findBestMove 24 = .ok (.getfield 31, 3) := by decide +kernel
theorem dX3_findBestMove_27 : decode cX3_findBestMove 27 = .ok (.aload_n 0, 1) := by decide +kernel
theorem dX3_findBestMove_28 : decode cX3_findBestMove 28 = .ok (.getfield 25, 3) := by decide +kernel
theorem dX3_findBestMove_31 : decode cX3_findBestMove 31 = .ok (.invokevirtual 137, 3) := by decide +kernel
theorem dX3_findBestMove_34 : decode cX3_findBestMove 34 = .ok (.aload_n 0, 1) := by decide +kernel
theorem dX3_findBestMove_35 : decode cX3_findBestMove 35 = .ok (.getfield 25, 3) := by decide +kernel
theorem dX3_findBestMove_38 : decode cX3_findBestMove 38 = .ok (.invokevirtual 215, 3) := by decide +kernel
theorem dX3_findBestMove_41 : decode cX3_findBestMove 41 = .ok (.invokevirtual 218, 3) := by decide +kernel
theorem dX3_findBestMove_44 : decode cX3_findBestMove 44 = .ok (.iconst 0, 1) := by decide +kernel
theorem dX3_findBestMove_45 : decode cX3_findBestMove 45 = .ok (.istore_n 2, 1) := by decide +kernel
theorem dX3_findBestMove_46 : decode cX3_findBestMove 46 = .ok (.iload_n 2, 1) := by decide +kernel
theorem dX3_findBestMove_47 : decode cX3_findBestMove 47 = .ok (.aload_n 0, 1) := by decide +kernel
theorem dX3_findBestMove_48 : decode cX3_findBestMove 48 = .ok (.getfield 21, 3) := by decide +kernel
theorem dX3_findBestMove_51 : decode cX3_findBestMove 51 = .ok (.getfield 206, 3) := by decide +kernel
theorem dX3_findBestMove_54 : decode cX3_findBestMove 54 = .ok (.if_icmp .ge 123, 3) := by decide +kernel
theorem dX3_findBestMove_57 : decode cX3_findBestMove 57 = .ok (.iconst 0, 1) := by decide +kernel
theorem dX3_findBestMove_58 : decode cX3_findBestMove 58 = .ok (.istore_n 3, 1) := by decide +kernel
theorem dX3_findBestMove_59 : decode cX3_findBestMove 59 = .ok (.iload_n 3, 1) := by decide +kernel
theorem dX3_findBestMove_60 : decode cX3_findBestMove 60 = .ok (.aload_n 0, 1) := by decide +kernel
theorem dX3_findBestMove_61 : decode cX3_findBestMove 61 = .ok (.getfield 21, 3) := by decide +kernel
theorem dX3_findBestMove_64 : decode cX3_findBestMove 64 = .ok (.getfield 203, 3) := by decide +kernel
theorem dX3_findBestMove_67 : decode cX3_findBestMove 67 = .ok (.if_icmp .ge 104, 3) := by decide +kernel
theorem dX3_findBestMove_70 : decode cX3_findBestMove 70 = .ok (.aload_n 0, 1) := by decide +kernel
theorem dX3_findBestMove_71 : decode cX3_findBestMove 71 = .ok (.getfield 21, 3) := by decide +kernel
theorem dX3_findBestMove_74 : decode cX3_findBestMove 74 = .ok (.iload_n 2, 1) := by decide +kernel
theorem dX3_findBestMove_75 : decode cX3_findBestMove 75 = .ok (.iload_n 3, 1) := by decide +kernel
theorem dX3_findBestMove_76 : decode cX3_findBestMove 76 = .ok (.invokevirtual 71, 3) := by decide +kernel
theorem dX3_findBestMove_79 : decode cX3_findBestMove 79 = .ok (.istore 4, 2) := by decide +kernel
theorem dX3_findBestMove_81 : decode cX3_findBestMove 81 = .ok (.iconst 0, 1) := by decide +kernel
theorem dX3_findBestMove_82 : decode cX3_findBestMove 82 = .ok (.istore 5, 2) := by decide +kernel
theorem dX3_findBestMove_84 : decode cX3_findBestMove 84 = .ok (.iload 5, 2) := by decide +kernel
theorem dX3_findBestMove_86 : decode cX3_findBestMove 86 = .ok (.aload_n 0, 1) := by decide +kernel
theorem dX3_findBestMove_87 : decode cX3_findBestMove 87 = .ok (.getfield 21, 3) := by decide +kernel
theorem dX3_findBestMove_90 : decode cX3_findBestMove 90 = .ok (.getfield 75, 3) := by decide +kernel
theorem dX3_findBestMove_93 : decode cX3_findBestMove 93 = .ok (.iload 4, 2) := by decide +kernel
theorem dX3_findBestMove_95 : decode cX3_findBestMove 95 = .ok (.iaload, 1) := by decide +kernel
theorem dX3_findBestMove_96 : decode cX3_findBestMove 96 = .ok (.if_icmp .gt 69, 3) := by decide +kernel
theorem dX3_findBestMove_99 : decode cX3_findBestMove 99 = .ok (.aload_n 0, 1) := by decide +kernel
theorem dX3_findBestMove_100 : decode cX3_findBestMove 100 = .ok (.getfield 25, 3) := by decide +kernel
theorem dX3_findBestMove_103 : decode cX3_findBestMove 103 = .ok (.aload_n 0, 1) := by decide +kernel
theorem dX3_findBestMove_104 : decode cX3_findBestMove 104 = .ok (.getfield 21, 3) := by decide +kernel
theorem dX3_findBestMove_107 : decode cX3_findBestMove 107 = .ok (.invokevirtual 179, 3) := by decide +kernel
theorem dX3_findBestMove_110 : decode cX3_findBestMove 110 = .ok (.aload_n 0, 1) := by decide +kernel
theorem dX3_findBestMove_111 : decode cX3_findBestMove 111 = .ok (.getfield 25, 3) := by decide +kernel
theorem dX3_findBestMove_114 : decode cX3_findBestMove 114 = .ok (.getfield 82, 3) := by decide +kernel
theorem dX3_findBestMove_117 : decode cX3_findBestMove 117 = .ok (.iload 4, 2) := by decide +kernel
theorem dX3_findBestMove_119 : decode cX3_findBestMove 119 = .ok (.iload 5, 2) := by decide +kernel
theorem dX3_findBestMove_121 : decode cX3_findBestMove 121 = .ok (.iastore, 1) := by decide +kernel
theorem dX3_findBestMove_122 : decode cX3_findBestMove 122 = .ok (.aload_n 0, 1) := by decide +kernel
theorem dX3_findBestMove_123 : decode cX3_findBestMove 123 = .ok (.getfield 25, 3) := by decide +kernel
theorem dX3_findBestMove_126 : decode cX3_findBestMove 126 = .ok (.iload_n 1, 1) := by decide +kernel
theorem dX3_findBestMove_127 : decode cX3_findBestMove 127 = .ok (.aload_n 0, 1) := by decide +kernel
theorem dX3_findBestMove_128 : decode cX3_findBestMove 128 = .ok (.getfield 10, 3) := by decide +kernel
theorem dX3_findBestMove_131 : decode cX3_findBestMove 131 = .ok (.invokevirtual 156, 3) := by decide +kernel
theorem dX3_findBestMove_134 : decode cX3_findBestMove 134 = .ok (.aload_n 0, 1) := by decide +kernel
theorem dX3_findBestMove_135 : decode cX3_findBestMove 135 = .ok (.getfield 31, 3) := by decide +kernel
theorem dX3_findBestMove_138 : decode cX3_findBestMove 138 = .ok (.iload_n 2, 1) := by decide +kernel
theorem dX3_findBestMove_139 : decode cX3_findBestMove 139 = .ok (.iload_n 3, 1) := by decide +kernel
theorem dX3_findBestMove_140 : decode cX3_findBestMove 140 = .ok (.iload 5, 2) := by decide +kernel
theorem dX3_findBestMove_142 : decode cX3_findBestMove 142 = .ok (.aload_n 0, 1) := by decide +kernel
theorem dX3_findBestMove_143 : decode cX3_findBestMove 143 = .ok (.getfield 25, 3) := by decide +kernel
theorem dX3_findBestMove_146 : decode cX3_findBestMove 146 = .ok (.invokevirtual 137, 3) := by decide +kernel
theorem dX3_findBestMove_149 : decode cX3_findBestMove 149 = .ok (.aload_n 0, 1) := by decide +kernel
theorem dX3_findBestMove_150 : decode cX3_findBestMove 150 = .ok (.getfield 25, 3) := by decide +kernel
theorem dX3_findBestMove_153 : decode cX3_findBestMove 153 = .ok (.invokevirtual 215, 3) := by decide +kernel
theorem dX3_findBestMove_156 : decode cX3_findBestMove 156 = .ok (.invokevirtual 221, 3) := by decide +kernel
theorem dX3_findBestMove_159 : decode cX3_findBestMove 159 = .ok (.iinc 5 10, 3) := by decide +kernel
theorem dX3_findBestMove_162 : decode cX3_findBestMove 162 = .ok (.goto (-78), 3) := by decide +kernel
theorem dX3_findBestMove_165 : decode cX3_findBestMove 165 = .ok (.iinc 3 1, 3) := by decide +kernel
theorem dX3_findBestMove_168 : decode cX3_findBestMove 168 = .ok (.goto (-109), 3) := by decide +kernel
theorem dX3_findBestMove_171 : decode cX3_findBestMove 171 = .ok (.iinc 2 1, 3) := by decide +kernel
theorem dX3_findBestMove_174 : decode cX3_findBestMove 174 = .ok (.goto (-128), 3) := by decide +kernel
theorem dX3_findBestMove_177 : decode cX3_findBestMove 177 = .ok (.return_, 1) := by decide +kernel
