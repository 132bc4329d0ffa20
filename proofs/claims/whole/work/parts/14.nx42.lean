theorem dX4_flow_73 : decode cX4_flow 73 = .ok (.iload 4, 2) := by decide +kernel
theorem dX4_flow_75 : decode cX4_flow 75 = .ok (.invokevirtual 83, 3) := by decide +kernel
theorem dX4_flow_78 : decode cX4_flow 78 = .ok (.iconst 0, 1) := by decide +kernel
theorem dX4_flow_79 : decode cX4_flow 79 = .ok (.aload_n 0, 1) := by decide +kernel
theorem dX4_flow_80 : decode cX4_flow 80 = .ok (.getfield 16, 3) := by decide +kernel
theorem dX4_flow_83 : decode cX4_flow 83 = .ok (.iload_n 3, 1) := by decide +kernel
theorem dX4_flow_84 : decode cX4_flow 84 = .ok (.iconst 0, 1) := by decide +kernel
theorem dX4_flow_85 : decode cX4_flow 85 = .ok (.iadd, 1) := by decide +kernel
theorem dX4_flow_86 : decode cX4_flow 86 = .ok (.iaload, 1) := by decide +kernel
theorem dX4_flow_87 : decode cX4_flow 87 = .ok (.aload_n 0, 1) := by decide +kernel
theorem dX4_flow_88 : decode cX4_flow 88 = .ok (.getfield 16, 3) := by decide +kernel
theorem dX4_flow_91 : decode cX4_flow 91 = .ok (.iload_n 3, 1) := by decide +kernel
theorem dX4_flow_92 : decode cX4_flow 92 = .ok (.iconst 1, 1) := by decide +kernel
theorem dX4_flow_93 : decode cX4_flow 93 = .ok (.iadd, 1) := by decide +kernel
theorem dX4_flow_94 : decode cX4_flow 94 = .ok (.iaload, 1) := by decide +kernel
theorem dX4_flow_95 : decode cX4_flow 95 = .ok (.isub, 1) := by decide +kernel
theorem dX4_flow_96 : decode cX4_flow 96 = .ok (.invokestatic 80, 3) := by decide +kernel
theorem dX4_flow_99 : decode cX4_flow 99 = .ok (.istore 5, 2) := by decide +kernel
theorem dX4_flow_101 : decode cX4_flow 101 = .ok (.aload_n 0, 1) := by decide +kernel
theorem dX4_flow_102 : decode cX4_flow 102 = .ok (.getfield 16, 3) := by decide +kernel
theorem dX4_flow_105 : decode cX4_flow 105 = .ok (.iload_n 3, 1) := by decide +kernel
theorem dX4_flow_106 : decode cX4_flow 106 = .ok (.iconst 0, 1) := by decide +kernel
theorem dX4_flow_107 : decode cX4_flow 107 = .ok (.iadd, 1) := by decide +kernel
theorem dX4_flow_108 : decode cX4_flow 108 = .ok (.dup2, 1) := by decide +kernel
theorem dX4_flow_109 : decode cX4_flow 109 = .ok (.iaload, 1) := by decide +kernel
theorem dX4_flow_110 : decode cX4_flow 110 = .ok (.iload 5, 2) := by decide +kernel
theorem dX4_flow_112 : decode cX4_flow 112 = .ok (.isub, 1) := by decide +kernel
theorem dX4_flow_113 : decode cX4_flow 113 = .ok (.iastore, 1) := by decide +kernel
theorem dX4_flow_114 : decode cX4_flow 114 = .ok (.aload_n 0, 1) := by decide +kernel
theorem dX4_flow_115 : decode cX4_flow 115 = .ok (.getfield 16, 3) := by decide +kernel
theorem dX4_flow_118 : decode cX4_flow 118 = .ok (.iload_n 3, 1) := by decide +kernel
theorem dX4_flow_119 : decode cX4_flow 119 = .ok (.bipush 11, 2) := by decide +kernel
theorem dX4_flow_121 : decode cX4_flow 121 = .ok (.iadd, 1) := by decide +kernel
theorem dX4_flow_122 : decode cX4_flow 122 = .ok (.iload 5, 2) := by decide +kernel
theorem dX4_flow_124 : decode cX4_flow 124 = .ok (.iastore, 1) := by decide +kernel
theorem dX4_flow_125 : decode cX4_flow 125 = .ok (.aload_n 0, 1) := by decide +kernel
theorem dX4_flow_126 : decode cX4_flow 126 = .ok (.iload_n 1, 1) := by decide +kernel
theorem dX4_flow_127 : decode cX4_flow 127 = .ok (.iload_n 2, 1) := by decide +kernel
theorem dX4_flow_128 : decode cX4_flow 128 = .ok (.iconst 1, 1) := by decide +kernel
theorem dX4_flow_129 : decode cX4_flow 129 = .ok (.isub, 1) := by decide +kernel
theorem dX4_flow_130 : decode cX4_flow 130 = .ok (.iload 5, 2) := by decide +kernel
theorem dX4_flow_132 : decode cX4_flow 132 = .ok (.iconst 2, 1) := by decide +kernel
theorem dX4_flow_133 : decode cX4_flow 133 = .ok (.idiv, 1) := by decide +kernel
theorem dX4_flow_134 : decode cX4_flow 134 = .ok (.invokevirtual 83, 3) := by decide +kernel
theorem dX4_flow_137 : decode cX4_flow 137 = .ok (.aload_n 0, 1) := by decide +kernel
theorem dX4_flow_138 : decode cX4_flow 138 = .ok (.iload_n 1, 1) := by decide +kernel
theorem dX4_flow_139 : decode cX4_flow 139 = .ok (.iload_n 2, 1) := by decide +kernel
theorem dX4_flow_140 : decode cX4_flow 140 = .ok (.iconst 1, 1) := by decide +kernel
theorem dX4_flow_141 : decode cX4_flow 141 = .ok (.iadd, 1) := by decide +kernel
theorem dX4_flow_142 : decode cX4_flow 142 = .ok (.iload 5, 2) := by decide +kernel
theorem dX4_flow_144 : decode cX4_flow 144 = .ok (.iload 5, 2) := by decide +kernel
theorem dX4_flow_146 : decode cX4_flow 146 = .ok (.iconst 2, 1) := by decide +kernel
theorem dX4_flow_147 : decode cX4_flow 147 = .ok (.idiv, 1) := by decide +kernel
theorem dX4_flow_148 : decode cX4_flow 148 = .ok (.isub, 1) := by decide +kernel
theorem dX4_flow_149 : decode cX4_flow 149 = .ok (.invokevirtual 83, 3) := by decide +kernel
theorem dX4_flow_152 : decode cX4_flow 152 = .ok (.return_, 1) := by decide +kernel
set_option maxRecDepth 20000 in
theorem ggX4_growRice_X4_isIn : GoodIn wsX4_growRice wsX4_isIn := goodIn_r _ [13] (by decide +kernel) (by decide +kernel)
set_option maxRecDepth 20000 in
theorem gX4_growRice_X4_isIn : GoodIn wsX4_growRice (va_wsS RX4 42 yX4_isIn wsX4_isIn) := goodIn_app (goodIn_of _ (by decide +kernel)) ggX4_growRice_X4_isIn
set_option maxRecDepth 20000 in
theorem ggX4_growRice_X4_fallow : GoodIn wsX4_growRice wsX4_fallow := goodIn_r _ [17, 1, 18, 19, 20, 21, 22, 23, 24] (by decide +kernel) (by decide +kernel)
set_option maxRecDepth 20000 in
theorem gX4_growRice_X4_fallow : GoodIn wsX4_growRice (wsV RX4 76 RX4 yX4_fallow wsX4_fallow) := goodIn_app (goodIn_of _ (by decide +kernel)) ggX4_growRice_X4_fallow
theorem dX4_growRice_0 : decode cX4_growRice 0 = .ok (.aload_n 0, 1) := by decide +kernel
theorem dX4_growRice_1 : decode cX4_growRice 1 = .ok (.getfield 16, 3) := by decide +kernel
theorem dX4_growRice_4 : decode cX4_growRice 4 = .ok (.iload_n 1, 1) := by decide +kernel
theorem dX4_growRice_5 : decode cX4_growRice 5 = .ok (.bipush 6, 2) := by decide +kernel
theorem dX4_growRice_7 : decode cX4_growRice 7 = .ok (.iadd, 1) := by decide +kernel
theorem dX4_growRice_8 : decode cX4_growRice 8 = .ok (.dup2, 1) := by decide +kernel
theorem dX4_growRice_9 : decode cX4_growRice 9 = .ok (.iaload, 1) := by decide +kernel
theorem dX4_growRice_10 : decode cX4_growRice 10 = .ok (.iconst 1, 1) := by decide +kernel
theorem dX4_growRice_11 : decode cX4_growRice 11 = .ok (.iadd, 1) := by decide +kernel
theorem dX4_growRice_12 : decode cX4_growRice 12 = .ok (.iastore, 1) := by decide +kernel
theorem dX4_growRice_13 : decode cX4_growRice 13 = .ok (.aload_n 0, 1) := by decide +kernel
theorem dX4_growRice_14 : decode cX4_growRice 14 = .ok (.getfield 16, 3) := by decide +kernel
theorem dX4_growRice_17 : decode cX4_growRice 17 = .ok (.iload_n 1, 1) := by decide +kernel
theorem dX4_growRice_18 : decode cX4_growRice 18 = .ok (.iconst 0, 1) := by decide +kernel
theorem dX4_growRice_19 : decode cX4_growRice 19 = .ok (.iadd, 1) := by decide +kernel
theorem dX4_growRice_20 : decode cX4_growRice 20 = .ok (.iaload, 1) := by decide +kernel
theorem dX4_growRice_21 : decode cX4_growRice 21 = .ok (.istore_n 2, 1) := by decide +kernel
theorem dX4_growRice_22 : decode cX4_growRice 22 = .ok (.iload_n 2, 1) := by decide +kernel
theorem dX4_growRice_23 : decode cX4_growRice 23 = .ok (.bipush 45, 2) := by decide +kernel
theorem dX4_growRice_25 : decode cX4_growRice 25 = .ok (.iconst 5, 1) := by decide +kernel
theorem dX4_growRice_26 : decode cX4_growRice 26 = .ok (.aload_n 0, 1) := by decide +kernel
theorem dX4_growRice_27 : decode cX4_growRice 27 = .ok (.getfield 16, 3) := by decide +kernel
theorem dX4_growRice_30 : decode cX4_growRice 30 = .ok (.iload_n 1, 1) := by decide +kernel
theorem dX4_growRice_31 : decode cX4_growRice 31 = .ok (.bipush 6, 2) := by decide +kernel
theorem dX4_growRice_33 : decode cX4_growRice 33 = .ok (.iadd, 1) := by decide +kernel
theorem dX4_growRice_34 : decode cX4_growRice 34 = .ok (.iaload, 1) := by decide +kernel
theorem dX4_growRice_35 : decode cX4_growRice 35 = .ok (.iconst 2, 1) := by decide +kernel
theorem dX4_growRice_36 : decode cX4_growRice 36 = .ok (.imul, 1) := by decide +kernel
theorem dX4_growRice_37 : decode cX4_growRice 37 = .ok (.iconst 3, 1) := by decide +kernel
theorem dX4_growRice_38 : decode cX4_growRice 38 = .ok (.idiv, 1) := by decide +kernel
theorem dX4_growRice_39 : decode cX4_growRice 39 = .ok (.iadd, 1) := by decide +kernel
theorem dX4_growRice_40 : decode cX4_growRice 40 = .ok (.invokestatic 58, 3) := by decide +kernel
theorem dX4_growRice_43 : decode cX4_growRice 43 = .ok (.if_icmp .le 7, 3) := by decide +kernel
theorem dX4_growRice_46 : decode cX4_growRice 46 = .ok (.iconst 1, 1) := by decide +kernel
theorem dX4_growRice_47 : decode cX4_growRice 47 = .ok (.goto 4, 3) := by decide +kernel
theorem dX4_growRice_50 : decode cX4_growRice 50 = .ok (.iconst 0, 1) := by decide +kernel
theorem dX4_growRice_51 : decode cX4_growRice 51 = .ok (.istore_n 3, 1) := by decide +kernel
theorem dX4_growRice_52 : decode cX4_growRice 52 = .ok (.iload_n 2, 1) := by decide +kernel
theorem dX4_growRice_53 : decode cX4_growRice 53 = .ok (.ifCond .ne 7, 3) := by decide +kernel
theorem dX4_growRice_56 : decode cX4_growRice 56 = .ok (.iconst 1, 1) := by decide +kernel
theorem dX4_growRice_57 : decode cX4_growRice 57 = .ok (.goto 4, 3) := by decide +kernel
theorem dX4_growRice_60 : decode cX4_growRice 60 = .ok (.iconst 0, 1) := by decide +kernel
theorem dX4_growRice_61 : decode cX4_growRice 61 = .ok (.istore 4, 2) := by decide +kernel
theorem dX4_growRice_63 : decode cX4_growRice 63 = .ok (.aload_n 0, 1) := by decide +kernel
theorem dX4_growRice_64 : decode cX4_growRice 64 = .ok (.getfield 16, 3) := by decide +kernel
theorem dX4_growRice_67 : decode cX4_growRice 67 = .ok (.iload_n 1, 1) := by decide +kernel
theorem dX4_growRice_68 : decode cX4_growRice 68 = .ok (.bipush 8, 2) := by decide +kernel
theorem dX4_growRice_70 : decode cX4_growRice 70 = .ok (.iadd, 1) := by decide +kernel
theorem dX4_growRice_71 : decode cX4_growRice 71 = .ok (.iload_n 3, 1) := by decide +kernel
theorem dX4_growRice_72 : decode cX4_growRice 72 = .ok (.ifCond .eq 17, 3) := by decide +kernel
theorem dX4_growRice_75 : decode cX4_growRice 75 = .ok (.aload_n 0, 1) := by decide +kernel
theorem dX4_growRice_76 : decode cX4_growRice 76 = .ok (.getfield 16, 3) := by decide +kernel
theorem dX4_growRice_79 : decode cX4_growRice 79 = .ok (.iload_n 1, 1) := by decide +kernel
theorem dX4_growRice_80 : decode cX4_growRice 80 = .ok (.bipush 8, 2) := by decide +kernel
theorem dX4_growRice_82 : decode cX4_growRice 82 = .ok (.iadd, 1) := by decide +kernel
theorem dX4_growRice_83 : decode cX4_growRice 83 = .ok (.iaload, 1) := by decide +kernel
theorem dX4_growRice_84 : decode cX4_growRice 84 = .ok (.iconst 1, 1) := by decide +kernel
theorem dX4_growRice_85 : decode cX4_growRice 85 = .ok (.iadd, 1) := by decide +kernel
theorem dX4_growRice_86 : decode cX4_growRice 86 = .ok (.goto 4, 3) := by decide +kernel
theorem dX4_growRice_89 : decode cX4_growRice 89 = .ok (.iconst 0, 1) := by decide +kernel
theorem dX4_growRice_90 : decode cX4_growRice 90 = .ok (.iastore, 1) := by decide +kernel
theorem dX4_growRice_91 : decode cX4_growRice 91 = .ok (.aload_n 0, 1) := by decide +kernel
theorem dX4_growRice_92 : decode cX4_growRice 92 = .ok (.getfield 16, 3) := by decide +kernel
theorem dX4_growRice_95 : decode cX4_growRice 95 = .ok (.iload_n 1, 1) := by decide +kernel
theorem dX4_growRice_96 : decode cX4_growRice 96 = .ok (.bipush 9, 2) := by decide +kernel
theorem dX4_growRice_98 : decode cX4_growRice 98 = .ok (.iadd, 1) := by decide +kernel
theorem dX4_growRice_99 : decode cX4_growRice 99 = .ok (.iload 4, 2) := by decide +kernel
theorem dX4_growRice_101 : decode cX4_growRice 101 = .ok (.ifCond .eq 17, 3) := by decide +kernel
theorem dX4_growRice_104 : decode cX4_growRice 104 = .ok (.aload_n 0, 1) := by decide +kernel
theorem dX4_growRice_105 : decode cX4_growRice 105 = .ok (.getfield 16, 3) := by decide +kernel
theorem dX4_growRice_108 : decode cX4_growRice 108 = .ok (.iload_n 1, 1) := by decide +kernel
theorem dX4_growRice_109 : decode cX4_growRice 109 = .ok (.bipush 9, 2) := by decide +kernel
theorem dX4_growRice_111 : decode cX4_growRice 111 = .ok (.iadd, 1) := by decide +kernel
theorem dX4_growRice_112 : decode cX4_growRice 112 = .ok (.iaload, 1) := by decide +kernel
theorem dX4_growRice_113 : decode cX4_growRice 113 = .ok (.iconst 1, 1) := by decide +kernel
theorem dX4_growRice_114 : decode cX4_growRice 114 = .ok (.iadd, 1) := by decide +kernel
theorem dX4_growRice_115 : decode cX4_growRice 115 = .ok (.goto 4, 3) := by decide +kernel
theorem dX4_growRice_118 : decode cX4_growRice 118 = .ok (.iconst 0, 1) := by decide +kernel
theorem dX4_growRice_119 : decode cX4_growRice 119 = .ok (.iastore, 1) := by decide +kernel
theorem dX4_growRice_120 : decode cX4_growRice 120 = .ok (.iload_n 3, 1) := by decide +kernel
theorem dX4_growRice_121 : decode cX4_growRice 121 = .ok (.ifCond .ne 8, 3) := by decide +kernel
theorem dX4_growRice_124 : decode cX4_growRice 124 = .ok (.iload 4, 2) := by decide +kernel
theorem dX4_growRice_126 : decode cX4_growRice 126 = .ok (.ifCond .eq 8, 3) := by decide +kernel
theorem dX4_growRice_129 : decode cX4_growRice 129 = .ok (.bipush (-3), 2) := by decide +kernel
theorem dX4_growRice_131 : decode cX4_growRice 131 = .ok (.goto 18, 3) := by decide +kernel
theorem dX4_growRice_134 : decode cX4_growRice 134 = .ok (.iload_n 2, 1) := by decide +kernel
theorem dX4_growRice_135 : decode cX4_growRice 135 = .ok (.iconst 5, 1) := by decide +kernel
theorem dX4_growRice_136 : decode cX4_growRice 136 = .ok (.bipush 25, 2) := by decide +kernel
theorem dX4_growRice_138 : decode cX4_growRice 138 = .ok (.invokestatic 42, 3) := by decide +kernel
theorem dX4_growRice_141 : decode cX4_growRice 141 = .ok (.ifCond .eq 7, 3) := by decide +kernel
theorem dX4_growRice_144 : decode cX4_growRice 144 = .ok (.iconst 2, 1) := by decide +kernel
theorem dX4_growRice_145 : decode cX4_growRice 145 = .ok (.goto 4, 3) := by decide +kernel
theorem dX4_growRice_148 : decode cX4_growRice 148 = .ok (.iconst 1, 1) := by decide +kernel
theorem dX4_growRice_149 : decode cX4_growRice 149 = .ok (.istore 5, 2) := by decide +kernel
theorem dX4_growRice_151 : decode cX4_growRice 151 = .ok (.aload_n 0, 1) := by decide +kernel
theorem dX4_growRice_152 : decode cX4_growRice 152 = .ok (.getfield 16, 3) := by decide +kernel
theorem dX4_growRice_155 : decode cX4_growRice 155 = .ok (.iload_n 1, 1) := by decide +kernel
theorem dX4_growRice_156 : decode cX4_growRice 156 = .ok (.bipush 7, 2) := by decide +kernel
theorem dX4_growRice_158 : decode cX4_growRice 158 = .ok (.iadd, 1) := by decide +kernel
theorem dX4_growRice_159 : decode cX4_growRice 159 = .ok (.iconst 0, 1) := by decide +kernel
theorem dX4_growRice_160 : decode cX4_growRice 160 = .ok (.bipush 100, 2) := by decide +kernel
theorem dX4_growRice_162 : decode cX4_growRice 162 = .ok (.aload_n 0, 1) := by decide +kernel
theorem dX4_growRice_163 : decode cX4_growRice 163 = .ok (.getfield 16, 3) := by decide +kernel
theorem dX4_growRice_166 : decode cX4_growRice 166 = .ok (.iload_n 1, 1) := by decide +kernel
theorem dX4_growRice_167 : decode cX4_growRice 167 = .ok (.bipush 7, 2) := by decide +kernel
theorem dX4_growRice_169 : decode cX4_growRice 169 = .ok (.iadd, 1) := by decide +kernel
theorem dX4_growRice_170 : decode cX4_growRice 170 = .ok (.iaload, 1) := by decide +kernel
theorem dX4_growRice_171 : decode cX4_growRice 171 = .ok (.iload 5, 2) := by decide +kernel
theorem dX4_growRice_173 : decode cX4_growRice 173 = .ok (.iadd, 1) := by decide +kernel
theorem dX4_growRice_174 : decode cX4_growRice 174 = .ok (.invokestatic 58, 3) := by decide +kernel
theorem dX4_growRice_177 : decode cX4_growRice 177 = .ok (.invokestatic 80, 3) := by decide +kernel
theorem dX4_growRice_180 : decode cX4_growRice 180 = .ok (.iastore, 1) := by decide +kernel
theorem dX4_growRice_181 : decode cX4_growRice 181 = .ok (.aload_n 0, 1) := by decide +kernel
theorem dX4_growRice_182 : decode cX4_growRice 182 = .ok (.getfield 16, 3) := by decide +kernel
theorem dX4_growRice_185 : decode cX4_growRice 185 = .ok (.iload_n 1, 1) := by decide +kernel
theorem dX4_growRice_186 : decode cX4_growRice 186 = .ok (.bipush 8, 2) := by decide +kernel
theorem dX4_growRice_188 : decode cX4_growRice 188 = .ok (.iadd, 1) := by decide +kernel
theorem dX4_growRice_189 : decode cX4_growRice 189 = .ok (.iaload, 1) := by decide +kernel
theorem dX4_growRice_190 : decode cX4_growRice 190 = .ok (.iconst 4, 1) := by decide +kernel
theorem dX4_growRice_191 : decode cX4_growRice 191 = .ok (.if_icmp .ge 17, 3) := by decide +kernel
theorem dX4_growRice_194 : decode cX4_growRice 194 = .ok (.aload_n 0, 1) := by decide +kernel
theorem dX4_growRice_195 : decode cX4_growRice 195 = .ok (.getfield 16, 3) := by decide +kernel
theorem dX4_growRice_198 : decode cX4_growRice 198 = .ok (.iload_n 1, 1) := by decide +kernel
theorem dX4_growRice_199 : decode cX4_growRice 199 = .ok (.bipush 9, 2) := by decide +kernel
theorem dX4_growRice_201 : decode cX4_growRice 201 = .ok (.iadd, 1) := by decide +kernel
theorem dX4_growRice_202 : decode cX4_growRice 202 = .ok (.iaload, 1) := by decide +kernel
theorem dX4_growRice_203 : decode cX4_growRice 203 = .ok (.iconst 5, 1) := by decide +kernel
theorem dX4_growRice_204 : decode cX4_growRice 204 = .ok (.if_icmp .ge 4, 3) := by decide +kernel
theorem dX4_growRice_207 : decode cX4_growRice 207 = .ok (.return_, 1) := by decide +kernel
theorem dX4_growRice_208 : decode cX4_growRice 208 = .ok (.aload_n 0, 1) := by decide +kernel
theorem dX4_growRice_209 : decode cX4_growRice 209 = .ok (.iload_n 1, 1) := by decide +kernel
theorem dX4_growRice_210 : decode cX4_growRice 210 = .ok (.invokevirtual 76, 3) := by decide +kernel
theorem dX4_growRice_213 : decode cX4_growRice 213 = .ok (.aload_n 0, 1) := by decide +kernel
theorem dX4_growRice_214 : decode cX4_growRice 214 = .ok (.getfield 9, 3) := by decide +kernel
theorem dX4_growRice_217 : decode cX4_growRice 217 = .ok (.iconst 5, 1) := by decide +kernel
theorem dX4_growRice_218 : decode cX4_growRice 218 = .ok (.dup2, 1) := by decide +kernel
theorem dX4_growRice_219 : decode cX4_growRice 219 = .ok (.iaload, 1) := by decide +kernel
theorem dX4_growRice_220 : decode cX4_growRice 220 = .ok (.iconst 1, 1) := by decide +kernel
theorem dX4_growRice_221 : decode cX4_growRice 221 = .ok (.iadd, 1) := by decide +kernel
theorem dX4_growRice_222 : decode cX4_growRice 222 = .ok (.iastore, 1) := by decide +kernel
theorem dX4_growRice_223 : decode cX4_growRice 223 = .ok (.return_, 1) := by decide +kernel
set_option maxRecDepth 20000 in
theorem ggX4_dayOn_X4_many : GoodIn wsX4_dayOn wsX4_many := goodIn_r _ [16, 1, 44, 45, 46, 47, 48, 49, 50] (by decide +kernel) (by decide +kernel)
set_option maxRecDepth 20000 in
theorem gX4_dayOn_X4_many : GoodIn wsX4_dayOn (wsV RX4 69 RX4 yX4_many wsX4_many) := goodIn_app (goodIn_of _ (by decide +kernel)) ggX4_dayOn_X4_many
set_option maxRecDepth 20000 in
theorem ggX4_dayOn_X4_flow : GoodIn wsX4_dayOn wsX4_flow := goodIn_r _ [20, 3, 9, 10, 7, 11, 5, 6, 8, 21, 22, 23, 15, 24, 1, 25, 26, 27, 28, 29, 30, 31, 32, 33, 34, 35, 44, 45, 46, 47, 48, 49, 50] (by decide +kernel) (by decide +kernel)
set_option maxRecDepth 20000 in
theorem gX4_dayOn_X4_flow : GoodIn wsX4_dayOn (wsV RX4 87 RX4 yX4_flow wsX4_flow) := goodIn_app (goodIn_of _ (by decide +kernel)) ggX4_dayOn_X4_flow
set_option maxRecDepth 20000 in
theorem ggX4_dayOn_X4_growRice : GoodIn wsX4_dayOn wsX4_growRice := goodIn_r _ [39, 3, 9, 10, 7, 11, 5, 6, 8, 1, 33, 34, 15, 35, 40, 41, 42, 43, 44, 45, 46, 47, 48, 49, 50] (by decide +kernel) (by decide +kernel)
set_option maxRecDepth 20000 in
theorem gX4_dayOn_X4_growRice : GoodIn wsX4_dayOn (wsV RX4 90 RX4 yX4_growRice wsX4_growRice) := goodIn_app (goodIn_of _ (by decide +kernel)) ggX4_dayOn_X4_growRice
theorem dX4_dayOn_0 : decode cX4_dayOn 0 = .ok (.iconst 3, 1) := by decide +kernel
theorem dX4_dayOn_1 : decode cX4_dayOn 1 = .ok (.aload_n 0, 1) := by decide +kernel
theorem dX4_dayOn_2 : decode cX4_dayOn 2 = .ok (.getfield 9, 3) := by decide +kernel
theorem dX4_dayOn_5 : decode cX4_dayOn 5 = .ok (.iconst 2, 1) := by decide +kernel
theorem dX4_dayOn_6 : decode cX4_dayOn 6 = .ok (.iaload, 1) := by decide +kernel
theorem dX4_dayOn_7 : decode cX4_dayOn 7 = .ok (.bipush 30, 2) := by decide +kernel
theorem dX4_dayOn_9 : decode cX4_dayOn 9 = .ok (.irem, 1) := by decide +kernel
theorem dX4_dayOn_10 : decode cX4_dayOn 10 = .ok (.imul, 1) := by decide +kernel
theorem dX4_dayOn_11 : decode cX4_dayOn 11 = .ok (.istore_n 1, 1) := by decide +kernel
theorem dX4_dayOn_12 : decode cX4_dayOn 12 = .ok (.aload_n 0, 1) := by decide +kernel
theorem dX4_dayOn_13 : decode cX4_dayOn 13 = .ok (.getfield 9, 3) := by decide +kernel
theorem dX4_dayOn_16 : decode cX4_dayOn 16 = .ok (.iconst 2, 1) := by decide +kernel
theorem dX4_dayOn_17 : decode cX4_dayOn 17 = .ok (.dup2, 1) := by decide +kernel
theorem dX4_dayOn_18 : decode cX4_dayOn 18 = .ok (.iaload, 1) := by decide +kernel
theorem dX4_dayOn_19 : decode cX4_dayOn 19 = .ok (.iconst 1, 1) := by decide +kernel
theorem dX4_dayOn_20 : decode cX4_dayOn 20 = .ok (.iadd, 1) := by decide +kernel
theorem dX4_dayOn_21 : decode cX4_dayOn 21 = .ok (.iastore, 1) := by decide +kernel
theorem dX4_dayOn_22 : decode cX4_dayOn 22 = .ok (.iconst 0, 1) := by decide +kernel
theorem dX4_dayOn_23 : decode cX4_dayOn 23 = .ok (.istore_n 2, 1) := by decide +kernel
theorem dX4_dayOn_24 : decode cX4_dayOn 24 = .ok (.iconst 0, 1) := by decide +kernel
theorem dX4_dayOn_25 : decode cX4_dayOn 25 = .ok (.istore_n 3, 1) := by decide +kernel
theorem dX4_dayOn_26 : decode cX4_dayOn 26 = .ok (.iload_n 3, 1) := by decide +kernel
theorem dX4_dayOn_27 : decode cX4_dayOn 27 = .ok (.aload_n 0, 1) := by decide +kernel
theorem dX4_dayOn_28 : decode cX4_dayOn 28 = .ok (.getfield 9, 3) := by decide +kernel
theorem dX4_dayOn_31 : decode cX4_dayOn 31 = .ok (.iconst 1, 1) := by decide +kernel
theorem dX4_dayOn_32 : decode cX4_dayOn 32 = .ok (.iaload, 1) := by decide +kernel
theorem dX4_dayOn_33 : decode cX4_dayOn 33 = .ok (.if_icmp .ge 18, 3) := by decide +kernel
theorem dX4_dayOn_36 : decode cX4_dayOn 36 = .ok (.iload_n 2, 1) := by decide +kernel
theorem dX4_dayOn_37 : decode cX4_dayOn 37 = .ok (.aload_n 0, 1) := by decide +kernel
theorem dX4_dayOn_38 : decode cX4_dayOn 38 = .ok (.getfield 13, 3) := by decide +kernel
theorem dX4_dayOn_41 : decode cX4_dayOn 41 = .ok (.iload_n 3, 1) := by decide +kernel
theorem dX4_dayOn_42 : decode cX4_dayOn 42 = .ok (.iaload, 1) := by decide +kernel
theorem dX4_dayOn_43 : decode cX4_dayOn 43 = .ok (.iadd, 1) := by decide +kernel
theorem dX4_dayOn_44 : decode cX4_dayOn 44 = .ok (.istore_n 2, 1) := by decide +kernel
theorem dX4_dayOn_45 : decode cX4_dayOn 45 = .ok (.iinc 3 1, 3) := by decide +kernel
theorem dX4_dayOn_48 : decode cX4_dayOn 48 = .ok (.goto (-22), 3) := by decide +kernel
theorem dX4_dayOn_51 : decode cX4_dayOn 51 = .ok (.iconst 0, 1) := by decide +kernel
theorem dX4_dayOn_52 : decode cX4_dayOn 52 = .ok (.istore_n 3, 1) := by decide +kernel
theorem dX4_dayOn_53 : decode cX4_dayOn 53 = .ok (.iload_n 3, 1) := by decide +kernel
theorem dX4_dayOn_54 : decode cX4_dayOn 54 = .ok (.aload_n 0, 1) := by decide +kernel
theorem dX4_dayOn_55 : decode cX4_dayOn 55 = .ok (.invokevirtual 69, 3) := by decide +kernel
theorem dX4_dayOn_58 : decode cX4_dayOn 58 = .ok (.if_icmp .ge 65, 3) := by decide +kernel
theorem dX4_dayOn_61 : decode cX4_dayOn 61 = .ok (.aload_n 0, 1) := by decide +kernel
theorem dX4_dayOn_62 : decode cX4_dayOn 62 = .ok (.getfield 16, 3) := by decide +kernel
theorem dX4_dayOn_65 : decode cX4_dayOn 65 = .ok (.bipush 12, 2) := by decide +kernel
theorem dX4_dayOn_67 : decode cX4_dayOn 67 = .ok (.iload_n 3, 1) := by decide +kernel
theorem dX4_dayOn_68 : decode cX4_dayOn 68 = .ok (.imul, 1) := by decide +kernel
theorem dX4_dayOn_69 : decode cX4_dayOn 69 = .ok (.iconst 0, 1) := by decide +kernel
theorem dX4_dayOn_70 : decode cX4_dayOn 70 = .ok (.iadd, 1) := by decide +kernel
theorem dX4_dayOn_71 : decode cX4_dayOn 71 = .ok (.dup2, 1) := by decide +kernel
theorem dX4_dayOn_72 : decode cX4_dayOn 72 = .ok (.iaload, 1) := by decide +kernel
theorem dX4_dayOn_73 : decode cX4_dayOn 73 = .ok (.aload_n 0, 1) := by decide +kernel
theorem dX4_dayOn_74 : decode cX4_dayOn 74 = .ok (.getfield 19, 3) := by decide +kernel
theorem dX4_dayOn_77 : decode cX4_dayOn 77 = .ok (.iload_n 1, 1) := by decide +kernel
theorem dX4_dayOn_78 : decode cX4_dayOn 78 = .ok (.iaload, 1) := by decide +kernel
theorem dX4_dayOn_79 : decode cX4_dayOn 79 = .ok (.iload_n 3, 1) := by decide +kernel
theorem dX4_dayOn_80 : decode cX4_dayOn 80 = .ok (.aload_n 0, 1) := by decide +kernel
theorem dX4_dayOn_81 : decode cX4_dayOn 81 = .ok (.getfield 9, 3) := by decide +kernel
theorem dX4_dayOn_84 : decode cX4_dayOn 84 = .ok (.iconst 1, 1) := by decide +kernel
theorem dX4_dayOn_85 : decode cX4_dayOn 85 = .ok (.iaload, 1) := by decide +kernel
theorem dX4_dayOn_86 : decode cX4_dayOn 86 = .ok (.if_icmp .ge 27, 3) := by decide +kernel
theorem dX4_dayOn_89 : decode cX4_dayOn 89 = .ok (.iload_n 2, 1) := by decide +kernel
theorem dX4_dayOn_90 : decode cX4_dayOn 90 = .ok (.ifCond .le 23, 3) := by decide +kernel
theorem dX4_dayOn_93 : decode cX4_dayOn 93 = .ok (.aload_n 0, 1) := by decide +kernel
theorem dX4_dayOn_94 : decode cX4_dayOn 94 = .ok (.getfield 19, 3) := by decide +kernel
theorem dX4_dayOn_97 : decode cX4_dayOn 97 = .ok (.iload_n 1, 1) := by decide +kernel
theorem dX4_dayOn_98 : decode cX4_dayOn 98 = .ok (.iconst 1, 1) := by decide +kernel
theorem dX4_dayOn_99 : decode cX4_dayOn 99 = .ok (.iadd, 1) := by decide +kernel
theorem dX4_dayOn_100 : decode cX4_dayOn 100 = .ok (.iaload, 1) := by decide +kernel
theorem dX4_dayOn_101 : decode cX4_dayOn 101 = .ok (.aload_n 0, 1) := by decide +kernel
theorem dX4_dayOn_102 : decode cX4_dayOn 102 = .ok (.getfield 13, 3) := by decide +kernel
theorem dX4_dayOn_105 : decode cX4_dayOn 105 = .ok (.iload_n 3, 1) := by decide +kernel
theorem dX4_dayOn_106 : decode cX4_dayOn 106 = .ok (.iaload, 1) := by decide +kernel
theorem dX4_dayOn_107 : decode cX4_dayOn 107 = .ok (.imul, 1) := by decide +kernel
theorem dX4_dayOn_108 : decode cX4_dayOn 108 = .ok (.iload_n 2, 1) := by decide +kernel
theorem dX4_dayOn_109 : decode cX4_dayOn 109 = .ok (.idiv, 1) := by decide +kernel
theorem dX4_dayOn_110 : decode cX4_dayOn 110 = .ok (.goto 4, 3) := by decide +kernel
theorem dX4_dayOn_113 : decode cX4_dayOn 113 = .ok (.iconst 0, 1) := by decide +kernel
theorem dX4_dayOn_114 : decode cX4_dayOn 114 = .ok (.iadd, 1) := by decide +kernel
theorem dX4_dayOn_115 : decode cX4_dayOn 115 = .ok (.iadd, 1) := by decide +kernel
theorem dX4_dayOn_116 : decode cX4_dayOn 116 = .ok (.iastore, 1) := by decide +kernel
theorem dX4_dayOn_117 : decode cX4_dayOn 117 = .ok (.iinc 3 1, 3) := by decide +kernel
theorem dX4_dayOn_120 : decode cX4_dayOn 120 = .ok (.goto (-67), 3) := by decide +kernel
theorem dX4_dayOn_123 : decode cX4_dayOn 123 = .ok (.iconst 0, 1) := by decide +kernel
theorem dX4_dayOn_124 : decode cX4_dayOn 124 = .ok (.istore_n 3, 1) := by decide +kernel
theorem dX4_dayOn_125 : decode cX4_dayOn 125 = .ok (.iload_n 3, 1) := by decide +kernel
theorem dX4_dayOn_126 : decode cX4_dayOn 126 = .ok (.aload_n 0, 1) := by decide +kernel
theorem dX4_dayOn_127 : decode cX4_dayOn 127 = .ok (.getfield 9, 3) := by decide +kernel
theorem dX4_dayOn_130 : decode cX4_dayOn 130 = .ok (.iconst 0, 1) := by decide +kernel
theorem dX4_dayOn_131 : decode cX4_dayOn 131 = .ok (.iaload, 1) := by decide +kernel
theorem dX4_dayOn_132 : decode cX4_dayOn 132 = .ok (.if_icmp .ge 36, 3) := by decide +kernel
theorem dX4_dayOn_135 : decode cX4_dayOn 135 = .ok (.iconst 0, 1) := by decide +kernel
theorem dX4_dayOn_136 : decode cX4_dayOn 136 = .ok (.istore 4, 2) := by decide +kernel
theorem dX4_dayOn_138 : decode cX4_dayOn 138 = .ok (.iload 4, 2) := by decide +kernel
theorem dX4_dayOn_140 : decode cX4_dayOn 140 = .ok (.aload_n 0, 1) := by decide +kernel
theorem dX4_dayOn_141 : decode cX4_dayOn 141 = .ok (.getfield 9, 3) := by decide +kernel
theorem dX4_dayOn_144 : decode cX4_dayOn 144 = .ok (.iconst 1, 1) := by decide +kernel
theorem dX4_dayOn_145 : decode cX4_dayOn 145 = .ok (.iaload, 1) := by decide +kernel
theorem dX4_dayOn_146 : decode cX4_dayOn 146 = .ok (.if_icmp .ge 16, 3) := by decide +kernel
theorem dX4_dayOn_149 : decode cX4_dayOn 149 = .ok (.aload_n 0, 1) := by decide +kernel
theorem dX4_dayOn_150 : decode cX4_dayOn 150 = .ok (.iload_n 3, 1) := by decide +kernel
theorem dX4_dayOn_151 : decode cX4_dayOn 151 = .ok (.iload 4, 2) := by decide +kernel
theorem dX4_dayOn_153 : decode cX4_dayOn 153 = .ok (.invokevirtual 87, 3) := by decide +kernel
theorem dX4_dayOn_156 : decode cX4_dayOn 156 = .ok (.iinc 4 1, 3) := by decide +kernel
theorem dX4_dayOn_159 : decode cX4_dayOn 159 = .ok (.goto (-21), 3) := by decide +kernel
theorem dX4_dayOn_162 : decode cX4_dayOn 162 = .ok (.iinc 3 1, 3) := by decide +kernel
theorem dX4_dayOn_165 : decode cX4_dayOn 165 = .ok (.goto (-40), 3) := by decide +kernel
theorem dX4_dayOn_168 : decode cX4_dayOn 168 = .ok (.iconst 0, 1) := by decide +kernel
theorem dX4_dayOn_169 : decode cX4_dayOn 169 = .ok (.istore_n 3, 1) := by decide +kernel
theorem dX4_dayOn_170 : decode cX4_dayOn 170 = .ok (.iload_n 3, 1) := by decide +kernel
theorem dX4_dayOn_171 : decode cX4_dayOn 171 = .ok (.aload_n 0, 1) := by decide +kernel
theorem dX4_dayOn_172 : decode cX4_dayOn 172 = .ok (.invokevirtual 69, 3) := by decide +kernel
theorem dX4_dayOn_175 : decode cX4_dayOn 175 = .ok (.if_icmp .ge 104, 3) := by decide +kernel
theorem dX4_dayOn_178 : decode cX4_dayOn 178 = .ok (.bipush 12, 2) := by decide +kernel
theorem dX4_dayOn_180 : decode cX4_dayOn 180 = .ok (.iload_n 3, 1) := by decide +kernel
theorem dX4_dayOn_181 : decode cX4_dayOn 181 = .ok (.imul, 1) := by decide +kernel
theorem dX4_dayOn_182 : decode cX4_dayOn 182 = .ok (.istore 4, 2) := by decide +kernel
theorem dX4_dayOn_184 : decode cX4_dayOn 184 = .ok (.iconst 0, 1) := by decide +kernel
theorem dX4_dayOn_185 : decode cX4_dayOn 185 = .ok (.aload_n 0, 1) := by decide +kernel
theorem dX4_dayOn_186 : decode cX4_dayOn 186 = .ok (.getfield 16, 3) := by decide +kernel
theorem dX4_dayOn_189 : decode cX4_dayOn 189 = .ok (.iload 4, 2) := by decide +kernel
theorem dX4_dayOn_191 : decode cX4_dayOn 191 = .ok (.iconst 0, 1) := by decide +kernel
theorem dX4_dayOn_192 : decode cX4_dayOn 192 = .ok (.iadd, 1) := by decide +kernel
theorem dX4_dayOn_193 : decode cX4_dayOn 193 = .ok (.iaload, 1) := by decide +kernel
theorem dX4_dayOn_194 : decode cX4_dayOn 194 = .ok (.aload_n 0, 1) := by decide +kernel
theorem dX4_dayOn_195 : decode cX4_dayOn 195 = .ok (.getfield 16, 3) := by decide +kernel
theorem dX4_dayOn_198 : decode cX4_dayOn 198 = .ok (.iload 4, 2) := by decide +kernel
theorem dX4_dayOn_200 : decode cX4_dayOn 200 = .ok (.iconst 2, 1) := by decide +kernel
theorem dX4_dayOn_201 : decode cX4_dayOn 201 = .ok (.iadd, 1) := by decide +kernel
theorem dX4_dayOn_202 : decode cX4_dayOn 202 = .ok (.iaload, 1) := by decide +kernel
theorem dX4_dayOn_203 : decode cX4_dayOn 203 = .ok (.isub, 1) := by decide +kernel
theorem dX4_dayOn_204 : decode cX4_dayOn 204 = .ok (.aload_n 0, 1) := by decide +kernel
theorem dX4_dayOn_205 : decode cX4_dayOn 205 = .ok (.getfield 19, 3) := by decide +kernel
theorem dX4_dayOn_208 : decode cX4_dayOn 208 = .ok (.iload_n 1, 1) := by decide +kernel
theorem dX4_dayOn_209 : decode cX4_dayOn 209 = .ok (.iconst 2, 1) := by decide +kernel
theorem dX4_dayOn_210 : decode cX4_dayOn 210 = .ok (.iadd, 1) := by decide +kernel
theorem dX4_dayOn_211 : decode cX4_dayOn 211 = .ok (.iaload, 1) := by decide +kernel
theorem dX4_dayOn_212 : decode cX4_dayOn 212 = .ok (.isub, 1) := by decide +kernel
theorem dX4_dayOn_213 : decode cX4_dayOn 213 = .ok (.invokestatic 80, 3) := by decide +kernel
theorem dX4_dayOn_216 : decode cX4_dayOn 216 = .ok (.istore 5, 2) := by decide +kernel
theorem dX4_dayOn_218 : decode cX4_dayOn 218 = .ok (.aload_n 0, 1) := by decide +kernel
theorem dX4_dayOn_219 : decode cX4_dayOn 219 = .ok (.getfield 9, 3) := by decide +kernel
theorem dX4_dayOn_222 : decode cX4_dayOn 222 = .ok (.iconst 3, 1) := by decide +kernel
theorem dX4_dayOn_223 : decode cX4_dayOn 223 = .ok (.dup2, 1) := by decide +kernel
theorem dX4_dayOn_224 : decode cX4_dayOn 224 = .ok (.iaload, 1) := by decide +kernel
theorem dX4_dayOn_225 : decode cX4_dayOn 225 = .ok (.iconst 0, 1) := by decide +kernel
theorem dX4_dayOn_226 : decode cX4_dayOn 226 = .ok (.iload 5, 2) := by decide +kernel
theorem dX4_dayOn_228 : decode cX4_dayOn 228 = .ok (.sipush 200, 3) := by decide +kernel
theorem dX4_dayOn_231 : decode cX4_dayOn 231 = .ok (.isub, 1) := by decide +kernel
theorem dX4_dayOn_232 : decode cX4_dayOn 232 = .ok (.invokestatic 80, 3) := by decide +kernel
theorem dX4_dayOn_235 : decode cX4_dayOn 235 = .ok (.iadd, 1) := by decide +kernel
theorem dX4_dayOn_236 : decode cX4_dayOn 236 = .ok (.iastore, 1) := by decide +kernel
theorem dX4_dayOn_237 : decode cX4_dayOn 237 = .ok (.aload_n 0, 1) := by decide +kernel
theorem dX4_dayOn_238 : decode cX4_dayOn 238 = .ok (.getfield 16, 3) := by decide +kernel
theorem dX4_dayOn_241 : decode cX4_dayOn 241 = .ok (.iload 4, 2) := by decide +kernel
theorem dX4_dayOn_243 : decode cX4_dayOn 243 = .ok (.iconst 0, 1) := by decide +kernel
theorem dX4_dayOn_244 : decode cX4_dayOn 244 = .ok (.iadd, 1) := by decide +kernel
theorem dX4_dayOn_245 : decode cX4_dayOn 245 = .ok (.sipush 200, 3) := by decide +kernel
theorem dX4_dayOn_248 : decode cX4_dayOn 248 = .ok (.iload 5, 2) := by decide +kernel
theorem dX4_dayOn_250 : decode cX4_dayOn 250 = .ok (.invokestatic 58, 3) := by decide +kernel
theorem dX4_dayOn_253 : decode cX4_dayOn 253 = .ok (.iastore, 1) := by decide +kernel
theorem dX4_dayOn_254 : decode cX4_dayOn 254 = .ok (.aload_n 0, 1) := by decide +kernel
theorem dX4_dayOn_255 : decode cX4_dayOn 255 = .ok (.getfield 16, 3) := by decide +kernel
theorem dX4_dayOn_258 : decode cX4_dayOn 258 = .ok (.iload 4, 2) := by decide +kernel
theorem dX4_dayOn_260 : decode cX4_dayOn 260 = .ok (.iconst 5, 1) := by decide +kernel
theorem dX4_dayOn_261 : decode cX4_dayOn 261 = .ok (.iadd, 1) := by decide +kernel
theorem dX4_dayOn_262 : decode cX4_dayOn 262 = .ok (.iaload, 1) := by decide +kernel
theorem dX4_dayOn_263 : decode cX4_dayOn 263 = .ok (.iconst 1, 1) := by decide +kernel
theorem dX4_dayOn_264 : decode cX4_dayOn 264 = .ok (.if_icmp .ne 9, 3) := by decide +kernel
theorem dX4_dayOn_267 : decode cX4_dayOn 267 = .ok (.aload_n 0, 1) := by decide +kernel
theorem dX4_dayOn_268 : decode cX4_dayOn 268 = .ok (.iload 4, 2) := by decide +kernel
theorem dX4_dayOn_270 : decode cX4_dayOn 270 = .ok (.invokevirtual 90, 3) := by decide +kernel
theorem dX4_dayOn_273 : decode cX4_dayOn 273 = .ok (.iinc 3 1, 3) := by decide +kernel
theorem dX4_dayOn_276 : decode cX4_dayOn 276 = .ok (.goto (-106), 3) := by decide +kernel
theorem dX4_dayOn_279 : decode cX4_dayOn 279 = .ok (.return_, 1) := by decide +kernel
set_option maxRecDepth 20000 in
theorem ggX4_pass_X4_isIn : GoodIn wsX4_pass wsX4_isIn := goodIn_r _ [6] (by decide +kernel) (by decide +kernel)
set_option maxRecDepth 20000 in
theorem gX4_pass_X4_isIn : GoodIn wsX4_pass (va_wsS RX4 42 yX4_isIn wsX4_isIn) := goodIn_app (goodIn_of _ (by decide +kernel)) ggX4_pass_X4_isIn
set_option maxRecDepth 20000 in
theorem ggX4_pass_X4_fail : GoodIn wsX4_pass wsX4_fail := goodIn_r _ [10, 1, 57, 58, 59, 60, 61, 62, 63] (by decide +kernel) (by decide +kernel)
set_option maxRecDepth 20000 in
theorem gX4_pass_X4_fail : GoodIn wsX4_pass (wsV RX4 46 RX4 yX4_fail wsX4_fail) := goodIn_app (goodIn_of _ (by decide +kernel)) ggX4_pass_X4_fail
set_option maxRecDepth 20000 in
theorem ggX4_pass_X4_dayOn : GoodIn wsX4_pass wsX4_dayOn := goodIn_r _ [14, 2, 15, 16, 17, 18, 19, 20, 21, 22, 23, 24, 25, 26, 27, 5, 28, 29, 30, 31, 32, 33, 34, 35, 36, 37, 38, 39, 40, 41, 42, 43, 44, 3, 4, 6, 45, 46, 47, 48, 49, 50, 51, 52, 57, 58, 59, 60, 61, 62, 63] (by decide +kernel) (by decide +kernel)
set_option maxRecDepth 20000 in
theorem gX4_pass_X4_dayOn : GoodIn wsX4_pass (wsV RX4 93 RX4 yX4_dayOn wsX4_dayOn) := goodIn_app (goodIn_of _ (by decide +kernel)) ggX4_pass_X4_dayOn
set_option maxRecDepth 20000 in
theorem ggX4_pass_X4_sum : GoodIn wsX4_pass wsX4_sum := goodIn_r _ [56, 16, 25, 26, 27, 5, 28, 2, 57, 58, 59, 60, 61, 62, 63] (by decide +kernel) (by decide +kernel)
set_option maxRecDepth 20000 in
theorem gX4_pass_X4_sum : GoodIn wsX4_pass (wsV RX4 73 RX4 yX4_sum wsX4_sum) := goodIn_app (goodIn_of _ (by decide +kernel)) ggX4_pass_X4_sum
theorem dX4_pass_0 : decode cX4_pass 0 = .ok (.aload_n 0, 1) := by decide +kernel
theorem dX4_pass_1 : decode cX4_pass 1 = .ok (.iconst 0, 1) := by decide +kernel
theorem dX4_pass_2 : decode cX4_pass 2 = .ok (.putfield 38, 3) := by decide +kernel
theorem dX4_pass_5 : decode cX4_pass 5 = .ok (.iload_n 1, 1) := by decide +kernel
theorem dX4_pass_6 : decode cX4_pass 6 = .ok (.iconst 1, 1) := by decide +kernel
theorem dX4_pass_7 : decode cX4_pass 7 = .ok (.bipush 60, 2) := by decide +kernel
theorem dX4_pass_9 : decode cX4_pass 9 = .ok (.invokestatic 42, 3) := by decide +kernel
theorem dX4_pass_12 : decode cX4_pass 12 = .ok (.ifCond .ne 9, 3) := by decide +kernel
theorem dX4_pass_15 : decode cX4_pass 15 = .ok (.aload_n 0, 1) := by decide +kernel
theorem dX4_pass_16 : decode cX4_pass 16 = .ok (.iconst 1, 1) := by decide +kernel
theorem dX4_pass_17 : decode cX4_pass 17 = .ok (.invokevirtual 46, 3) := by decide +kernel
theorem dX4_pass_20 : decode cX4_pass 20 = .ok (.ireturn, 1) := by decide +kernel
theorem dX4_pass_21 : decode cX4_pass 21 = .ok (.aload_n 0, 1) := by decide +kernel
theorem dX4_pass_22 : decode cX4_pass 22 = .ok (.getfield 9, 3) := by decide +kernel
theorem dX4_pass_25 : decode cX4_pass 25 = .ok (.iconst 2, 1) := by decide +kernel
theorem dX4_pass_26 : decode cX4_pass 26 = .ok (.iaload, 1) := by decide +kernel
theorem dX4_pass_27 : decode cX4_pass 27 = .ok (.iload_n 1, 1) := by decide +kernel
theorem dX4_pass_28 : decode cX4_pass 28 = .ok (.iadd, 1) := by decide +kernel
theorem dX4_pass_29 : decode cX4_pass 29 = .ok (.sipush 2000, 3) := by decide +kernel
theorem dX4_pass_32 : decode cX4_pass 32 = .ok (.if_icmp .le 9, 3) := by decide +kernel
theorem dX4_pass_35 : decode cX4_pass 35 = .ok (.aload_n 0, 1) := by decide +kernel
theorem dX4_pass_36 : decode cX4_pass 36 = .ok (.iconst 2, 1) := by decide +kernel
theorem dX4_pass_37 : decode cX4_pass 37 = .ok (.invokevirtual 46, 3) := by decide +kernel
theorem dX4_pass_40 : decode cX4_pass 40 = .ok (.ireturn, 1) := by decide +kernel
theorem dX4_pass_41 : decode cX4_pass 41 = .ok (.iconst 0, 1) := by decide +kernel
theorem dX4_pass_42 : decode cX4_pass 42 = .ok (.istore_n 2, 1) := by decide +kernel
theorem dX4_pass_43 : decode cX4_pass 43 = .ok (.iload_n 2, 1) := by decide +kernel
theorem dX4_pass_44 : decode cX4_pass 44 = .ok (.iload_n 1, 1) := by decide +kernel
theorem dX4_pass_45 : decode cX4_pass 45 = .ok (.if_icmp .ge 13, 3) := by decide +kernel
theorem dX4_pass_48 : decode cX4_pass 48 = .ok (.aload_n 0, 1) := by decide +kernel
