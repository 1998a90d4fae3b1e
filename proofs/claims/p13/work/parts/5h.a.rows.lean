theorem dX1_keep_0 : decode cX1_keep 0 = .ok (.aload_n 0, 1) := by decide +kernel
theorem dX1_keep_1 : decode cX1_keep 1 = .ok (.getfield 65, 3) := by decide +kernel
theorem dX1_keep_4 : decode cX1_keep 4 = .ok (.sipush 200, 3) := by decide +kernel
theorem dX1_keep_7 : decode cX1_keep 7 = .ok (.if_icmp .ne 16, 3) := by decide +kernel
theorem dX1_keep_23 : decode cX1_keep 23 = .ok (.aload_n 0, 1) := by decide +kernel
theorem dX1_keep_24 : decode cX1_keep 24 = .ok (.getfield 65, 3) := by decide +kernel
theorem dX1_keep_27 : decode cX1_keep 27 = .ok (.sipush 199, 3) := by decide +kernel
theorem dX1_keep_30 : decode cX1_keep 30 = .ok (.invokestatic 135, 3) := by decide +kernel
theorem dX1_keep_33 : decode cX1_keep 33 = .ok (.istore 5, 2) := by decide +kernel
theorem dX1_keep_35 : decode cX1_keep 35 = .ok (.aload_n 0, 1) := by decide +kernel
theorem dX1_keep_36 : decode cX1_keep 36 = .ok (.iload 5, 2) := by decide +kernel
theorem dX1_keep_38 : decode cX1_keep 38 = .ok (.iconst 1, 1) := by decide +kernel
theorem dX1_keep_39 : decode cX1_keep 39 = .ok (.iadd, 1) := by decide +kernel
theorem dX1_keep_40 : decode cX1_keep 40 = .ok (.putfield 65, 3) := by decide +kernel
theorem dX1_keep_43 : decode cX1_keep 43 = .ok (.iload 5, 2) := by decide +kernel
theorem dX1_keep_45 : decode cX1_keep 45 = .ok (.ifCond .le 86, 3) := by decide +kernel
theorem dX1_keep_131 : decode cX1_keep 131 = .ok (.aload_n 0, 1) := by decide +kernel
theorem dX1_keep_132 : decode cX1_keep 132 = .ok (.getfield 30, 3) := by decide +kernel
theorem dX1_keep_135 : decode cX1_keep 135 = .ok (.iload 5, 2) := by decide +kernel
theorem dX1_keep_137 : decode cX1_keep 137 = .ok (.iload_n 1, 1) := by decide +kernel
theorem dX1_keep_138 : decode cX1_keep 138 = .ok (.iconst (-1), 1) := by decide +kernel
theorem dX1_keep_139 : decode cX1_keep 139 = .ok (.if_icmp .ne 7, 3) := by decide +kernel
theorem dX1_keep_146 : decode cX1_keep 146 = .ok (.iload_n 1, 1) := by decide +kernel
theorem dX1_keep_147 : decode cX1_keep 147 = .ok (.iastore, 1) := by decide +kernel
theorem dX1_keep_148 : decode cX1_keep 148 = .ok (.aload_n 0, 1) := by decide +kernel
theorem dX1_keep_149 : decode cX1_keep 149 = .ok (.getfield 33, 3) := by decide +kernel
theorem dX1_keep_152 : decode cX1_keep 152 = .ok (.iload 5, 2) := by decide +kernel
theorem dX1_keep_154 : decode cX1_keep 154 = .ok (.iload_n 1, 1) := by decide +kernel
theorem dX1_keep_155 : decode cX1_keep 155 = .ok (.iconst (-1), 1) := by decide +kernel
theorem dX1_keep_156 : decode cX1_keep 156 = .ok (.if_icmp .ne 7, 3) := by decide +kernel
theorem dX1_keep_163 : decode cX1_keep 163 = .ok (.iload_n 2, 1) := by decide +kernel
theorem dX1_keep_164 : decode cX1_keep 164 = .ok (.iastore, 1) := by decide +kernel
theorem dX1_keep_165 : decode cX1_keep 165 = .ok (.aload_n 0, 1) := by decide +kernel
theorem dX1_keep_166 : decode cX1_keep 166 = .ok (.getfield 36, 3) := by decide +kernel
theorem dX1_keep_169 : decode cX1_keep 169 = .ok (.iload 5, 2) := by decide +kernel
theorem dX1_keep_171 : decode cX1_keep 171 = .ok (.iload_n 3, 1) := by decide +kernel
theorem dX1_keep_172 : decode cX1_keep 172 = .ok (.iastore, 1) := by decide +kernel
theorem dX1_keep_173 : decode cX1_keep 173 = .ok (.aload_n 0, 1) := by decide +kernel
theorem dX1_keep_174 : decode cX1_keep 174 = .ok (.getfield 39, 3) := by decide +kernel
theorem dX1_keep_177 : decode cX1_keep 177 = .ok (.iload 5, 2) := by decide +kernel
theorem dX1_keep_179 : decode cX1_keep 179 = .ok (.iload 4, 2) := by decide +kernel
theorem dX1_keep_181 : decode cX1_keep 181 = .ok (.iastore, 1) := by decide +kernel
theorem dX1_keep_182 : decode cX1_keep 182 = .ok (.return_, 1) := by decide +kernel
theorem dX1_keep_142 : decode cX1_keep 142 = .ok (.iload_n 2, 1) := by decide +kernel
theorem dX1_keep_143 : decode cX1_keep 143 = .ok (.goto 4, 3) := by decide +kernel
theorem dX1_keep_159 : decode cX1_keep 159 = .ok (.iconst (-1), 1) := by decide +kernel
theorem dX1_keep_160 : decode cX1_keep 160 = .ok (.goto 4, 3) := by decide +kernel
theorem dX1_keep_48 : decode cX1_keep 48 = .ok (.aload_n 0, 1) := by decide +kernel
theorem dX1_keep_49 : decode cX1_keep 49 = .ok (.getfield 36, 3) := by decide +kernel
theorem dX1_keep_52 : decode cX1_keep 52 = .ok (.iload 5, 2) := by decide +kernel
theorem dX1_keep_54 : decode cX1_keep 54 = .ok (.iconst 1, 1) := by decide +kernel
theorem dX1_keep_55 : decode cX1_keep 55 = .ok (.isub, 1) := by decide +kernel
theorem dX1_keep_56 : decode cX1_keep 56 = .ok (.iaload, 1) := by decide +kernel
theorem dX1_keep_57 : decode cX1_keep 57 = .ok (.iload_n 3, 1) := by decide +kernel
theorem dX1_keep_58 : decode cX1_keep 58 = .ok (.if_icmp .le 73, 3) := by decide +kernel
theorem dX1_keep_61 : decode cX1_keep 61 = .ok (.aload_n 0, 1) := by decide +kernel
theorem dX1_keep_62 : decode cX1_keep 62 = .ok (.getfield 30, 3) := by decide +kernel
theorem dX1_keep_65 : decode cX1_keep 65 = .ok (.iload 5, 2) := by decide +kernel
theorem dX1_keep_67 : decode cX1_keep 67 = .ok (.aload_n 0, 1) := by decide +kernel
theorem dX1_keep_68 : decode cX1_keep 68 = .ok (.getfield 30, 3) := by decide +kernel
theorem dX1_keep_71 : decode cX1_keep 71 = .ok (.iload 5, 2) := by decide +kernel
theorem dX1_keep_73 : decode cX1_keep 73 = .ok (.iconst 1, 1) := by decide +kernel
theorem dX1_keep_74 : decode cX1_keep 74 = .ok (.isub, 1) := by decide +kernel
theorem dX1_keep_75 : decode cX1_keep 75 = .ok (.iaload, 1) := by decide +kernel
theorem dX1_keep_76 : decode cX1_keep 76 = .ok (.iastore, 1) := by decide +kernel
theorem dX1_keep_77 : decode cX1_keep 77 = .ok (.aload_n 0, 1) := by decide +kernel
theorem dX1_keep_78 : decode cX1_keep 78 = .ok (.getfield 33, 3) := by decide +kernel
theorem dX1_keep_81 : decode cX1_keep 81 = .ok (.iload 5, 2) := by decide +kernel
theorem dX1_keep_83 : decode cX1_keep 83 = .ok (.aload_n 0, 1) := by decide +kernel
theorem dX1_keep_84 : decode cX1_keep 84 = .ok (.getfield 33, 3) := by decide +kernel
theorem dX1_keep_87 : decode cX1_keep 87 = .ok (.iload 5, 2) := by decide +kernel
theorem dX1_keep_89 : decode cX1_keep 89 = .ok (.iconst 1, 1) := by decide +kernel
theorem dX1_keep_90 : decode cX1_keep 90 = .ok (.isub, 1) := by decide +kernel
theorem dX1_keep_91 : decode cX1_keep 91 = .ok (.iaload, 1) := by decide +kernel
theorem dX1_keep_92 : decode cX1_keep 92 = .ok (.iastore, 1) := by decide +kernel
theorem dX1_keep_93 : decode cX1_keep 93 = .ok (.aload_n 0, 1) := by decide +kernel
theorem dX1_keep_94 : decode cX1_keep 94 = .ok (.getfield 36, 3) := by decide +kernel
theorem dX1_keep_97 : decode cX1_keep 97 = .ok (.iload 5, 2) := by decide +kernel
theorem dX1_keep_99 : decode cX1_keep 99 = .ok (.aload_n 0, 1) := by decide +kernel
theorem dX1_keep_100 : decode cX1_keep 100 = .ok (.getfield 36, 3) := by decide +kernel
theorem dX1_keep_103 : decode cX1_keep 103 = .ok (.iload 5, 2) := by decide +kernel
theorem dX1_keep_105 : decode cX1_keep 105 = .ok (.iconst 1, 1) := by decide +kernel
theorem dX1_keep_106 : decode cX1_keep 106 = .ok (.isub, 1) := by decide +kernel
theorem dX1_keep_107 : decode cX1_keep 107 = .ok (.iaload, 1) := by decide +kernel
theorem dX1_keep_108 : decode cX1_keep 108 = .ok (.iastore, 1) := by decide +kernel
theorem dX1_keep_109 : decode cX1_keep 109 = .ok (.aload_n 0, 1) := by decide +kernel
theorem dX1_keep_110 : decode cX1_keep 110 = .ok (.getfield 39, 3) := by decide +kernel
theorem dX1_keep_113 : decode cX1_keep 113 = .ok (.iload 5, 2) := by decide +kernel
theorem dX1_keep_115 : decode cX1_keep 115 = .ok (.aload_n 0, 1) := by decide +kernel
theorem dX1_keep_116 : decode cX1_keep 116 = .ok (.getfield 39, 3) := by decide +kernel
theorem dX1_keep_119 : decode cX1_keep 119 = .ok (.iload 5, 2) := by decide +kernel
theorem dX1_keep_121 : decode cX1_keep 121 = .ok (.iconst 1, 1) := by decide +kernel
theorem dX1_keep_122 : decode cX1_keep 122 = .ok (.isub, 1) := by decide +kernel
theorem dX1_keep_123 : decode cX1_keep 123 = .ok (.iaload, 1) := by decide +kernel
theorem dX1_keep_124 : decode cX1_keep 124 = .ok (.iastore, 1) := by decide +kernel
theorem dX1_keep_125 : decode cX1_keep 125 = .ok (.iinc 5 (-1), 3) := by decide +kernel
theorem dX1_keep_128 : decode cX1_keep 128 = .ok (.goto (-85), 3) := by decide +kernel
theorem dX1_keep_10 : decode cX1_keep 10 = .ok (.iload_n 3, 1) := by decide +kernel
theorem dX1_keep_11 : decode cX1_keep 11 = .ok (.aload_n 0, 1) := by decide +kernel
theorem dX1_keep_12 : decode cX1_keep 12 = .ok (.getfield 36, 3) := by decide +kernel
theorem dX1_keep_15 : decode cX1_keep 15 = .ok (.sipush 199, 3) := by decide +kernel
theorem dX1_keep_18 : decode cX1_keep 18 = .ok (.iaload, 1) := by decide +kernel
theorem dX1_keep_19 : decode cX1_keep 19 = .ok (.if_icmp .lt 4, 3) := by decide +kernel
theorem dX1_keep_22 : decode cX1_keep 22 = .ok (.return_, 1) := by decide +kernel
