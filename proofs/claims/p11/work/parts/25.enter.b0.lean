theorem d_Mo_enter_0 : decode b_Mo_enter 0 = .ok (.iconst 0, 1) := by decide +kernel
theorem d_Mo_enter_1 : decode b_Mo_enter 1 = .ok (.istore_n 2, 1) := by decide +kernel
theorem d_Mo_enter_2 : decode b_Mo_enter 2 = .ok (.iconst 0, 1) := by decide +kernel
theorem d_Mo_enter_3 : decode b_Mo_enter 3 = .ok (.istore_n 3, 1) := by decide +kernel
theorem d_Mo_enter_4 : decode b_Mo_enter 4 = .ok (.iload_n 3, 1) := by decide +kernel
theorem d_Mo_enter_5 : decode b_Mo_enter 5 = .ok (.aload_n 0, 1) := by decide +kernel
theorem d_Mo_enter_6 : decode b_Mo_enter 6 = .ok (.getfield 53, 3) := by decide +kernel
theorem d_Mo_enter_9 : decode b_Mo_enter 9 = .ok (.if_icmp .ge 30, 3) := by decide +kernel
theorem d_Mo_enter_39 : decode b_Mo_enter 39 = .ok (.aload_n 0, 1) := by decide +kernel
theorem d_Mo_enter_40 : decode b_Mo_enter 40 = .ok (.getfield 53, 3) := by decide +kernel
theorem d_Mo_enter_43 : decode b_Mo_enter 43 = .ok (.istore_n 3, 1) := by decide +kernel
theorem d_Mo_enter_44 : decode b_Mo_enter 44 = .ok (.iload_n 3, 1) := by decide +kernel
theorem d_Mo_enter_45 : decode b_Mo_enter 45 = .ok (.iload_n 2, 1) := by decide +kernel
theorem d_Mo_enter_46 : decode b_Mo_enter 46 = .ok (.if_icmp .le 23, 3) := by decide +kernel
theorem d_Mo_enter_69 : decode b_Mo_enter 69 = .ok (.aload_n 0, 1) := by decide +kernel
theorem d_Mo_enter_70 : decode b_Mo_enter 70 = .ok (.getfield 13, 3) := by decide +kernel
theorem d_Mo_enter_73 : decode b_Mo_enter 73 = .ok (.iload_n 2, 1) := by decide +kernel
theorem d_Mo_enter_74 : decode b_Mo_enter 74 = .ok (.iload_n 1, 1) := by decide +kernel
theorem d_Mo_enter_75 : decode b_Mo_enter 75 = .ok (.iastore, 1) := by decide +kernel
theorem d_Mo_enter_76 : decode b_Mo_enter 76 = .ok (.aload_n 0, 1) := by decide +kernel
theorem d_Mo_enter_77 : decode b_Mo_enter 77 = .ok (.dup, 1) := by decide +kernel
theorem d_Mo_enter_78 : decode b_Mo_enter 78 = .ok (.getfield 53, 3) := by decide +kernel
theorem d_Mo_enter_81 : decode b_Mo_enter 81 = .ok (.iconst 1, 1) := by decide +kernel
theorem d_Mo_enter_82 : decode b_Mo_enter 82 = .ok (.iadd, 1) := by decide +kernel
theorem d_Mo_enter_83 : decode b_Mo_enter 83 = .ok (.putfield 53, 3) := by decide +kernel
theorem d_Mo_enter_86 : decode b_Mo_enter 86 = .ok (.aload_n 0, 1) := by decide +kernel
theorem d_Mo_enter_87 : decode b_Mo_enter 87 = .ok (.iload_n 1, 1) := by decide +kernel
theorem d_Mo_enter_88 : decode b_Mo_enter 88 = .ok (.iconst 1, 1) := by decide +kernel
theorem d_Mo_enter_89 : decode b_Mo_enter 89 = .ok (.invokevirtual 60, 3) := by decide +kernel
theorem d_Mo_enter_92 : decode b_Mo_enter 92 = .ok (.aload_n 0, 1) := by decide +kernel
theorem d_Mo_enter_93 : decode b_Mo_enter 93 = .ok (.getfield 53, 3) := by decide +kernel
theorem d_Mo_enter_96 : decode b_Mo_enter 96 = .ok (.aload_n 0, 1) := by decide +kernel
theorem d_Mo_enter_97 : decode b_Mo_enter 97 = .ok (.getfield 31, 3) := by decide +kernel
theorem d_Mo_enter_100 : decode b_Mo_enter 100 = .ok (.if_icmp .gt 4, 3) := by decide +kernel
theorem d_Mo_enter_104 : decode b_Mo_enter 104 = .ok (.aload_n 0, 1) := by decide +kernel
theorem d_Mo_enter_105 : decode b_Mo_enter 105 = .ok (.getfield 64, 3) := by decide +kernel
theorem d_Mo_enter_108 : decode b_Mo_enter 108 = .ok (.ifCond .eq 12, 3) := by decide +kernel
theorem d_Mo_enter_120 : decode b_Mo_enter 120 = .ok (.aload_n 0, 1) := by decide +kernel
theorem d_Mo_enter_121 : decode b_Mo_enter 121 = .ok (.getfield 53, 3) := by decide +kernel
theorem d_Mo_enter_124 : decode b_Mo_enter 124 = .ok (.aload_n 0, 1) := by decide +kernel
theorem d_Mo_enter_125 : decode b_Mo_enter 125 = .ok (.getfield 31, 3) := by decide +kernel
theorem d_Mo_enter_128 : decode b_Mo_enter 128 = .ok (.isub, 1) := by decide +kernel
theorem d_Mo_enter_129 : decode b_Mo_enter 129 = .ok (.istore_n 3, 1) := by decide +kernel
theorem d_Mo_enter_130 : decode b_Mo_enter 130 = .ok (.iconst 0, 1) := by decide +kernel
theorem d_Mo_enter_131 : decode b_Mo_enter 131 = .ok (.istore 4, 2) := by decide +kernel
theorem d_Mo_enter_133 : decode b_Mo_enter 133 = .ok (.iload 4, 2) := by decide +kernel
theorem d_Mo_enter_135 : decode b_Mo_enter 135 = .ok (.iload_n 3, 1) := by decide +kernel
theorem d_Mo_enter_136 : decode b_Mo_enter 136 = .ok (.if_icmp .ge 64, 3) := by decide +kernel
theorem d_Mo_enter_200 : decode b_Mo_enter 200 = .ok (.iload_n 3, 1) := by decide +kernel
theorem d_Mo_enter_201 : decode b_Mo_enter 201 = .ok (.istore 4, 2) := by decide +kernel
theorem d_Mo_enter_203 : decode b_Mo_enter 203 = .ok (.iload 4, 2) := by decide +kernel
theorem d_Mo_enter_205 : decode b_Mo_enter 205 = .ok (.aload_n 0, 1) := by decide +kernel
theorem d_Mo_enter_206 : decode b_Mo_enter 206 = .ok (.getfield 53, 3) := by decide +kernel
theorem d_Mo_enter_209 : decode b_Mo_enter 209 = .ok (.if_icmp .ge 25, 3) := by decide +kernel
theorem d_Mo_enter_234 : decode b_Mo_enter 234 = .ok (.aload_n 0, 1) := by decide +kernel
theorem d_Mo_enter_235 : decode b_Mo_enter 235 = .ok (.dup, 1) := by decide +kernel
theorem d_Mo_enter_236 : decode b_Mo_enter 236 = .ok (.getfield 53, 3) := by decide +kernel
theorem d_Mo_enter_239 : decode b_Mo_enter 239 = .ok (.iload_n 3, 1) := by decide +kernel
theorem d_Mo_enter_240 : decode b_Mo_enter 240 = .ok (.isub, 1) := by decide +kernel
theorem d_Mo_enter_241 : decode b_Mo_enter 241 = .ok (.putfield 53, 3) := by decide +kernel
theorem d_Mo_enter_244 : decode b_Mo_enter 244 = .ok (.return_, 1) := by decide +kernel
theorem d_Mo_enter_212 : decode b_Mo_enter 212 = .ok (.aload_n 0, 1) := by decide +kernel
theorem d_Mo_enter_213 : decode b_Mo_enter 213 = .ok (.getfield 13, 3) := by decide +kernel
theorem d_Mo_enter_216 : decode b_Mo_enter 216 = .ok (.iload 4, 2) := by decide +kernel
theorem d_Mo_enter_218 : decode b_Mo_enter 218 = .ok (.iload_n 3, 1) := by decide +kernel
theorem d_Mo_enter_219 : decode b_Mo_enter 219 = .ok (.isub, 1) := by decide +kernel
theorem d_Mo_enter_220 : decode b_Mo_enter 220 = .ok (.aload_n 0, 1) := by decide +kernel
theorem d_Mo_enter_221 : decode b_Mo_enter 221 = .ok (.getfield 13, 3) := by decide +kernel
theorem d_Mo_enter_224 : decode b_Mo_enter 224 = .ok (.iload 4, 2) := by decide +kernel
theorem d_Mo_enter_226 : decode b_Mo_enter 226 = .ok (.iaload, 1) := by decide +kernel
theorem d_Mo_enter_227 : decode b_Mo_enter 227 = .ok (.iastore, 1) := by decide +kernel
theorem d_Mo_enter_228 : decode b_Mo_enter 228 = .ok (.iinc 4 1, 3) := by decide +kernel
theorem d_Mo_enter_231 : decode b_Mo_enter 231 = .ok (.goto (-28), 3) := by decide +kernel
theorem d_Mo_enter_139 : decode b_Mo_enter 139 = .ok (.aload_n 0, 1) := by decide +kernel
theorem d_Mo_enter_140 : decode b_Mo_enter 140 = .ok (.getfield 13, 3) := by decide +kernel
theorem d_Mo_enter_143 : decode b_Mo_enter 143 = .ok (.iload 4, 2) := by decide +kernel
theorem d_Mo_enter_145 : decode b_Mo_enter 145 = .ok (.iaload, 1) := by decide +kernel
theorem d_Mo_enter_146 : decode b_Mo_enter 146 = .ok (.istore 5, 2) := by decide +kernel
theorem d_Mo_enter_148 : decode b_Mo_enter 148 = .ok (.aload_n 0, 1) := by decide +kernel
theorem d_Mo_enter_149 : decode b_Mo_enter 149 = .ok (.getfield 35, 3) := by decide +kernel
theorem d_Mo_enter_152 : decode b_Mo_enter 152 = .ok (.ifCond .eq 14, 3) := by decide +kernel
theorem d_Mo_enter_166 : decode b_Mo_enter 166 = .ok (.aload_n 0, 1) := by decide +kernel
theorem d_Mo_enter_167 : decode b_Mo_enter 167 = .ok (.iload 5, 2) := by decide +kernel
theorem d_Mo_enter_169 : decode b_Mo_enter 169 = .ok (.iconst 4, 1) := by decide +kernel
theorem d_Mo_enter_170 : decode b_Mo_enter 170 = .ok (.invokevirtual 60, 3) := by decide +kernel
theorem d_Mo_enter_173 : decode b_Mo_enter 173 = .ok (.aload_n 0, 1) := by decide +kernel
theorem d_Mo_enter_174 : decode b_Mo_enter 174 = .ok (.getfield 28, 3) := by decide +kernel
theorem d_Mo_enter_177 : decode b_Mo_enter 177 = .ok (.aload_n 0, 1) := by decide +kernel
theorem d_Mo_enter_178 : decode b_Mo_enter 178 = .ok (.getfield 67, 3) := by decide +kernel
theorem d_Mo_enter_181 : decode b_Mo_enter 181 = .ok (.iload 5, 2) := by decide +kernel
theorem d_Mo_enter_183 : decode b_Mo_enter 183 = .ok (.iastore, 1) := by decide +kernel
theorem d_Mo_enter_184 : decode b_Mo_enter 184 = .ok (.aload_n 0, 1) := by decide +kernel
theorem d_Mo_enter_185 : decode b_Mo_enter 185 = .ok (.dup, 1) := by decide +kernel
theorem d_Mo_enter_186 : decode b_Mo_enter 186 = .ok (.getfield 67, 3) := by decide +kernel
theorem d_Mo_enter_189 : decode b_Mo_enter 189 = .ok (.iconst 1, 1) := by decide +kernel
theorem d_Mo_enter_190 : decode b_Mo_enter 190 = .ok (.iadd, 1) := by decide +kernel
theorem d_Mo_enter_191 : decode b_Mo_enter 191 = .ok (.putfield 67, 3) := by decide +kernel
theorem d_Mo_enter_194 : decode b_Mo_enter 194 = .ok (.iinc 4 1, 3) := by decide +kernel
theorem d_Mo_enter_197 : decode b_Mo_enter 197 = .ok (.goto (-64), 3) := by decide +kernel
theorem d_Mo_enter_155 : decode b_Mo_enter 155 = .ok (.aload_n 0, 1) := by decide +kernel
theorem d_Mo_enter_156 : decode b_Mo_enter 156 = .ok (.getfield 7, 3) := by decide +kernel
theorem d_Mo_enter_159 : decode b_Mo_enter 159 = .ok (.iload 5, 2) := by decide +kernel
theorem d_Mo_enter_161 : decode b_Mo_enter 161 = .ok (.iconst 0, 1) := by decide +kernel
theorem d_Mo_enter_162 : decode b_Mo_enter 162 = .ok (.iastore, 1) := by decide +kernel
theorem d_Mo_enter_163 : decode b_Mo_enter 163 = .ok (.goto 10, 3) := by decide +kernel
theorem d_Mo_enter_111 : decode b_Mo_enter 111 = .ok (.aload_n 0, 1) := by decide +kernel
theorem d_Mo_enter_112 : decode b_Mo_enter 112 = .ok (.getfield 53, 3) := by decide +kernel
theorem d_Mo_enter_115 : decode b_Mo_enter 115 = .ok (.iconst 1, 1) := by decide +kernel
theorem d_Mo_enter_116 : decode b_Mo_enter 116 = .ok (.isub, 1) := by decide +kernel
theorem d_Mo_enter_117 : decode b_Mo_enter 117 = .ok (.goto 12, 3) := by decide +kernel
theorem d_Mo_enter_103 : decode b_Mo_enter 103 = .ok (.return_, 1) := by decide +kernel
theorem d_Mo_enter_49 : decode b_Mo_enter 49 = .ok (.aload_n 0, 1) := by decide +kernel
theorem d_Mo_enter_50 : decode b_Mo_enter 50 = .ok (.getfield 13, 3) := by decide +kernel
theorem d_Mo_enter_53 : decode b_Mo_enter 53 = .ok (.iload_n 3, 1) := by decide +kernel
theorem d_Mo_enter_54 : decode b_Mo_enter 54 = .ok (.aload_n 0, 1) := by decide +kernel
theorem d_Mo_enter_55 : decode b_Mo_enter 55 = .ok (.getfield 13, 3) := by decide +kernel
theorem d_Mo_enter_58 : decode b_Mo_enter 58 = .ok (.iload_n 3, 1) := by decide +kernel
theorem d_Mo_enter_59 : decode b_Mo_enter 59 = .ok (.iconst 1, 1) := by decide +kernel
theorem d_Mo_enter_60 : decode b_Mo_enter 60 = .ok (.isub, 1) := by decide +kernel
theorem d_Mo_enter_61 : decode b_Mo_enter 61 = .ok (.iaload, 1) := by decide +kernel
