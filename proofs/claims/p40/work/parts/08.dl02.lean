theorem dL_ways_0 : decode cL_ways 0 = .ok (.aload_n 1, 1) := by decide +kernel
theorem dL_ways_1 : decode cL_ways 1 = .ok (.arraylength, 1) := by decide +kernel
theorem dL_ways_2 : decode cL_ways 2 = .ok (.istore_n 2, 1) := by decide +kernel
theorem dL_ways_3 : decode cL_ways 3 = .ok (.iconst 0, 1) := by decide +kernel
theorem dL_ways_4 : decode cL_ways 4 = .ok (.istore_n 3, 1) := by decide +kernel
theorem dL_ways_5 : decode cL_ways 5 = .ok (.iconst 0, 1) := by decide +kernel
theorem dL_ways_6 : decode cL_ways 6 = .ok (.istore 4, 2) := by decide +kernel
theorem dL_ways_8 : decode cL_ways 8 = .ok (.iconst 0, 1) := by decide +kernel
theorem dL_ways_9 : decode cL_ways 9 = .ok (.istore 5, 2) := by decide +kernel
theorem dL_ways_11 : decode cL_ways 11 = .ok (.iconst 0, 1) := by decide +kernel
theorem dL_ways_12 : decode cL_ways 12 = .ok (.istore 6, 2) := by decide +kernel
theorem dL_ways_14 : decode cL_ways 14 = .ok (.iload 6, 2) := by decide +kernel
theorem dL_ways_16 : decode cL_ways 16 = .ok (.iload_n 2, 1) := by decide +kernel
theorem dL_ways_17 : decode cL_ways 17 = .ok (.if_icmp .ge 138, 3) := by decide +kernel
theorem dL_ways_20 : decode cL_ways 20 = .ok (.bipush 99, 2) := by decide +kernel
theorem dL_ways_22 : decode cL_ways 22 = .ok (.istore 7, 2) := by decide +kernel
theorem dL_ways_24 : decode cL_ways 24 = .ok (.iconst 0, 1) := by decide +kernel
theorem dL_ways_25 : decode cL_ways 25 = .ok (.istore 8, 2) := by decide +kernel
theorem dL_ways_27 : decode cL_ways 27 = .ok (.iload 8, 2) := by decide +kernel
theorem dL_ways_29 : decode cL_ways 29 = .ok (.iload_n 2, 1) := by decide +kernel
theorem dL_ways_30 : decode cL_ways 30 = .ok (.if_icmp .ge 31, 3) := by decide +kernel
theorem dL_ways_33 : decode cL_ways 33 = .ok (.aload_n 1, 1) := by decide +kernel
theorem dL_ways_34 : decode cL_ways 34 = .ok (.iload 8, 2) := by decide +kernel
theorem dL_ways_36 : decode cL_ways 36 = .ok (.iaload, 1) := by decide +kernel
theorem dL_ways_37 : decode cL_ways 37 = .ok (.aload_n 1, 1) := by decide +kernel
theorem dL_ways_38 : decode cL_ways 38 = .ok (.iload 6, 2) := by decide +kernel
theorem dL_ways_40 : decode cL_ways 40 = .ok (.iaload, 1) := by decide +kernel
theorem dL_ways_41 : decode cL_ways 41 = .ok (.if_icmp .le 14, 3) := by decide +kernel
theorem dL_ways_44 : decode cL_ways 44 = .ok (.iload 7, 2) := by decide +kernel
theorem dL_ways_46 : decode cL_ways 46 = .ok (.aload_n 1, 1) := by decide +kernel
theorem dL_ways_47 : decode cL_ways 47 = .ok (.iload 8, 2) := by decide +kernel
theorem dL_ways_49 : decode cL_ways 49 = .ok (.iaload, 1) := by decide +kernel
theorem dL_ways_50 : decode cL_ways 50 = .ok (.invokestatic 53, 3) := by decide +kernel
theorem dL_ways_53 : decode cL_ways 53 = .ok (.istore 7, 2) := by decide +kernel
theorem dL_ways_55 : decode cL_ways 55 = .ok (.iinc 8 1, 3) := by decide +kernel
theorem dL_ways_58 : decode cL_ways 58 = .ok (.goto (-31), 3) := by decide +kernel
theorem dL_ways_61 : decode cL_ways 61 = .ok (.iload 7, 2) := by decide +kernel
theorem dL_ways_63 : decode cL_ways 63 = .ok (.aload_n 1, 1) := by decide +kernel
theorem dL_ways_64 : decode cL_ways 64 = .ok (.iload 6, 2) := by decide +kernel
theorem dL_ways_66 : decode cL_ways 66 = .ok (.iaload, 1) := by decide +kernel
theorem dL_ways_67 : decode cL_ways 67 = .ok (.isub, 1) := by decide +kernel
theorem dL_ways_68 : decode cL_ways 68 = .ok (.istore 8, 2) := by decide +kernel
theorem dL_ways_70 : decode cL_ways 70 = .ok (.iload 7, 2) := by decide +kernel
theorem dL_ways_72 : decode cL_ways 72 = .ok (.aload_n 1, 1) := by decide +kernel
theorem dL_ways_73 : decode cL_ways 73 = .ok (.iload 6, 2) := by decide +kernel
theorem dL_ways_75 : decode cL_ways 75 = .ok (.iaload, 1) := by decide +kernel
theorem dL_ways_76 : decode cL_ways 76 = .ok (.iadd, 1) := by decide +kernel
theorem dL_ways_77 : decode cL_ways 77 = .ok (.invokestatic 90, 3) := by decide +kernel
theorem dL_ways_80 : decode cL_ways 80 = .ok (.istore 9, 2) := by decide +kernel
theorem dL_ways_82 : decode cL_ways 82 = .ok (.iload 7, 2) := by decide +kernel
theorem dL_ways_84 : decode cL_ways 84 = .ok (.bipush 99, 2) := by decide +kernel
theorem dL_ways_86 : decode cL_ways 86 = .ok (.if_icmp .eq 63, 3) := by decide +kernel
theorem dL_ways_89 : decode cL_ways 89 = .ok (.iload 8, 2) := by decide +kernel
theorem dL_ways_91 : decode cL_ways 91 = .ok (.aload_n 0, 1) := by decide +kernel
theorem dL_ways_92 : decode cL_ways 92 = .ok (.invokestatic 60, 3) := by decide +kernel
theorem dL_ways_95 : decode cL_ways 95 = .ok (.if_icmp .lt 54, 3) := by decide +kernel
theorem dL_ways_98 : decode cL_ways 98 = .ok (.iload 8, 2) := by decide +kernel
theorem dL_ways_100 : decode cL_ways 100 = .ok (.iload_n 3, 1) := by decide +kernel
theorem dL_ways_101 : decode cL_ways 101 = .ok (.if_icmp .ge 6, 3) := by decide +kernel
theorem dL_ways_104 : decode cL_ways 104 = .ok (.goto 45, 3) := by decide +kernel
theorem dL_ways_107 : decode cL_ways 107 = .ok (.iload 8, 2) := by decide +kernel
theorem dL_ways_109 : decode cL_ways 109 = .ok (.iload_n 3, 1) := by decide +kernel
theorem dL_ways_110 : decode cL_ways 110 = .ok (.if_icmp .gt 26, 3) := by decide +kernel
theorem dL_ways_113 : decode cL_ways 113 = .ok (.iload 9, 2) := by decide +kernel
theorem dL_ways_115 : decode cL_ways 115 = .ok (.iload 5, 2) := by decide +kernel
theorem dL_ways_117 : decode cL_ways 117 = .ok (.if_icmp .lt 19, 3) := by decide +kernel
theorem dL_ways_120 : decode cL_ways 120 = .ok (.iload 9, 2) := by decide +kernel
theorem dL_ways_122 : decode cL_ways 122 = .ok (.iload 5, 2) := by decide +kernel
theorem dL_ways_124 : decode cL_ways 124 = .ok (.if_icmp .ne 25, 3) := by decide +kernel
theorem dL_ways_127 : decode cL_ways 127 = .ok (.aload_n 1, 1) := by decide +kernel
theorem dL_ways_128 : decode cL_ways 128 = .ok (.iload 6, 2) := by decide +kernel
theorem dL_ways_130 : decode cL_ways 130 = .ok (.iaload, 1) := by decide +kernel
theorem dL_ways_131 : decode cL_ways 131 = .ok (.iload 4, 2) := by decide +kernel
theorem dL_ways_133 : decode cL_ways 133 = .ok (.if_icmp .ge 16, 3) := by decide +kernel
theorem dL_ways_136 : decode cL_ways 136 = .ok (.iload 8, 2) := by decide +kernel
theorem dL_ways_138 : decode cL_ways 138 = .ok (.istore_n 3, 1) := by decide +kernel
theorem dL_ways_139 : decode cL_ways 139 = .ok (.aload_n 1, 1) := by decide +kernel
theorem dL_ways_140 : decode cL_ways 140 = .ok (.iload 6, 2) := by decide +kernel
theorem dL_ways_142 : decode cL_ways 142 = .ok (.iaload, 1) := by decide +kernel
theorem dL_ways_143 : decode cL_ways 143 = .ok (.istore 4, 2) := by decide +kernel
theorem dL_ways_145 : decode cL_ways 145 = .ok (.iload 9, 2) := by decide +kernel
theorem dL_ways_147 : decode cL_ways 147 = .ok (.istore 5, 2) := by decide +kernel
theorem dL_ways_149 : decode cL_ways 149 = .ok (.iinc 6 1, 3) := by decide +kernel
theorem dL_ways_152 : decode cL_ways 152 = .ok (.goto (-138), 3) := by decide +kernel
theorem dL_ways_155 : decode cL_ways 155 = .ok (.iload_n 2, 1) := by decide +kernel
theorem dL_ways_156 : decode cL_ways 156 = .ok (.newarray .int, 2) := by decide +kernel
theorem dL_ways_158 : decode cL_ways 158 = .ok (.astore 6, 2) := by decide +kernel
theorem dL_ways_160 : decode cL_ways 160 = .ok (.iconst 0, 1) := by decide +kernel
theorem dL_ways_161 : decode cL_ways 161 = .ok (.istore 7, 2) := by decide +kernel
theorem dL_ways_163 : decode cL_ways 163 = .ok (.iconst 0, 1) := by decide +kernel
theorem dL_ways_164 : decode cL_ways 164 = .ok (.istore 8, 2) := by decide +kernel
theorem dL_ways_166 : decode cL_ways 166 = .ok (.iconst 0, 1) := by decide +kernel
theorem dL_ways_167 : decode cL_ways 167 = .ok (.istore 9, 2) := by decide +kernel
theorem dL_ways_169 : decode cL_ways 169 = .ok (.aload_n 1, 1) := by decide +kernel
theorem dL_ways_170 : decode cL_ways 170 = .ok (.astore 10, 2) := by decide +kernel
theorem dL_ways_172 : decode cL_ways 172 = .ok (.aload 10, 2) := by decide +kernel
theorem dL_ways_174 : decode cL_ways 174 = .ok (.arraylength, 1) := by decide +kernel
theorem dL_ways_175 : decode cL_ways 175 = .ok (.istore 11, 2) := by decide +kernel
theorem dL_ways_177 : decode cL_ways 177 = .ok (.iconst 0, 1) := by decide +kernel
theorem dL_ways_178 : decode cL_ways 178 = .ok (.istore 12, 2) := by decide +kernel
theorem dL_ways_180 : decode cL_ways 180 = .ok (.iload 12, 2) := by decide +kernel
theorem dL_ways_182 : decode cL_ways 182 = .ok (.iload 11, 2) := by decide +kernel
theorem dL_ways_184 : decode cL_ways 184 = .ok (.if_icmp .ge 42, 3) := by decide +kernel
theorem dL_ways_187 : decode cL_ways 187 = .ok (.aload 10, 2) := by decide +kernel
theorem dL_ways_189 : decode cL_ways 189 = .ok (.iload 12, 2) := by decide +kernel
theorem dL_ways_191 : decode cL_ways 191 = .ok (.iaload, 1) := by decide +kernel
theorem dL_ways_192 : decode cL_ways 192 = .ok (.istore 13, 2) := by decide +kernel
theorem dL_ways_194 : decode cL_ways 194 = .ok (.iload 7, 2) := by decide +kernel
theorem dL_ways_196 : decode cL_ways 196 = .ok (.iload 13, 2) := by decide +kernel
theorem dL_ways_198 : decode cL_ways 198 = .ok (.invokestatic 94, 3) := by decide +kernel
theorem dL_ways_201 : decode cL_ways 201 = .ok (.istore 7, 2) := by decide +kernel
theorem dL_ways_203 : decode cL_ways 203 = .ok (.iload 8, 2) := by decide +kernel
theorem dL_ways_205 : decode cL_ways 205 = .ok (.iload 13, 2) := by decide +kernel
theorem dL_ways_207 : decode cL_ways 207 = .ok (.ineg, 1) := by decide +kernel
theorem dL_ways_208 : decode cL_ways 208 = .ok (.invokestatic 94, 3) := by decide +kernel
theorem dL_ways_211 : decode cL_ways 211 = .ok (.istore 8, 2) := by decide +kernel
theorem dL_ways_213 : decode cL_ways 213 = .ok (.iload 9, 2) := by decide +kernel
theorem dL_ways_215 : decode cL_ways 215 = .ok (.iload 13, 2) := by decide +kernel
theorem dL_ways_217 : decode cL_ways 217 = .ok (.iadd, 1) := by decide +kernel
theorem dL_ways_218 : decode cL_ways 218 = .ok (.istore 9, 2) := by decide +kernel
theorem dL_ways_220 : decode cL_ways 220 = .ok (.iinc 12 1, 3) := by decide +kernel
theorem dL_ways_223 : decode cL_ways 223 = .ok (.goto (-43), 3) := by decide +kernel
theorem dL_ways_226 : decode cL_ways 226 = .ok (.iload 7, 2) := by decide +kernel
theorem dL_ways_228 : decode cL_ways 228 = .ok (.iload 8, 2) := by decide +kernel
theorem dL_ways_230 : decode cL_ways 230 = .ok (.if_icmp .eq 18, 3) := by decide +kernel
theorem dL_ways_233 : decode cL_ways 233 = .ok (.iload 7, 2) := by decide +kernel
theorem dL_ways_235 : decode cL_ways 235 = .ok (.iload 8, 2) := by decide +kernel
theorem dL_ways_237 : decode cL_ways 237 = .ok (.if_icmp .le 7, 3) := by decide +kernel
theorem dL_ways_240 : decode cL_ways 240 = .ok (.iconst (-1), 1) := by decide +kernel
theorem dL_ways_241 : decode cL_ways 241 = .ok (.goto 36, 3) := by decide +kernel
